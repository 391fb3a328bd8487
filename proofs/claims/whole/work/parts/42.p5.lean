section P5
variable {G : Gx} {b : Nat} {h0 : Hp} {nx : Nat}
theorem ts_no {tp : Nat → Int32} {z p : Nat} (h : ¬ (hereP tp z p = nI 100 ∨ hereP tp z p = nI 107)) : tsP tp z p = (false, p, []) := by
  unfold tsP
  rw [if_neg h]
set_option maxRecDepth 100000 in
set_option maxHeartbeats 4000000 in
theorem f_pz0 {st : MS} {tp : Nat → Int32} {z p a c d n mg : Nat} (hR : Rd st tp z p a c d) (hd : d ≤ 5) (hg : 3 ≤ mg) (ihP : ∀ (st : MS), Rd st tp z (p + 1) a c (d + 1) → p < z → d < 5 → ∃ st' : MS, F_X12_factor G mg (encM G b st h0) nx b = some ((), encM G b st' h0, nx) ∧ Rs st a c (d + 1) (pz tp z n 0 (d + 1) (p + 1)) st') (ihE : ∀ (st : MS), Rd st tp z (p + 1) a c (d + 1) → p < z → d < 5 → ∃ st' : MS, F_X12_some G mg (encM G b st h0) nx b = some ((), encM G b st' h0, nx) ∧ Rs st a c (d + 1) (pz tp z n 2 (d + 1) (p + 1)) st') : ∃ st' : MS, F_X12_factor G (mg + 1) (encM G b st h0) nx b = some ((), encM G b st' h0, nx) ∧ Rs st a c d (pz tp z (n + 1) 0 d p) st' := by
  have hR0 := hR
  obtain ⟨hA, h7, h8, h4, ha, hc, hcp, htp⟩ := hR
  obtain ⟨h5, h6, hz, hpz⟩ := hA
  have e1 := f_here (G := G) (b := b) (h0 := h0) (nx := nx) (st := st) (z := z) (p := p) ⟨h5, h6, hz, hpz⟩
  rw [here_cg hz htp] at e1
  have ets := f_ts (G := G) (b := b) (h0 := h0) (nx := nx) (ce := F_X12_every G mg) (cf := F_X12_factor G mg) (cs := F_X12_some G mg) hR0
  obtain ⟨mg, rfl⟩ : ∃ q, mg = q + 3 := ⟨mg - 3, by omega⟩
  have ez := pz_e0 (tp := tp) (z := z) (n := n) (d := d) (p := p)
  rw [F_X12_factor_s]
  unfold B_X12_factor F_X12_factor_25 F_X12_factor_39 F_X12_factor_69 F_X12_factor_101 F_X12_factor_129
  simp (maxSteps := 3000000) (disch := omega) only [h7, e1, ma_msa_n, ma_msa_s, mi_msi_n, mi_msi_s, ml_msl_n, ml_msl_s, ma_msi, ma_msl, mi_msa, mi_msl, ml_msa, ml_msi, msa_msa, msi_msi, msl_msl, ck_m, gf_s, gf_image, gf_truths, gf_knownRow, gf_daysRow, gf_bests, gf_nots, gf_lookeds, gf_bestsAt, gf_worths, gf_keptKnown, gf_keptDays, gf_round, gf_sums, gf_bestRound, gf_bodies, gf_thrown, gf_hasImage, gf_act, gf_spot, gf_size, gf_isWrong, gf_open, gf_edgeThing, gf_edgeMore, gf_stamp, gf_whose, gf_wage, gf_roundMany, gf_bestSet, gf_ran, gf_kind, gf_who, gf_tellsV, pf_thrown, pf_hasImage, pf_act, pf_spot, pf_size, pf_isWrong, pf_open, pf_edgeThing, pf_edgeMore, pf_stamp, pf_whose, pf_wage, pf_roundMany, pf_bestSet, pf_ran, pf_kind, pf_who, pf_tellsV, al_s, as_s, al_image, as_image, al_truths, as_truths0, as_truths1, al_knownRow, as_knownRow, al_daysRow, as_daysRow, al_bests, as_bests, al_nots, as_nots, al_lookeds, as_lookeds, al_bestsAt, as_bestsAt, al_worths, as_worths, al_keptKnown, as_keptKnown, al_keptDays, as_keptDays, al_round, as_round, al_sums, as_sums, al_bestRound, as_bestRound, al_bodies, as_bodies, cl_some, nm_b, nn_some, qn_some, qn_none, zk_0, zk_1, zk_n0, zk_n1, nI_add, pk_mul, pk_sub, nI_leE, nI_ltE, nI_eqE, nI_lt0, nI_ge0, nI_eq0, nI_gt0, nI_le0, ilt_t, ilt_f, ile_t, ile_f, ieq_t, ieq_f, if_tt, if_ff, Nat.add_sub_cancel]
  by_cases c33 : hereP tp z p = nI 33
  · rw [if_pos c33]
    have hin : p < z := here_in (fun q => by rw [q] at c33; exact absurd c33 (by decide))
    by_cases hd5 : d = 5
    · have hn : ¬ d < 5 := by omega
      rw [if_neg (show ¬ (d < 5 ∧ hereP tp z p = nI 33) from fun q => hn q.1), if_neg (show ¬ (d < 5 ∧ hereP tp z p = nI 40) from fun q => hn q.1), ts_no (by rw [c33]; decide)] at ez
      rw [ez]
      have w7 : mi (msi (msi (msi st 7 (nI 1)) 8 (nI (d + 1))) 5 (nI (p + 0))) 7 = nI 1 := rfl
      have ef := f_factorW (G := G) (b := b) (h0 := h0) (nx := nx) (m := mg + 2) w7
      have em := f_emitsW (G := G) (b := b) (h0 := h0) (nx := nx) w7 (-1)
      have h65 : nI 5 = nI 5 := rfl
      refine ⟨msi (msi (msi (msi st 7 (nI 1)) 8 (nI (d + 1))) 5 (nI (p + 0))) 8 (nI d), ?_, Rs.bad (fun k n5 n7 n8 => by rw [mi_msi_n n8, mi_msi_n n5, mi_msi_n n8, mi_msi_n n7]) rfl rfl (by rw [mi_msi_n (by decide), mi_msi_s]; rfl) mi_msi_s rfl⟩
      subst hd5
      simp (maxSteps := 3000000) (disch := omega) only [h8, h5, c33, ef, em, ma_msa_n, ma_msa_s, mi_msi_n, mi_msi_s, ml_msl_n, ml_msl_s, ma_msi, ma_msl, mi_msa, mi_msl, ml_msa, ml_msi, msa_msa, msi_msi, msl_msl, ck_m, gf_s, gf_image, gf_truths, gf_knownRow, gf_daysRow, gf_bests, gf_nots, gf_lookeds, gf_bestsAt, gf_worths, gf_keptKnown, gf_keptDays, gf_round, gf_sums, gf_bestRound, gf_bodies, gf_thrown, gf_hasImage, gf_act, gf_spot, gf_size, gf_isWrong, gf_open, gf_edgeThing, gf_edgeMore, gf_stamp, gf_whose, gf_wage, gf_roundMany, gf_bestSet, gf_ran, gf_kind, gf_who, gf_tellsV, pf_thrown, pf_hasImage, pf_act, pf_spot, pf_size, pf_isWrong, pf_open, pf_edgeThing, pf_edgeMore, pf_stamp, pf_whose, pf_wage, pf_roundMany, pf_bestSet, pf_ran, pf_kind, pf_who, pf_tellsV, al_s, as_s, al_image, as_image, al_truths, as_truths0, as_truths1, al_knownRow, as_knownRow, al_daysRow, as_daysRow, al_bests, as_bests, al_nots, as_nots, al_lookeds, as_lookeds, al_bestsAt, as_bestsAt, al_worths, as_worths, al_keptKnown, as_keptKnown, al_keptDays, as_keptDays, al_round, as_round, al_sums, as_sums, al_bestRound, as_bestRound, al_bodies, as_bodies, cl_some, nm_b, nn_some, qn_some, qn_none, zk_0, zk_1, zk_n0, zk_n1, nI_add, pk_mul, pk_sub, nI_leE, nI_ltE, nI_eqE, nI_lt0, nI_ge0, nI_eq0, nI_gt0, nI_le0, ilt_t, ilt_f, ile_t, ile_f, ieq_t, ieq_f, if_tt, if_ff, Nat.add_sub_cancel]
    · have hlt : d < 5 := by omega
      rw [if_pos (show d < 5 ∧ hereP tp z p = nI 33 from ⟨hlt, c33⟩)] at ez
      rw [ez]
      clear ez
      obtain ⟨st2, e2, r2⟩ := ihP (msi (msi (msi st 7 (nI 0)) 8 (nI (d + 1))) 5 (nI (p + 1))) ⟨⟨mi_msi_s, h6, hz, by omega⟩, rfl, rfl, h4, ha, hc, by omega, htp⟩ hin hlt
      obtain ⟨o1, o2, o3⟩ := pz_ok (tp := tp) (z := z) n 0 (d + 1) (p + 1) (by omega)
      have rd1 : Rd (msi (msi (msi st 7 (nI 0)) 8 (nI (d + 1))) 5 (nI (p + 1))) tp z (p + 1) a c (d + 1) := ⟨⟨mi_msi_s, h6, hz, by omega⟩, rfl, rfl, h4, ha, hc, by omega, htp⟩
      generalize pz tp z n 0 (d + 1) (p + 1) = r at r2 o1 o2 o3 ⊢
      have pre : ∀ {r : Bool × Nat × List Int32} {s' : MS} {e : Nat}, Rs (msi (msi (msi st 7 (nI 0)) 8 (nI (d + 1))) 5 (nI (p + 1))) a c e r s' → Rs st a c e r s' := fun h => h.pre (fun k n5 n7 n8 => by rw [mi_msi_n n5, mi_msi_n n8, mi_msi_n n7]) rfl rfl
      by_cases ok : r.1 = true
      · rw [if_pos ok]
        obtain ⟨o4, _⟩ := o3 ok
        obtain ⟨rd2, es2⟩ := r2.rd rd1 ok (by omega) o2
        have em := f_emits (G := G) (b := b) (h0 := h0) (nx := nx) (st := st2) (a := a) (c := c + r.2.2.length) rd2.2.1 rd2.2.2.2.1 ha rd2.2.2.2.2.2.1 (by omega) (-1)
        have r3 := Rs.emit rd2 (-1)
        have h83 : mi (msa st2 1 (emR (ma st2 1) a (c + r.2.2.length) [-1])) 8 = nI (d + 1) := rd2.2.2.1
        refine ⟨msi (msa st2 1 (emR (ma st2 1) a (c + r.2.2.length) [-1])) 8 (nI d), ?_, (pre (r2.seq ok r3 ha (by omega) (fun _ => rfl))).out⟩
        simp (maxSteps := 3000000) (disch := omega) only [h8, h5, c33, e2, em, h83, ma_msa_n, ma_msa_s, mi_msi_n, mi_msi_s, ml_msl_n, ml_msl_s, ma_msi, ma_msl, mi_msa, mi_msl, ml_msa, ml_msi, msa_msa, msi_msi, msl_msl, ck_m, gf_s, gf_image, gf_truths, gf_knownRow, gf_daysRow, gf_bests, gf_nots, gf_lookeds, gf_bestsAt, gf_worths, gf_keptKnown, gf_keptDays, gf_round, gf_sums, gf_bestRound, gf_bodies, gf_thrown, gf_hasImage, gf_act, gf_spot, gf_size, gf_isWrong, gf_open, gf_edgeThing, gf_edgeMore, gf_stamp, gf_whose, gf_wage, gf_roundMany, gf_bestSet, gf_ran, gf_kind, gf_who, gf_tellsV, pf_thrown, pf_hasImage, pf_act, pf_spot, pf_size, pf_isWrong, pf_open, pf_edgeThing, pf_edgeMore, pf_stamp, pf_whose, pf_wage, pf_roundMany, pf_bestSet, pf_ran, pf_kind, pf_who, pf_tellsV, al_s, as_s, al_image, as_image, al_truths, as_truths0, as_truths1, al_knownRow, as_knownRow, al_daysRow, as_daysRow, al_bests, as_bests, al_nots, as_nots, al_lookeds, as_lookeds, al_bestsAt, as_bestsAt, al_worths, as_worths, al_keptKnown, as_keptKnown, al_keptDays, as_keptDays, al_round, as_round, al_sums, as_sums, al_bestRound, as_bestRound, al_bodies, as_bodies, cl_some, nm_b, nn_some, qn_some, qn_none, zk_0, zk_1, zk_n0, zk_n1, nI_add, pk_mul, pk_sub, nI_leE, nI_ltE, nI_eqE, nI_lt0, nI_ge0, nI_eq0, nI_gt0, nI_le0, ilt_t, ilt_f, ile_t, ile_f, ieq_t, ieq_f, if_tt, if_ff, Nat.add_sub_cancel]
      · rw [if_neg ok]
        have w7 := r2.w ok
        have em := f_emitsW (G := G) (b := b) (h0 := h0) (nx := nx) w7 (-1)
        have h83 : mi st2 8 = nI (d + 1) := by obtain ⟨X, _, _, q8, _⟩ := r2; exact q8
        refine ⟨msi st2 8 (nI d), ?_, ((pre r2).no ok).out⟩
        simp (maxSteps := 3000000) (disch := omega) only [h8, h5, c33, e2, em, h83, ma_msa_n, ma_msa_s, mi_msi_n, mi_msi_s, ml_msl_n, ml_msl_s, ma_msi, ma_msl, mi_msa, mi_msl, ml_msa, ml_msi, msa_msa, msi_msi, msl_msl, ck_m, gf_s, gf_image, gf_truths, gf_knownRow, gf_daysRow, gf_bests, gf_nots, gf_lookeds, gf_bestsAt, gf_worths, gf_keptKnown, gf_keptDays, gf_round, gf_sums, gf_bestRound, gf_bodies, gf_thrown, gf_hasImage, gf_act, gf_spot, gf_size, gf_isWrong, gf_open, gf_edgeThing, gf_edgeMore, gf_stamp, gf_whose, gf_wage, gf_roundMany, gf_bestSet, gf_ran, gf_kind, gf_who, gf_tellsV, pf_thrown, pf_hasImage, pf_act, pf_spot, pf_size, pf_isWrong, pf_open, pf_edgeThing, pf_edgeMore, pf_stamp, pf_whose, pf_wage, pf_roundMany, pf_bestSet, pf_ran, pf_kind, pf_who, pf_tellsV, al_s, as_s, al_image, as_image, al_truths, as_truths0, as_truths1, al_knownRow, as_knownRow, al_daysRow, as_daysRow, al_bests, as_bests, al_nots, as_nots, al_lookeds, as_lookeds, al_bestsAt, as_bestsAt, al_worths, as_worths, al_keptKnown, as_keptKnown, al_keptDays, as_keptDays, al_round, as_round, al_sums, as_sums, al_bestRound, as_bestRound, al_bodies, as_bodies, cl_some, nm_b, nn_some, qn_some, qn_none, zk_0, zk_1, zk_n0, zk_n1, nI_add, pk_mul, pk_sub, nI_leE, nI_ltE, nI_eqE, nI_lt0, nI_ge0, nI_eq0, nI_gt0, nI_le0, ilt_t, ilt_f, ile_t, ile_f, ieq_t, ieq_f, if_tt, if_ff, Nat.add_sub_cancel]
  · rw [if_neg c33]
    by_cases c40 : hereP tp z p = nI 40
    · rw [if_pos c40]
      have hin : p < z := here_in (fun q => by rw [q] at c40; exact absurd c40 (by decide))
      by_cases hd5 : d = 5
      · have hn : ¬ d < 5 := by omega
        rw [if_neg (show ¬ (d < 5 ∧ hereP tp z p = nI 33) from fun q => hn q.1), if_neg (show ¬ (d < 5 ∧ hereP tp z p = nI 40) from fun q => hn q.1), ts_no (by rw [c40]; decide)] at ez
        rw [ez]
        have w7 : mi (msi (msi (msi st 7 (nI 1)) 8 (nI (d + 1))) 5 (nI (p + 0))) 7 = nI 1 := rfl
        have ef := f_someW (G := G) (b := b) (h0 := h0) (nx := nx) (m := mg) w7
        have em := f_mustW (G := G) (b := b) (h0 := h0) (nx := nx) (p := p + 0) mi_msi_s w7 (nI 41)
        refine ⟨msi (msi (msi (msi st 7 (nI 1)) 8 (nI (d + 1))) 5 (nI (p + 0))) 8 (nI d), ?_, Rs.bad (fun k n5 n7 n8 => by rw [mi_msi_n n8, mi_msi_n n5, mi_msi_n n8, mi_msi_n n7]) rfl rfl (by rw [mi_msi_n (by decide), mi_msi_s]; rfl) mi_msi_s rfl⟩
        subst hd5
        simp (maxSteps := 3000000) (disch := omega) only [h8, h5, c40, ef, em, ma_msa_n, ma_msa_s, mi_msi_n, mi_msi_s, ml_msl_n, ml_msl_s, ma_msi, ma_msl, mi_msa, mi_msl, ml_msa, ml_msi, msa_msa, msi_msi, msl_msl, ck_m, gf_s, gf_image, gf_truths, gf_knownRow, gf_daysRow, gf_bests, gf_nots, gf_lookeds, gf_bestsAt, gf_worths, gf_keptKnown, gf_keptDays, gf_round, gf_sums, gf_bestRound, gf_bodies, gf_thrown, gf_hasImage, gf_act, gf_spot, gf_size, gf_isWrong, gf_open, gf_edgeThing, gf_edgeMore, gf_stamp, gf_whose, gf_wage, gf_roundMany, gf_bestSet, gf_ran, gf_kind, gf_who, gf_tellsV, pf_thrown, pf_hasImage, pf_act, pf_spot, pf_size, pf_isWrong, pf_open, pf_edgeThing, pf_edgeMore, pf_stamp, pf_whose, pf_wage, pf_roundMany, pf_bestSet, pf_ran, pf_kind, pf_who, pf_tellsV, al_s, as_s, al_image, as_image, al_truths, as_truths0, as_truths1, al_knownRow, as_knownRow, al_daysRow, as_daysRow, al_bests, as_bests, al_nots, as_nots, al_lookeds, as_lookeds, al_bestsAt, as_bestsAt, al_worths, as_worths, al_keptKnown, as_keptKnown, al_keptDays, as_keptDays, al_round, as_round, al_sums, as_sums, al_bestRound, as_bestRound, al_bodies, as_bodies, cl_some, nm_b, nn_some, qn_some, qn_none, zk_0, zk_1, zk_n0, zk_n1, nI_add, pk_mul, pk_sub, nI_leE, nI_ltE, nI_eqE, nI_lt0, nI_ge0, nI_eq0, nI_gt0, nI_le0, ilt_t, ilt_f, ile_t, ile_f, ieq_t, ieq_f, if_tt, if_ff, Nat.add_sub_cancel]
      · have hlt : d < 5 := by omega
        rw [if_neg (show ¬ (d < 5 ∧ hereP tp z p = nI 33) from fun q => c33 q.2), if_pos (show d < 5 ∧ hereP tp z p = nI 40 from ⟨hlt, c40⟩)] at ez
        rw [ez]
        clear ez
        have rd1 : Rd (msi (msi (msi st 7 (nI 0)) 8 (nI (d + 1))) 5 (nI (p + 1))) tp z (p + 1) a c (d + 1) := ⟨⟨mi_msi_s, h6, hz, by omega⟩, rfl, rfl, h4, ha, hc, by omega, htp⟩
        obtain ⟨st2, e2, r2⟩ := ihE (msi (msi (msi st 7 (nI 0)) 8 (nI (d + 1))) 5 (nI (p + 1))) rd1 hin hlt
        obtain ⟨o1, o2, o3⟩ := pz_ok (tp := tp) (z := z) n 2 (d + 1) (p + 1) (by omega)
        generalize pz tp z n 2 (d + 1) (p + 1) = r at r2 o1 o2 o3 ⊢
        have pre : ∀ {r : Bool × Nat × List Int32} {s' : MS} {e : Nat}, Rs (msi (msi (msi st 7 (nI 0)) 8 (nI (d + 1))) 5 (nI (p + 1))) a c e r s' → Rs st a c e r s' := fun h => h.pre (fun k n5 n7 n8 => by rw [mi_msi_n n5, mi_msi_n n8, mi_msi_n n7]) rfl rfl
        by_cases ok : r.1 = true
        · obtain ⟨o4, _⟩ := o3 ok
          obtain ⟨rd2, es2⟩ := r2.rd rd1 ok (by omega) o2
          have em := f_must (G := G) (b := b) (h0 := h0) (nx := nx) (st := st2) rd2.1 rd2.2.1 (nI 41)
          have r3 := Rs.must rd2 (nI 41)
          rw [here_cg hz rd2.2.2.2.2.2.2.2] at em
          by_cases c41 : hereP tp z r.2.1 = nI 41
          · rw [if_pos c41] at em
            rw [if_pos c41, if_pos c41] at r3
            rw [if_pos (show r.1 = true ∧ hereP tp z r.2.1 = nI 41 from ⟨ok, c41⟩)]
            have h83 : mi (spW st2 (r.2.1 + 1) (nI 0)) 8 = nI (d + 1) := rd2.2.2.1
            have r4 := r2.seq ok r3 ha (by omega) (code := r.2.2) (fun _ => (List.append_nil _).symm)
            refine ⟨msi (spW st2 (r.2.1 + 1) (nI 0)) 8 (nI d), ?_, (pre r4).out⟩
            simp (maxSteps := 3000000) (disch := omega) only [h8, h5, c40, e2, em, h83, ma_msa_n, ma_msa_s, mi_msi_n, mi_msi_s, ml_msl_n, ml_msl_s, ma_msi, ma_msl, mi_msa, mi_msl, ml_msa, ml_msi, msa_msa, msi_msi, msl_msl, ck_m, gf_s, gf_image, gf_truths, gf_knownRow, gf_daysRow, gf_bests, gf_nots, gf_lookeds, gf_bestsAt, gf_worths, gf_keptKnown, gf_keptDays, gf_round, gf_sums, gf_bestRound, gf_bodies, gf_thrown, gf_hasImage, gf_act, gf_spot, gf_size, gf_isWrong, gf_open, gf_edgeThing, gf_edgeMore, gf_stamp, gf_whose, gf_wage, gf_roundMany, gf_bestSet, gf_ran, gf_kind, gf_who, gf_tellsV, pf_thrown, pf_hasImage, pf_act, pf_spot, pf_size, pf_isWrong, pf_open, pf_edgeThing, pf_edgeMore, pf_stamp, pf_whose, pf_wage, pf_roundMany, pf_bestSet, pf_ran, pf_kind, pf_who, pf_tellsV, al_s, as_s, al_image, as_image, al_truths, as_truths0, as_truths1, al_knownRow, as_knownRow, al_daysRow, as_daysRow, al_bests, as_bests, al_nots, as_nots, al_lookeds, as_lookeds, al_bestsAt, as_bestsAt, al_worths, as_worths, al_keptKnown, as_keptKnown, al_keptDays, as_keptDays, al_round, as_round, al_sums, as_sums, al_bestRound, as_bestRound, al_bodies, as_bodies, cl_some, nm_b, nn_some, qn_some, qn_none, zk_0, zk_1, zk_n0, zk_n1, nI_add, pk_mul, pk_sub, nI_leE, nI_ltE, nI_eqE, nI_lt0, nI_ge0, nI_eq0, nI_gt0, nI_le0, ilt_t, ilt_f, ile_t, ile_f, ieq_t, ieq_f, if_tt, if_ff, Nat.add_sub_cancel]
          · rw [if_neg c41] at em
            rw [if_neg c41, if_neg c41] at r3
            rw [if_neg (show ¬ (r.1 = true ∧ hereP tp z r.2.1 = nI 41) from fun q => c41 q.2)]
            have h83 : mi (spW st2 r.2.1 (nI 1)) 8 = nI (d + 1) := rd2.2.2.1
            have r4 := r2.seq ok r3 ha (by omega) (code := []) (fun q => absurd q (show ¬ false = true by decide))
            refine ⟨msi (spW st2 r.2.1 (nI 1)) 8 (nI d), ?_, (pre r4).out⟩
            simp (maxSteps := 3000000) (disch := omega) only [h8, h5, c40, e2, em, h83, ma_msa_n, ma_msa_s, mi_msi_n, mi_msi_s, ml_msl_n, ml_msl_s, ma_msi, ma_msl, mi_msa, mi_msl, ml_msa, ml_msi, msa_msa, msi_msi, msl_msl, ck_m, gf_s, gf_image, gf_truths, gf_knownRow, gf_daysRow, gf_bests, gf_nots, gf_lookeds, gf_bestsAt, gf_worths, gf_keptKnown, gf_keptDays, gf_round, gf_sums, gf_bestRound, gf_bodies, gf_thrown, gf_hasImage, gf_act, gf_spot, gf_size, gf_isWrong, gf_open, gf_edgeThing, gf_edgeMore, gf_stamp, gf_whose, gf_wage, gf_roundMany, gf_bestSet, gf_ran, gf_kind, gf_who, gf_tellsV, pf_thrown, pf_hasImage, pf_act, pf_spot, pf_size, pf_isWrong, pf_open, pf_edgeThing, pf_edgeMore, pf_stamp, pf_whose, pf_wage, pf_roundMany, pf_bestSet, pf_ran, pf_kind, pf_who, pf_tellsV, al_s, as_s, al_image, as_image, al_truths, as_truths0, as_truths1, al_knownRow, as_knownRow, al_daysRow, as_daysRow, al_bests, as_bests, al_nots, as_nots, al_lookeds, as_lookeds, al_bestsAt, as_bestsAt, al_worths, as_worths, al_keptKnown, as_keptKnown, al_keptDays, as_keptDays, al_round, as_round, al_sums, as_sums, al_bestRound, as_bestRound, al_bodies, as_bodies, cl_some, nm_b, nn_some, qn_some, qn_none, zk_0, zk_1, zk_n0, zk_n1, nI_add, pk_mul, pk_sub, nI_leE, nI_ltE, nI_eqE, nI_lt0, nI_ge0, nI_eq0, nI_gt0, nI_le0, ilt_t, ilt_f, ile_t, ile_f, ieq_t, ieq_f, if_tt, if_ff, Nat.add_sub_cancel]
        · rw [if_neg (show ¬ (r.1 = true ∧ hereP tp z r.2.1 = nI 41) from fun q => ok q.1)]
          have w7 := r2.w ok
          have q5 : mi st2 5 = nI r.2.1 := by obtain ⟨X, _, q5, _⟩ := r2; exact q5
          have em := f_mustW (G := G) (b := b) (h0 := h0) (nx := nx) (p := r.2.1) q5 w7 (nI 41)
          have h83 : mi st2 8 = nI (d + 1) := by obtain ⟨X, _, _, q8, _⟩ := r2; exact q8
          refine ⟨msi st2 8 (nI d), ?_, ((pre r2).no ok).out⟩
          simp (maxSteps := 3000000) (disch := omega) only [h8, h5, c40, e2, em, h83, ma_msa_n, ma_msa_s, mi_msi_n, mi_msi_s, ml_msl_n, ml_msl_s, ma_msi, ma_msl, mi_msa, mi_msl, ml_msa, ml_msi, msa_msa, msi_msi, msl_msl, ck_m, gf_s, gf_image, gf_truths, gf_knownRow, gf_daysRow, gf_bests, gf_nots, gf_lookeds, gf_bestsAt, gf_worths, gf_keptKnown, gf_keptDays, gf_round, gf_sums, gf_bestRound, gf_bodies, gf_thrown, gf_hasImage, gf_act, gf_spot, gf_size, gf_isWrong, gf_open, gf_edgeThing, gf_edgeMore, gf_stamp, gf_whose, gf_wage, gf_roundMany, gf_bestSet, gf_ran, gf_kind, gf_who, gf_tellsV, pf_thrown, pf_hasImage, pf_act, pf_spot, pf_size, pf_isWrong, pf_open, pf_edgeThing, pf_edgeMore, pf_stamp, pf_whose, pf_wage, pf_roundMany, pf_bestSet, pf_ran, pf_kind, pf_who, pf_tellsV, al_s, as_s, al_image, as_image, al_truths, as_truths0, as_truths1, al_knownRow, as_knownRow, al_daysRow, as_daysRow, al_bests, as_bests, al_nots, as_nots, al_lookeds, as_lookeds, al_bestsAt, as_bestsAt, al_worths, as_worths, al_keptKnown, as_keptKnown, al_keptDays, as_keptDays, al_round, as_round, al_sums, as_sums, al_bestRound, as_bestRound, al_bodies, as_bodies, cl_some, nm_b, nn_some, qn_some, qn_none, zk_0, zk_1, zk_n0, zk_n1, nI_add, pk_mul, pk_sub, nI_leE, nI_ltE, nI_eqE, nI_lt0, nI_ge0, nI_eq0, nI_gt0, nI_le0, ilt_t, ilt_f, ile_t, ile_f, ieq_t, ieq_f, if_tt, if_ff, Nat.add_sub_cancel]
    · rw [if_neg (show ¬ (d < 5 ∧ hereP tp z p = nI 33) from fun q => c33 q.2), if_neg (show ¬ (d < 5 ∧ hereP tp z p = nI 40) from fun q => c40 q.2)] at ez
      rw [if_neg c40, ez]
      obtain ⟨st', e, r⟩ := ets
      refine ⟨st', ?_, r⟩
      by_cases c100 : hereP tp z p = nI 100
      · rw [if_pos c100]
        rw [if_pos (Or.inl c100)] at e
        exact e
      · rw [if_neg c100]
        by_cases c107 : hereP tp z p = nI 107
        · rw [if_pos c107]
          rw [if_pos (Or.inr c107)] at e
          exact e
        · rw [if_neg c107]
          rw [if_neg (fun q => q.elim c100 c107)] at e
          exact e
def rkN (k : Nat) : Nat := if k = 1 then 2 else if k = 2 then 3 else 1
def mgN (k d : Nat) : Nat := 4 + 3 * (5 - d) + (if k = 1 then 1 else if k = 2 then 2 else if k = 4 then 1 else 0)
noncomputable def PG (G : Gx) (b : Nat) (h0 : Hp) (nx : Nat) (st : MS) (mg ml : Nat) : Nat → Rz Unit
  | 0 => F_X12_factor G mg (encM G b st h0) nx b
  | 1 => F_X12_every G mg (encM G b st h0) nx b
  | 2 => F_X12_some G mg (encM G b st h0) nx b
  | 3 => F_X12_every_4 G (F_X12_every G mg) (F_X12_factor G mg) (F_X12_some G mg) ml (encM G b st h0) nx b
  | _ => F_X12_some_4 G (F_X12_every G mg) (F_X12_factor G mg) (F_X12_some G mg) ml (encM G b st h0) nx b
set_option maxRecDepth 100000 in
set_option maxHeartbeats 4000000 in
theorem f_pz {tp : Nat → Int32} {z a : Nat} : ∀ (n k d p c mg ml : Nat) (st : MS), k ≤ 4 → d ≤ 5 → 4 * (z - p) + rkN k ≤ n → mgN k d ≤ mg → z - p < ml → Rd st tp z p a c d → ∃ st' : MS, PG G b h0 nx st mg ml k = some ((), encM G b st' h0, nx) ∧ Rs st a c d (pz tp z n k d p) st' := by
  intro n
  induction n with
  | zero =>
    intro k d p c mg ml st hk hd hn
    exfalso
    unfold rkN at hn
    split at hn
    · omega
    · split at hn <;> omega
  | succ n ih =>
    intro k d p c mg ml st hk hd hn hg hl hR
    have hz := hR.1.2.2.1
    have hpz := hR.1.2.2.2
    rcases (show k = 0 ∨ k = 1 ∨ k = 2 ∨ k = 3 ∨ k = 4 by omega) with rfl | rfl | rfl | rfl | rfl
    · have hg' : 4 + 3 * (5 - d) + 0 ≤ mg := hg
      have hn' : 4 * (z - p) + 1 ≤ n + 1 := hn
      obtain ⟨mg, rfl⟩ : ∃ q, mg = q + 1 := ⟨mg - 1, by omega⟩
      exact f_pz0 hR hd (by omega) (fun st1 r1 q1 q2 => ih 0 (d + 1) (p + 1) c mg (z + 1) st1 (by omega) (by omega) (by show 4 * (z - (p + 1)) + 1 ≤ n; omega) (by show 4 + 3 * (5 - (d + 1)) + 0 ≤ mg; omega) (by omega) r1) (fun st1 r1 q1 q2 => ih 2 (d + 1) (p + 1) c mg (z + 1) st1 (by omega) (by omega) (by show 4 * (z - (p + 1)) + 3 ≤ n; omega) (by show 4 + 3 * (5 - (d + 1)) + 2 ≤ mg; omega) (by omega) r1)
    · have hg' : 4 + 3 * (5 - d) + 1 ≤ mg := hg
      have hn' : 4 * (z - p) + 2 ≤ n + 1 := hn
      obtain ⟨mg, rfl⟩ : ∃ q, mg = q + 1 := ⟨mg - 1, by omega⟩
      exact f_pz1 hR (ih 0 d p c mg (z + 1) st (by omega) hd (by show 4 * (z - p) + 1 ≤ n; omega) (by show 4 + 3 * (5 - d) + 0 ≤ mg; omega) (by omega) hR) (fun st1 c1 q q1 q2 r1 => ih 3 d q c1 mg fuelL st1 (by omega) hd (by show 4 * (z - q) + 1 ≤ n; omega) (by show 4 + 3 * (5 - d) + 0 ≤ mg; omega) (by unfold fuelL; omega) r1)
    · have hg' : 4 + 3 * (5 - d) + 2 ≤ mg := hg
      have hn' : 4 * (z - p) + 3 ≤ n + 1 := hn
      obtain ⟨mg, rfl⟩ : ∃ q, mg = q + 1 := ⟨mg - 1, by omega⟩
      exact f_pz2 hR (ih 1 d p c mg (z + 1) st (by omega) hd (by show 4 * (z - p) + 2 ≤ n; omega) (by show 4 + 3 * (5 - d) + 1 ≤ mg; omega) (by omega) hR) (fun st1 c1 q q1 q2 r1 => ih 4 d q c1 mg fuelL st1 (by omega) hd (by show 4 * (z - q) + 1 ≤ n; omega) (by show 4 + 3 * (5 - d) + 1 ≤ mg; omega) (by unfold fuelL; omega) r1)
    · have hg' : 4 + 3 * (5 - d) + 0 ≤ mg := hg
      have hn' : 4 * (z - p) + 1 ≤ n + 1 := hn
      exact f_pz3 hR hl (fun st1 r1 q1 => ih 0 d (p + 1) c mg (z + 1) st1 (by omega) hd (by show 4 * (z - (p + 1)) + 1 ≤ n; omega) (by show 4 + 3 * (5 - d) + 0 ≤ mg; omega) (by omega) r1) (fun st1 c1 q ml1 q1 q2 q3 r1 => ih 3 d q c1 mg ml1 st1 (by omega) hd (by show 4 * (z - q) + 1 ≤ n; omega) (by show 4 + 3 * (5 - d) + 0 ≤ mg; omega) q3 r1)
    · have hg' : 4 + 3 * (5 - d) + 1 ≤ mg := hg
      have hn' : 4 * (z - p) + 1 ≤ n + 1 := hn
      exact f_pz4 hR hl (fun st1 r1 q1 => ih 1 d (p + 1) c mg (z + 1) st1 (by omega) hd (by show 4 * (z - (p + 1)) + 2 ≤ n; omega) (by show 4 + 3 * (5 - d) + 1 ≤ mg; omega) (by omega) r1) (fun st1 c1 q ml1 q1 q2 q3 r1 => ih 4 d q c1 mg ml1 st1 (by omega) hd (by show 4 * (z - q) + 1 ≤ n; omega) (by show 4 + 3 * (5 - d) + 1 ≤ mg; omega) q3 r1)
end P5
