theorem fr1578 {st st' : MS} {X : Nat → Int32} (f : FrM [5, 7, 8] (msa st 1 X) st') : FrM [1, 5, 7, 8] st st' := ((FrM.msa (k := 1) (ks := [1, 5, 7, 8]) (by decide)).trans f).mono (by decide)
section Q3
variable {G : Gx} {b : Nat} {h0 : Hp} {nx : Nat}
set_option maxRecDepth 100000 in
set_option maxHeartbeats 4000000 in
theorem f_sort107 {tp : Nat → Int32} {z a : Nat} : ∀ (r l1 m p c : Nat) (st : MS), l1 + r = 10 → r + 1 < m → Rd st tp z p a c 0 → ∃ st' : MS, F_X12_sort_107 G m (encM G b st h0) nx b (nI l1) = F_X12_sort_149 G (encM G b st' h0) nx b ∧ ((soP tp z a r p c (ma st 1)).1 = true → Rd st' tp z (soP tp z a r p c (ma st 1)).2.1 a (soP tp z a r p c (ma st 1)).2.2.1 0 ∧ ma st' 1 = (soP tp z a r p c (ma st 1)).2.2.2) ∧ ((soP tp z a r p c (ma st 1)).1 = false → mi st' 7 = nI 1 ∧ mi st' 5 = nI (soP tp z a r p c (ma st 1)).2.1) ∧ FrM [1, 5, 7, 8] st st' ∧ AgF a (ma st 1) (ma st' 1) := by
  have no : ¬ true = false := by decide
  intro r
  induction r with
  | zero =>
    intro l1 m p c st hl hm hR
    obtain ⟨m, rfl⟩ : ∃ q, m = q + 1 := ⟨m - 1, by omega⟩
    have hl : l1 = 10 := by omega
    subst hl
    have h7 := hR.2.1
    refine ⟨st, ?_, fun _ => ⟨hR, rfl⟩, fun q => absurd q no, FrM.rf, AgF.rf⟩
    rw [F_X12_sort_107_s]
    simp (maxSteps := 3000000) (disch := omega) only [h7, ma_msa_n, ma_msa_s, mi_msi_n, mi_msi_s, ml_msl_n, ml_msl_s, ma_msi, ma_msl, mi_msa, mi_msl, ml_msa, ml_msi, msa_msa, msi_msi, msl_msl, ck_m, gf_s, gf_image, gf_truths, gf_knownRow, gf_daysRow, gf_bests, gf_nots, gf_lookeds, gf_bestsAt, gf_worths, gf_keptKnown, gf_keptDays, gf_round, gf_sums, gf_bestRound, gf_bodies, gf_thrown, gf_hasImage, gf_act, gf_spot, gf_size, gf_isWrong, gf_open, gf_edgeThing, gf_edgeMore, gf_stamp, gf_whose, gf_wage, gf_roundMany, gf_bestSet, gf_ran, gf_kind, gf_who, gf_tellsV, pf_thrown, pf_hasImage, pf_act, pf_spot, pf_size, pf_isWrong, pf_open, pf_edgeThing, pf_edgeMore, pf_stamp, pf_whose, pf_wage, pf_roundMany, pf_bestSet, pf_ran, pf_kind, pf_who, pf_tellsV, al_s, as_s, al_image, as_image, al_truths, as_truths0, as_truths1, al_knownRow, as_knownRow, al_daysRow, as_daysRow, al_bests, as_bests, al_nots, as_nots, al_lookeds, as_lookeds, al_bestsAt, as_bestsAt, al_worths, as_worths, al_keptKnown, as_keptKnown, al_keptDays, as_keptDays, al_round, as_round, al_sums, as_sums, al_bestRound, as_bestRound, al_bodies, as_bodies, cl_some, nm_b, nn_some, qn_some, qn_none, zk_0, zk_1, zk_n0, zk_n1, nI_add, pk_mul, pk_sub, nI_leE, nI_ltE, nI_eqE, nI_lt0, nI_ge0, nI_eq0, nI_gt0, nI_le0, ilt_t, ilt_f, ile_t, ile_f, ieq_t, ieq_f, if_tt, if_ff, Nat.add_sub_cancel]
  | succ r ih =>
    intro l1 m p c st hl hm hR
    obtain ⟨m, rfl⟩ : ∃ q, m = q + 1 := ⟨m - 1, by omega⟩
    have h7 := hR.2.1
    have h5 := hR.1.1
    have hz := hR.1.2.2.1
    have hpz := hR.1.2.2.2
    have hcp := hR.2.2.2.2.2.2.1
    have htp := hR.2.2.2.2.2.2.2
    have e1 := f_here (G := G) (b := b) (h0 := h0) (nx := nx) hR.1
    rw [here_cg hz htp] at e1
    have es : soP tp z a (r + 1) p c (ma st 1) = if hereP tp z p = nI 59 then (if (clP tp z (p + 1)).1 = true then soP tp z a r (clP tp z (p + 1)).2.1 (c + (clP tp z (p + 1)).2.2.2.length) (emR (wrO (ma st 1) a (clP tp z (p + 1)).2.2.1) a c (clP tp z (p + 1)).2.2.2) else (false, (clP tp z (p + 1)).2.1, c, ma st 1)) else (true, p, c, ma st 1) := rfl
    rw [es, F_X12_sort_107_s]
    clear es
    by_cases c1 : hereP tp z p = nI 59
    · rw [if_pos c1]
      have hin : p < z := here_in (by rw [c1]; decide)
      have rd1 : Rd (msi st 5 (nI (p + 1))) tp z (p + 1) a c 0 := ⟨⟨mi_msi_s, hR.1.2.1, hz, by omega⟩, h7, hR.2.2.1, hR.2.2.2.1, hR.2.2.2.2.1, hR.2.2.2.2.2.1, by omega, htp⟩
      obtain ⟨st2, e2, r2⟩ := f_clause (G := G) (b := b) (h0 := h0) (nx := nx) rd1
      obtain ⟨o1, o2, o3⟩ := clP_ok (tp := tp) (z := z) (p := p + 1) (by omega)
      have ow := clP_w (tp := tp) (z := z) (p := p + 1)
      generalize clP tp z (p + 1) = q at r2 o1 o2 o3 ow ⊢
      have f0 : FrM [1, 5, 7, 8] st (msi st 5 (nI (p + 1))) := FrM.msi (by decide)
      by_cases ok : q.1 = true
      · rw [if_pos ok]
        have o4 := o3 ok
        obtain ⟨rd2, es2, ag2⟩ := r2.rd rd1 ok ow (by omega) o2
        have f2 := fr1578 (r2.1 ok).1
        obtain ⟨st3, e3, t3, n3, f3, ag3⟩ := ih (l1 + 1) m q.2.1 _ st2 (by omega) (by omega) rd2
        have es2 : ma st2 1 = emR (wrO (ma st 1) a q.2.2.1) a c q.2.2.2 := es2
        rw [es2] at t3 n3
        refine ⟨st3, ?_, t3, n3, ((f0.trans f2).trans f3).mono (by decide), AgF.trans ag2 ag3⟩
        simp (maxSteps := 3000000) (disch := omega) only [h7, h5, e1, c1, e2, ma_msa_n, ma_msa_s, mi_msi_n, mi_msi_s, ml_msl_n, ml_msl_s, ma_msi, ma_msl, mi_msa, mi_msl, ml_msa, ml_msi, msa_msa, msi_msi, msl_msl, ck_m, gf_s, gf_image, gf_truths, gf_knownRow, gf_daysRow, gf_bests, gf_nots, gf_lookeds, gf_bestsAt, gf_worths, gf_keptKnown, gf_keptDays, gf_round, gf_sums, gf_bestRound, gf_bodies, gf_thrown, gf_hasImage, gf_act, gf_spot, gf_size, gf_isWrong, gf_open, gf_edgeThing, gf_edgeMore, gf_stamp, gf_whose, gf_wage, gf_roundMany, gf_bestSet, gf_ran, gf_kind, gf_who, gf_tellsV, pf_thrown, pf_hasImage, pf_act, pf_spot, pf_size, pf_isWrong, pf_open, pf_edgeThing, pf_edgeMore, pf_stamp, pf_whose, pf_wage, pf_roundMany, pf_bestSet, pf_ran, pf_kind, pf_who, pf_tellsV, al_s, as_s, al_image, as_image, al_truths, as_truths0, as_truths1, al_knownRow, as_knownRow, al_daysRow, as_daysRow, al_bests, as_bests, al_nots, as_nots, al_lookeds, as_lookeds, al_bestsAt, as_bestsAt, al_worths, as_worths, al_keptKnown, as_keptKnown, al_keptDays, as_keptDays, al_round, as_round, al_sums, as_sums, al_bestRound, as_bestRound, al_bodies, as_bodies, cl_some, nm_b, nn_some, qn_some, qn_none, zk_0, zk_1, zk_n0, zk_n1, nI_add, pk_mul, pk_sub, nI_leE, nI_ltE, nI_eqE, nI_lt0, nI_ge0, nI_eq0, nI_gt0, nI_le0, ilt_t, ilt_f, ile_t, ile_f, ieq_t, ieq_f, if_tt, if_ff, Nat.add_sub_cancel]
        exact e3
      · rw [if_neg ok]
        have rs := r2.2 (by cases hb : q.1; rfl; exact absurd hb ok)
        have w7 := rs.w (show ¬ false = true by decide)
        have p5 := rs.p5
        obtain ⟨X, f, _, _, _, qf⟩ := rs
        have ag := (qf rfl).2
        obtain ⟨m, rfl⟩ : ∃ q, m = q + 1 := ⟨m - 1, by omega⟩
        refine ⟨st2, ?_, fun q => absurd q (show ¬ false = true by decide), fun _ => ⟨w7, p5⟩, (f0.trans (fr1578 f)).mono (by decide), ?_⟩
        · simp (maxSteps := 3000000) (disch := omega) only [h7, h5, e1, c1, e2, ma_msa_n, ma_msa_s, mi_msi_n, mi_msi_s, ml_msl_n, ml_msl_s, ma_msi, ma_msl, mi_msa, mi_msl, ml_msa, ml_msi, msa_msa, msi_msi, msl_msl, ck_m, gf_s, gf_image, gf_truths, gf_knownRow, gf_daysRow, gf_bests, gf_nots, gf_lookeds, gf_bestsAt, gf_worths, gf_keptKnown, gf_keptDays, gf_round, gf_sums, gf_bestRound, gf_bodies, gf_thrown, gf_hasImage, gf_act, gf_spot, gf_size, gf_isWrong, gf_open, gf_edgeThing, gf_edgeMore, gf_stamp, gf_whose, gf_wage, gf_roundMany, gf_bestSet, gf_ran, gf_kind, gf_who, gf_tellsV, pf_thrown, pf_hasImage, pf_act, pf_spot, pf_size, pf_isWrong, pf_open, pf_edgeThing, pf_edgeMore, pf_stamp, pf_whose, pf_wage, pf_roundMany, pf_bestSet, pf_ran, pf_kind, pf_who, pf_tellsV, al_s, as_s, al_image, as_image, al_truths, as_truths0, as_truths1, al_knownRow, as_knownRow, al_daysRow, as_daysRow, al_bests, as_bests, al_nots, as_nots, al_lookeds, as_lookeds, al_bestsAt, as_bestsAt, al_worths, as_worths, al_keptKnown, as_keptKnown, al_keptDays, as_keptDays, al_round, as_round, al_sums, as_sums, al_bestRound, as_bestRound, al_bodies, as_bodies, cl_some, nm_b, nn_some, qn_some, qn_none, zk_0, zk_1, zk_n0, zk_n1, nI_add, pk_mul, pk_sub, nI_leE, nI_ltE, nI_eqE, nI_lt0, nI_ge0, nI_eq0, nI_gt0, nI_le0, ilt_t, ilt_f, ile_t, ile_f, ieq_t, ieq_f, if_tt, if_ff, Nat.add_sub_cancel]
          rw [F_X12_sort_107_s]
          simp (maxSteps := 3000000) (disch := omega) only [w7, ma_msa_n, ma_msa_s, mi_msi_n, mi_msi_s, ml_msl_n, ml_msl_s, ma_msi, ma_msl, mi_msa, mi_msl, ml_msa, ml_msi, msa_msa, msi_msi, msl_msl, ck_m, gf_s, gf_image, gf_truths, gf_knownRow, gf_daysRow, gf_bests, gf_nots, gf_lookeds, gf_bestsAt, gf_worths, gf_keptKnown, gf_keptDays, gf_round, gf_sums, gf_bestRound, gf_bodies, gf_thrown, gf_hasImage, gf_act, gf_spot, gf_size, gf_isWrong, gf_open, gf_edgeThing, gf_edgeMore, gf_stamp, gf_whose, gf_wage, gf_roundMany, gf_bestSet, gf_ran, gf_kind, gf_who, gf_tellsV, pf_thrown, pf_hasImage, pf_act, pf_spot, pf_size, pf_isWrong, pf_open, pf_edgeThing, pf_edgeMore, pf_stamp, pf_whose, pf_wage, pf_roundMany, pf_bestSet, pf_ran, pf_kind, pf_who, pf_tellsV, al_s, as_s, al_image, as_image, al_truths, as_truths0, as_truths1, al_knownRow, as_knownRow, al_daysRow, as_daysRow, al_bests, as_bests, al_nots, as_nots, al_lookeds, as_lookeds, al_bestsAt, as_bestsAt, al_worths, as_worths, al_keptKnown, as_keptKnown, al_keptDays, as_keptDays, al_round, as_round, al_sums, as_sums, al_bestRound, as_bestRound, al_bodies, as_bodies, cl_some, nm_b, nn_some, qn_some, qn_none, zk_0, zk_1, zk_n0, zk_n1, nI_add, pk_mul, pk_sub, nI_leE, nI_ltE, nI_eqE, nI_lt0, nI_ge0, nI_eq0, nI_gt0, nI_le0, ilt_t, ilt_f, ile_t, ile_f, ieq_t, ieq_f, if_tt, if_ff, Nat.add_sub_cancel]
        · rw [f.ofa 1 (by decide), ma_msa_s]
          exact ag
    · rw [if_neg c1]
      refine ⟨st, ?_, fun _ => ⟨hR, rfl⟩, fun q => absurd q no, FrM.rf, AgF.rf⟩
      simp (maxSteps := 3000000) (disch := omega) only [h7, e1, ma_msa_n, ma_msa_s, mi_msi_n, mi_msi_s, ml_msl_n, ml_msl_s, ma_msi, ma_msl, mi_msa, mi_msl, ml_msa, ml_msi, msa_msa, msi_msi, msl_msl, ck_m, gf_s, gf_image, gf_truths, gf_knownRow, gf_daysRow, gf_bests, gf_nots, gf_lookeds, gf_bestsAt, gf_worths, gf_keptKnown, gf_keptDays, gf_round, gf_sums, gf_bestRound, gf_bodies, gf_thrown, gf_hasImage, gf_act, gf_spot, gf_size, gf_isWrong, gf_open, gf_edgeThing, gf_edgeMore, gf_stamp, gf_whose, gf_wage, gf_roundMany, gf_bestSet, gf_ran, gf_kind, gf_who, gf_tellsV, pf_thrown, pf_hasImage, pf_act, pf_spot, pf_size, pf_isWrong, pf_open, pf_edgeThing, pf_edgeMore, pf_stamp, pf_whose, pf_wage, pf_roundMany, pf_bestSet, pf_ran, pf_kind, pf_who, pf_tellsV, al_s, as_s, al_image, as_image, al_truths, as_truths0, as_truths1, al_knownRow, as_knownRow, al_daysRow, as_daysRow, al_bests, as_bests, al_nots, as_nots, al_lookeds, as_lookeds, al_bestsAt, as_bestsAt, al_worths, as_worths, al_keptKnown, as_keptKnown, al_keptDays, as_keptDays, al_round, as_round, al_sums, as_sums, al_bestRound, as_bestRound, al_bodies, as_bodies, cl_some, nm_b, nn_some, qn_some, qn_none, zk_0, zk_1, zk_n0, zk_n1, nI_add, pk_mul, pk_sub, nI_leE, nI_ltE, nI_eqE, nI_lt0, nI_ge0, nI_eq0, nI_gt0, nI_le0, ilt_t, ilt_f, ile_t, ile_f, ieq_t, ieq_f, if_tt, if_ff, Nat.add_sub_cancel]
      rw [if_neg c1]
end Q3
