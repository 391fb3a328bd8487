/-- what a clause changes: number, space, an either; the end mark -/
def chQ (tp : Nat → Int32) (z w q : Nat) : Bool × Nat × List Int32 :=
  if isFg tp z q then
    (if hereP tp z (fgL tp z 3 (nI 0) q).2 = nI 32 then
      (if (pz tp z 1000 2 0 ((fgL tp z 3 (nI 0) q).2 + 1)).1 = true then (true, (pz tp z 1000 2 0 ((fgL tp z 3 (nI 0) q).2 + 1)).2.1, (pz tp z 1000 2 0 ((fgL tp z 3 (nI 0) q).2 + 1)).2.2 ++ [-10 - nI 2 * (fgL tp z 3 (nI 0) q).1 - nI w]) else (false, (pz tp z 1000 2 0 ((fgL tp z 3 (nI 0) q).2 + 1)).2.1, []))
     else (false, (fgL tp z 3 (nI 0) q).2, []))
  else (false, q, [])
def chP (tp : Nat → Int32) (z w p : Nat) : Bool × Nat × List Int32 := if (spP tp z (txB.getD (6 + w) []) p).1 = true then chQ tp z w (spP tp z (txB.getD (6 + w) []) p).2 else (false, (spP tp z (txB.getD (6 + w) []) p).2, [])
/-- what a clause tells -/
def tlP (tp : Nat → Int32) (z k p : Nat) : Bool × Nat × Int32 := if (spP tp z (txB.getD k []) p).1 = true then (if isFg tp z (spP tp z (txB.getD k []) p).2 then (true, (fgL tp z 3 (nI 0) (spP tp z (txB.getD k []) p).2).2, (fgL tp z 3 (nI 0) (spP tp z (txB.getD k []) p).2).1) else (false, (spP tp z (txB.getD k []) p).2, 0)) else (false, (spP tp z (txB.getD k []) p).2, 0)
section P7
variable {G : Gx} {b : Nat} {h0 : Hp} {nx : Nat}
set_option maxRecDepth 100000 in
set_option maxHeartbeats 4000000 in
theorem f_figR {st : MS} {tp : Nat → Int32} {z p a c d : Nat} (hR : Rd st tp z p a c d) : ∃ st' : MS, F_X12_figures G (encM G b st h0) nx b = some (if isFg tp z p then (fgL tp z 3 (nI 0) p).1 else nI 0, encM G b st' h0, nx) ∧ Rs st a c d (if isFg tp z p then (true, (fgL tp z 3 (nI 0) p).2, []) else (false, p, [])) st' := by
  have e := f_figures (G := G) (b := b) (h0 := h0) (nx := nx) hR.1 hR.2.1
  have hz := hR.1.2.2.1
  have htp := hR.2.2.2.2.2.2.2
  have hg : isFg (tpM st) z p = isFg tp z p := by
    unfold isFg
    rw [here_cg hz htp]
  rw [fg_cg hz htp] at e
  by_cases c1 : isFg tp z p
  · rw [if_pos (by rw [hg]; exact c1)] at e
    rw [if_pos c1, if_pos c1]
    refine ⟨_, e, ma st 1, ?_, mi_msi_s, hR.2.2.1, fun _ => ⟨hR.2.1, rfl⟩, fun q => absurd q (show ¬ true = false by decide)⟩
    rw [msa_self]
    exact FrM.msi (by decide)
  · rw [if_neg (by rw [hg]; exact c1)] at e
    rw [if_neg c1, if_neg c1]
    exact ⟨_, e, Rs.bad (fun k n5 n7 n8 => mi_msi_n n7) rfl rfl hR.1.1 hR.2.2.1 mi_msi_s⟩
theorem Rs.p5 {st st' : MS} {a c d : Nat} {r : Bool × Nat × List Int32} (h : Rs st a c d r st') : mi st' 5 = nI r.2.1 := by
  obtain ⟨X, _, q5, _⟩ := h
  exact q5
set_option maxRecDepth 100000 in
set_option maxHeartbeats 4000000 in
theorem f_changes {st : MS} {tp : Nat → Int32} {z p a c w : Nat} (hR : Rd st tp z p a c 0) (hw : w < 2) : ∃ st' : MS, F_X12_changes G (encM G b st h0) nx b (nI w) = some ((), encM G b st' h0, nx) ∧ Rs st a c 0 (chP tp z w p) st' := by
  have ha := hR.2.2.2.2.1
  have hz := hR.1.2.2.1
  have hpz := hR.1.2.2.2
  have hcp := hR.2.2.2.2.2.2.1
  have h12 : F_X12_changes G (encM G b st h0) nx b (nI w) = F_X12_changes_12 G (encM G b st h0) nx b (6 + w) b (nI w) := by
    unfold F_X12_changes
    rcases (show w = 0 ∨ w = 1 by omega) with rfl | rfl
    · rw [if_pos (show nI 0 = 0 from nI_0)]
    · rw [if_neg (show ¬ nI 1 = 0 by decide)]
  rw [h12]
  unfold F_X12_changes_12 chP
  obtain ⟨st1, e1, r1⟩ := f_spells (G := G) (b := b) (h0 := h0) (nx := nx) (k := 6 + w) (by omega) hR
  obtain ⟨s1, s2, s3⟩ := sp_ok (tp := tp) (z := z) (txB.getD (6 + w) []) p (tx_pos (6 + w) (by omega)) hpz
  generalize spP tp z (txB.getD (6 + w) []) p = s at r1 s1 s2 s3 ⊢
  by_cases ok1 : s.1 = true
  · rw [if_pos ok1]
    obtain ⟨rd1, _⟩ := r1.rd hR ok1 (by show p + 0 ≤ s.2; omega) s2
    obtain ⟨st2, e2, r2⟩ := f_figR (G := G) (b := b) (h0 := h0) (nx := nx) rd1
    unfold chQ
    obtain ⟨g1, g2⟩ := fgL_le (tp := tp) (z := z) 3 (nI 0) s.2
    by_cases c2 : isFg tp z s.2
    · rw [if_pos c2] at e2 r2 ⊢
      generalize fgL tp z 3 (nI 0) s.2 = f at e2 r2 g1 g2 ⊢
      have g3 : f.2 ≤ z := by omega
      obtain ⟨rd2, _⟩ := r2.rd rd1 rfl (by show s.2 + 0 ≤ f.2; omega) g3
      have r12 := r1.seq ok1 r2 ha (by show c + 0 ≤ 140; omega) (code := []) (fun _ => rfl)
      have e3 := f_must (G := G) (b := b) (h0 := h0) (nx := nx) (st := st2) rd2.1 rd2.2.1 (nI 32)
      have r3 := Rs.must rd2 (nI 32)
      rw [here_cg hz rd2.2.2.2.2.2.2.2] at e3
      by_cases c3 : hereP tp z f.2 = nI 32
      · rw [if_pos c3] at e3 ⊢
        rw [if_pos c3, if_pos c3] at r3
        have hin : f.2 < z := here_in (by rw [c3]; decide)
        obtain ⟨rd3, _⟩ := r3.rd rd2 rfl (by show f.2 + 0 ≤ f.2 + 1; omega) (by show f.2 + 1 ≤ z; omega)
        have r13 := r12.seq rfl r3 ha (by show c + 0 ≤ 140; omega) (code := []) (fun _ => rfl)
        obtain ⟨st4, e4, r4⟩ := f_pz (G := G) (b := b) (h0 := h0) (nx := nx) (tp := tp) (z := z) (a := a) 1000 2 0 (f.2 + 1) _ 64 (z + 1) _ (by omega) (by omega) (by show 4 * (z - (f.2 + 1)) + 3 ≤ 1000; omega) (by decide) (by omega) rd3
        have e4 : F_X12_some G 64 (encM G b (spW st2 (f.2 + 1) (nI 0)) h0) nx b = some ((), encM G b st4 h0, nx) := e4
        obtain ⟨o1, o2, o3⟩ := pz_ok (tp := tp) (z := z) 1000 2 0 (f.2 + 1) (by omega)
        generalize pz tp z 1000 2 0 (f.2 + 1) = r at r4 o1 o2 o3 ⊢
        by_cases ok4 : r.1 = true
        · rw [if_pos ok4]
          obtain ⟨o4, _⟩ := o3 ok4
          obtain ⟨rd4, _⟩ := r4.rd rd3 ok4 (by omega) o2
          have r14 := r13.seq rfl r4 ha (by show c + 0 ≤ 140; omega) (code := r.2.2) (fun _ => rfl)
          have e5 := f_emits (G := G) (b := b) (h0 := h0) (nx := nx) (st := st4) rd4.2.1 rd4.2.2.2.1 ha rd4.2.2.2.2.2.1 (by show c + 0 + 0 + 0 + r.2.2.length < 140; omega) (-10 - nI 2 * f.1 - nI w)
          have r5 := Rs.emit rd4 (-10 - nI 2 * f.1 - nI w)
          refine ⟨_, ?_, r14.seq ok4 r5 ha (by show c + r.2.2.length ≤ 140; omega) (fun _ => rfl)⟩
          simp (maxSteps := 3000000) (disch := omega) only [e1, e2, e3, e4, e5, ma_msa_n, ma_msa_s, mi_msi_n, mi_msi_s, ml_msl_n, ml_msl_s, ma_msi, ma_msl, mi_msa, mi_msl, ml_msa, ml_msi, msa_msa, msi_msi, msl_msl, ck_m, gf_s, gf_image, gf_truths, gf_knownRow, gf_daysRow, gf_bests, gf_nots, gf_lookeds, gf_bestsAt, gf_worths, gf_keptKnown, gf_keptDays, gf_round, gf_sums, gf_bestRound, gf_bodies, gf_thrown, gf_hasImage, gf_act, gf_spot, gf_size, gf_isWrong, gf_open, gf_edgeThing, gf_edgeMore, gf_stamp, gf_whose, gf_wage, gf_roundMany, gf_bestSet, gf_ran, gf_kind, gf_who, gf_tellsV, pf_thrown, pf_hasImage, pf_act, pf_spot, pf_size, pf_isWrong, pf_open, pf_edgeThing, pf_edgeMore, pf_stamp, pf_whose, pf_wage, pf_roundMany, pf_bestSet, pf_ran, pf_kind, pf_who, pf_tellsV, al_s, as_s, al_image, as_image, al_truths, as_truths0, as_truths1, al_knownRow, as_knownRow, al_daysRow, as_daysRow, al_bests, as_bests, al_nots, as_nots, al_lookeds, as_lookeds, al_bestsAt, as_bestsAt, al_worths, as_worths, al_keptKnown, as_keptKnown, al_keptDays, as_keptDays, al_round, as_round, al_sums, as_sums, al_bestRound, as_bestRound, al_bodies, as_bodies, cl_some, nm_b, nn_some, qn_some, qn_none, zk_0, zk_1, zk_n0, zk_n1, nI_add, pk_mul, pk_sub, nI_leE, nI_ltE, nI_eqE, nI_lt0, nI_ge0, nI_eq0, nI_gt0, nI_le0, ilt_t, ilt_f, ile_t, ile_f, ieq_t, ieq_f, if_tt, if_ff, Nat.add_sub_cancel]
          all_goals rfl
        · rw [if_neg ok4]
          have w7 := r4.w ok4
          have e5 := fun x => f_emitsW (G := G) (b := b) (h0 := h0) (nx := nx) w7 x
          refine ⟨st4, ?_, (r13.seq rfl r4 ha (by show c + 0 ≤ 140; omega) (code := r.2.2) (fun _ => rfl)).no ok4⟩
          simp (maxSteps := 3000000) (disch := omega) only [e1, e2, e3, e4, e5, ma_msa_n, ma_msa_s, mi_msi_n, mi_msi_s, ml_msl_n, ml_msl_s, ma_msi, ma_msl, mi_msa, mi_msl, ml_msa, ml_msi, msa_msa, msi_msi, msl_msl, ck_m, gf_s, gf_image, gf_truths, gf_knownRow, gf_daysRow, gf_bests, gf_nots, gf_lookeds, gf_bestsAt, gf_worths, gf_keptKnown, gf_keptDays, gf_round, gf_sums, gf_bestRound, gf_bodies, gf_thrown, gf_hasImage, gf_act, gf_spot, gf_size, gf_isWrong, gf_open, gf_edgeThing, gf_edgeMore, gf_stamp, gf_whose, gf_wage, gf_roundMany, gf_bestSet, gf_ran, gf_kind, gf_who, gf_tellsV, pf_thrown, pf_hasImage, pf_act, pf_spot, pf_size, pf_isWrong, pf_open, pf_edgeThing, pf_edgeMore, pf_stamp, pf_whose, pf_wage, pf_roundMany, pf_bestSet, pf_ran, pf_kind, pf_who, pf_tellsV, al_s, as_s, al_image, as_image, al_truths, as_truths0, as_truths1, al_knownRow, as_knownRow, al_daysRow, as_daysRow, al_bests, as_bests, al_nots, as_nots, al_lookeds, as_lookeds, al_bestsAt, as_bestsAt, al_worths, as_worths, al_keptKnown, as_keptKnown, al_keptDays, as_keptDays, al_round, as_round, al_sums, as_sums, al_bestRound, as_bestRound, al_bodies, as_bodies, cl_some, nm_b, nn_some, qn_some, qn_none, zk_0, zk_1, zk_n0, zk_n1, nI_add, pk_mul, pk_sub, nI_leE, nI_ltE, nI_eqE, nI_lt0, nI_ge0, nI_eq0, nI_gt0, nI_le0, ilt_t, ilt_f, ile_t, ile_f, ieq_t, ieq_f, if_tt, if_ff, Nat.add_sub_cancel]
      · rw [if_neg c3] at e3 ⊢
        rw [if_neg c3, if_neg c3] at r3
        have w7 := r3.w (show ¬ false = true by decide)
        have e4 := f_someW (G := G) (b := b) (h0 := h0) (nx := nx) (m := 61) w7
        have e5 := fun x => f_emitsW (G := G) (b := b) (h0 := h0) (nx := nx) w7 x
        refine ⟨_, ?_, r12.seq rfl r3 ha (by show c + 0 ≤ 140; omega) (code := []) (fun _ => rfl)⟩
        simp (maxSteps := 3000000) (disch := omega) only [e1, e2, e3, e4, e5, ma_msa_n, ma_msa_s, mi_msi_n, mi_msi_s, ml_msl_n, ml_msl_s, ma_msi, ma_msl, mi_msa, mi_msl, ml_msa, ml_msi, msa_msa, msi_msi, msl_msl, ck_m, gf_s, gf_image, gf_truths, gf_knownRow, gf_daysRow, gf_bests, gf_nots, gf_lookeds, gf_bestsAt, gf_worths, gf_keptKnown, gf_keptDays, gf_round, gf_sums, gf_bestRound, gf_bodies, gf_thrown, gf_hasImage, gf_act, gf_spot, gf_size, gf_isWrong, gf_open, gf_edgeThing, gf_edgeMore, gf_stamp, gf_whose, gf_wage, gf_roundMany, gf_bestSet, gf_ran, gf_kind, gf_who, gf_tellsV, pf_thrown, pf_hasImage, pf_act, pf_spot, pf_size, pf_isWrong, pf_open, pf_edgeThing, pf_edgeMore, pf_stamp, pf_whose, pf_wage, pf_roundMany, pf_bestSet, pf_ran, pf_kind, pf_who, pf_tellsV, al_s, as_s, al_image, as_image, al_truths, as_truths0, as_truths1, al_knownRow, as_knownRow, al_daysRow, as_daysRow, al_bests, as_bests, al_nots, as_nots, al_lookeds, as_lookeds, al_bestsAt, as_bestsAt, al_worths, as_worths, al_keptKnown, as_keptKnown, al_keptDays, as_keptDays, al_round, as_round, al_sums, as_sums, al_bestRound, as_bestRound, al_bodies, as_bodies, cl_some, nm_b, nn_some, qn_some, qn_none, zk_0, zk_1, zk_n0, zk_n1, nI_add, pk_mul, pk_sub, nI_leE, nI_ltE, nI_eqE, nI_lt0, nI_ge0, nI_eq0, nI_gt0, nI_le0, ilt_t, ilt_f, ile_t, ile_f, ieq_t, ieq_f, if_tt, if_ff, Nat.add_sub_cancel]
    · rw [if_neg c2] at e2 r2 ⊢
      have w7 := r2.w (show ¬ false = true by decide)
      have e3 := f_mustW (G := G) (b := b) (h0 := h0) (nx := nx) r2.p5 w7 (nI 32)
      have e4 := f_someW (G := G) (b := b) (h0 := h0) (nx := nx) (m := 61) w7
      have e5 := fun x => f_emitsW (G := G) (b := b) (h0 := h0) (nx := nx) w7 x
      refine ⟨st2, ?_, r1.seq ok1 r2 ha (by show c + 0 ≤ 140; omega) (code := []) (fun _ => rfl)⟩
      simp (maxSteps := 3000000) (disch := omega) only [e1, e2, e3, e4, e5, ma_msa_n, ma_msa_s, mi_msi_n, mi_msi_s, ml_msl_n, ml_msl_s, ma_msi, ma_msl, mi_msa, mi_msl, ml_msa, ml_msi, msa_msa, msi_msi, msl_msl, ck_m, gf_s, gf_image, gf_truths, gf_knownRow, gf_daysRow, gf_bests, gf_nots, gf_lookeds, gf_bestsAt, gf_worths, gf_keptKnown, gf_keptDays, gf_round, gf_sums, gf_bestRound, gf_bodies, gf_thrown, gf_hasImage, gf_act, gf_spot, gf_size, gf_isWrong, gf_open, gf_edgeThing, gf_edgeMore, gf_stamp, gf_whose, gf_wage, gf_roundMany, gf_bestSet, gf_ran, gf_kind, gf_who, gf_tellsV, pf_thrown, pf_hasImage, pf_act, pf_spot, pf_size, pf_isWrong, pf_open, pf_edgeThing, pf_edgeMore, pf_stamp, pf_whose, pf_wage, pf_roundMany, pf_bestSet, pf_ran, pf_kind, pf_who, pf_tellsV, al_s, as_s, al_image, as_image, al_truths, as_truths0, as_truths1, al_knownRow, as_knownRow, al_daysRow, as_daysRow, al_bests, as_bests, al_nots, as_nots, al_lookeds, as_lookeds, al_bestsAt, as_bestsAt, al_worths, as_worths, al_keptKnown, as_keptKnown, al_keptDays, as_keptDays, al_round, as_round, al_sums, as_sums, al_bestRound, as_bestRound, al_bodies, as_bodies, cl_some, nm_b, nn_some, qn_some, qn_none, zk_0, zk_1, zk_n0, zk_n1, nI_add, pk_mul, pk_sub, nI_leE, nI_ltE, nI_eqE, nI_lt0, nI_ge0, nI_eq0, nI_gt0, nI_le0, ilt_t, ilt_f, ile_t, ile_f, ieq_t, ieq_f, if_tt, if_ff, Nat.add_sub_cancel]
  · rw [if_neg ok1]
    have w7 := r1.w ok1
    have e2 := f_figW (G := G) (b := b) (h0 := h0) (nx := nx) w7
    have e3 := f_mustW (G := G) (b := b) (h0 := h0) (nx := nx) r1.p5 w7 (nI 32)
    have e4 := f_someW (G := G) (b := b) (h0 := h0) (nx := nx) (m := 61) w7
    have e5 := fun x => f_emitsW (G := G) (b := b) (h0 := h0) (nx := nx) w7 x
    refine ⟨st1, ?_, r1.no ok1⟩
    simp (maxSteps := 3000000) (disch := omega) only [e1, e2, e3, e4, e5, ma_msa_n, ma_msa_s, mi_msi_n, mi_msi_s, ml_msl_n, ml_msl_s, ma_msi, ma_msl, mi_msa, mi_msl, ml_msa, ml_msi, msa_msa, msi_msi, msl_msl, ck_m, gf_s, gf_image, gf_truths, gf_knownRow, gf_daysRow, gf_bests, gf_nots, gf_lookeds, gf_bestsAt, gf_worths, gf_keptKnown, gf_keptDays, gf_round, gf_sums, gf_bestRound, gf_bodies, gf_thrown, gf_hasImage, gf_act, gf_spot, gf_size, gf_isWrong, gf_open, gf_edgeThing, gf_edgeMore, gf_stamp, gf_whose, gf_wage, gf_roundMany, gf_bestSet, gf_ran, gf_kind, gf_who, gf_tellsV, pf_thrown, pf_hasImage, pf_act, pf_spot, pf_size, pf_isWrong, pf_open, pf_edgeThing, pf_edgeMore, pf_stamp, pf_whose, pf_wage, pf_roundMany, pf_bestSet, pf_ran, pf_kind, pf_who, pf_tellsV, al_s, as_s, al_image, as_image, al_truths, as_truths0, as_truths1, al_knownRow, as_knownRow, al_daysRow, as_daysRow, al_bests, as_bests, al_nots, as_nots, al_lookeds, as_lookeds, al_bestsAt, as_bestsAt, al_worths, as_worths, al_keptKnown, as_keptKnown, al_keptDays, as_keptDays, al_round, as_round, al_sums, as_sums, al_bestRound, as_bestRound, al_bodies, as_bodies, cl_some, nm_b, nn_some, qn_some, qn_none, zk_0, zk_1, zk_n0, zk_n1, nI_add, pk_mul, pk_sub, nI_leE, nI_ltE, nI_eqE, nI_lt0, nI_ge0, nI_eq0, nI_gt0, nI_le0, ilt_t, ilt_f, ile_t, ile_f, ieq_t, ieq_f, if_tt, if_ff, Nat.add_sub_cancel]
set_option maxRecDepth 100000 in
set_option maxHeartbeats 4000000 in
theorem f_tells {st : MS} {tp : Nat → Int32} {z p a c d w k : Nat} (hR : Rd st tp z p a c d) (hw : w < 4) (hk : k < 12) : ∃ st' : MS, F_X12_tells G (encM G b st h0) nx b (nI w) k = some ((), encM G b st' h0, nx) ∧ ((tlP tp z k p).1 = true → FrM [5, 7, 8] (msa st 1 (upK (ma st 1) (140 + 4 * a + w) (tlP tp z k p).2.2)) st' ∧ mi st' 5 = nI (tlP tp z k p).2.1 ∧ mi st' 8 = nI d ∧ mi st' 7 = nI 0) ∧ ((tlP tp z k p).1 = false → Rs st a c d (false, (tlP tp z k p).2.1, []) st') := by
  have ha := hR.2.2.2.2.1
  have hz := hR.1.2.2.1
  have hpz := hR.1.2.2.2
  have hcp := hR.2.2.2.2.2.2.1
  unfold F_X12_tells F_X12_tells_35 tlP
  obtain ⟨st1, e1, r1⟩ := f_spells (G := G) (b := b) (h0 := h0) (nx := nx) hk hR
  obtain ⟨s1, s2, s3⟩ := sp_ok (tp := tp) (z := z) (txB.getD k []) p (tx_pos k hk) hpz
  generalize spP tp z (txB.getD k []) p = s at r1 s1 s2 s3 ⊢
  by_cases ok1 : s.1 = true
  · rw [if_pos ok1]
    obtain ⟨rd1, _⟩ := r1.rd hR ok1 (by show p + 0 ≤ s.2; omega) s2
    obtain ⟨st2, e2, r2⟩ := f_figR (G := G) (b := b) (h0 := h0) (nx := nx) rd1
    have r12 := r1.seq ok1 r2 ha (by show c + 0 ≤ 140; omega) (code := []) (fun _ => by split <;> rfl)
    by_cases c2 : isFg tp z s.2
    · rw [if_pos c2] at e2 r12 ⊢
      obtain ⟨X, f, q5, q8, qt, _⟩ := r12
      obtain ⟨q7, hX⟩ := qt rfl
      have hX : X = ma st 1 := hX
      rw [hX, msa_self] at f
      have h4 : mi st2 4 = nI a := (f.of1 4 (by decide)).trans hR.2.2.2.1
      have hs2 : ma st2 1 = ma st 1 := f.ofa 1 (by decide)
      refine ⟨msa st2 1 (upK (ma st2 1) (140 + 4 * a + w) (fgL tp z 3 (nI 0) s.2).1), ?_, fun _ => ⟨?_, q5, q8, q7⟩, fun q => absurd q (show ¬ true = false by decide)⟩
      · have q7' : mi st2 7 = nI 0 := q7
        simp (maxSteps := 3000000) (disch := omega) only [e1, e2, q7', h4, ma_msa_n, ma_msa_s, mi_msi_n, mi_msi_s, ml_msl_n, ml_msl_s, ma_msi, ma_msl, mi_msa, mi_msl, ml_msa, ml_msi, msa_msa, msi_msi, msl_msl, ck_m, gf_s, gf_image, gf_truths, gf_knownRow, gf_daysRow, gf_bests, gf_nots, gf_lookeds, gf_bestsAt, gf_worths, gf_keptKnown, gf_keptDays, gf_round, gf_sums, gf_bestRound, gf_bodies, gf_thrown, gf_hasImage, gf_act, gf_spot, gf_size, gf_isWrong, gf_open, gf_edgeThing, gf_edgeMore, gf_stamp, gf_whose, gf_wage, gf_roundMany, gf_bestSet, gf_ran, gf_kind, gf_who, gf_tellsV, pf_thrown, pf_hasImage, pf_act, pf_spot, pf_size, pf_isWrong, pf_open, pf_edgeThing, pf_edgeMore, pf_stamp, pf_whose, pf_wage, pf_roundMany, pf_bestSet, pf_ran, pf_kind, pf_who, pf_tellsV, al_s, as_s, al_image, as_image, al_truths, as_truths0, as_truths1, al_knownRow, as_knownRow, al_daysRow, as_daysRow, al_bests, as_bests, al_nots, as_nots, al_lookeds, as_lookeds, al_bestsAt, as_bestsAt, al_worths, as_worths, al_keptKnown, as_keptKnown, al_keptDays, as_keptDays, al_round, as_round, al_sums, as_sums, al_bestRound, as_bestRound, al_bodies, as_bodies, cl_some, nm_b, nn_some, qn_some, qn_none, zk_0, zk_1, zk_n0, zk_n1, nI_add, pk_mul, pk_sub, nI_leE, nI_ltE, nI_eqE, nI_lt0, nI_ge0, nI_eq0, nI_gt0, nI_le0, ilt_t, ilt_f, ile_t, ile_f, ieq_t, ieq_f, if_tt, if_ff, Nat.add_sub_cancel]
      · rw [hs2]
        exact fr_cg1 f
    · rw [if_neg c2] at e2 r12 ⊢
      have w7 := r12.w (show ¬ false = true by decide)
      refine ⟨st2, ?_, fun q => absurd q (show ¬ false = true by decide), fun _ => r12⟩
      simp (maxSteps := 3000000) (disch := omega) only [e1, e2, w7, ma_msa_n, ma_msa_s, mi_msi_n, mi_msi_s, ml_msl_n, ml_msl_s, ma_msi, ma_msl, mi_msa, mi_msl, ml_msa, ml_msi, msa_msa, msi_msi, msl_msl, ck_m, gf_s, gf_image, gf_truths, gf_knownRow, gf_daysRow, gf_bests, gf_nots, gf_lookeds, gf_bestsAt, gf_worths, gf_keptKnown, gf_keptDays, gf_round, gf_sums, gf_bestRound, gf_bodies, gf_thrown, gf_hasImage, gf_act, gf_spot, gf_size, gf_isWrong, gf_open, gf_edgeThing, gf_edgeMore, gf_stamp, gf_whose, gf_wage, gf_roundMany, gf_bestSet, gf_ran, gf_kind, gf_who, gf_tellsV, pf_thrown, pf_hasImage, pf_act, pf_spot, pf_size, pf_isWrong, pf_open, pf_edgeThing, pf_edgeMore, pf_stamp, pf_whose, pf_wage, pf_roundMany, pf_bestSet, pf_ran, pf_kind, pf_who, pf_tellsV, al_s, as_s, al_image, as_image, al_truths, as_truths0, as_truths1, al_knownRow, as_knownRow, al_daysRow, as_daysRow, al_bests, as_bests, al_nots, as_nots, al_lookeds, as_lookeds, al_bestsAt, as_bestsAt, al_worths, as_worths, al_keptKnown, as_keptKnown, al_keptDays, as_keptDays, al_round, as_round, al_sums, as_sums, al_bestRound, as_bestRound, al_bodies, as_bodies, cl_some, nm_b, nn_some, qn_some, qn_none, zk_0, zk_1, zk_n0, zk_n1, nI_add, pk_mul, pk_sub, nI_leE, nI_ltE, nI_eqE, nI_lt0, nI_ge0, nI_eq0, nI_gt0, nI_le0, ilt_t, ilt_f, ile_t, ile_f, ieq_t, ieq_f, if_tt, if_ff, Nat.add_sub_cancel]
  · rw [if_neg ok1]
    have w7 := r1.w ok1
    have e2 := f_figW (G := G) (b := b) (h0 := h0) (nx := nx) w7
    refine ⟨st1, ?_, fun q => absurd q (show ¬ false = true by decide), fun _ => r1.no ok1⟩
    simp (maxSteps := 3000000) (disch := omega) only [e1, e2, w7, ma_msa_n, ma_msa_s, mi_msi_n, mi_msi_s, ml_msl_n, ml_msl_s, ma_msi, ma_msl, mi_msa, mi_msl, ml_msa, ml_msi, msa_msa, msi_msi, msl_msl, ck_m, gf_s, gf_image, gf_truths, gf_knownRow, gf_daysRow, gf_bests, gf_nots, gf_lookeds, gf_bestsAt, gf_worths, gf_keptKnown, gf_keptDays, gf_round, gf_sums, gf_bestRound, gf_bodies, gf_thrown, gf_hasImage, gf_act, gf_spot, gf_size, gf_isWrong, gf_open, gf_edgeThing, gf_edgeMore, gf_stamp, gf_whose, gf_wage, gf_roundMany, gf_bestSet, gf_ran, gf_kind, gf_who, gf_tellsV, pf_thrown, pf_hasImage, pf_act, pf_spot, pf_size, pf_isWrong, pf_open, pf_edgeThing, pf_edgeMore, pf_stamp, pf_whose, pf_wage, pf_roundMany, pf_bestSet, pf_ran, pf_kind, pf_who, pf_tellsV, al_s, as_s, al_image, as_image, al_truths, as_truths0, as_truths1, al_knownRow, as_knownRow, al_daysRow, as_daysRow, al_bests, as_bests, al_nots, as_nots, al_lookeds, as_lookeds, al_bestsAt, as_bestsAt, al_worths, as_worths, al_keptKnown, as_keptKnown, al_keptDays, as_keptDays, al_round, as_round, al_sums, as_sums, al_bestRound, as_bestRound, al_bodies, as_bodies, cl_some, nm_b, nn_some, qn_some, qn_none, zk_0, zk_1, zk_n0, zk_n1, nI_add, pk_mul, pk_sub, nI_leE, nI_ltE, nI_eqE, nI_lt0, nI_ge0, nI_eq0, nI_gt0, nI_le0, ilt_t, ilt_f, ile_t, ile_f, ieq_t, ieq_f, if_tt, if_ff, Nat.add_sub_cancel]
end P7
