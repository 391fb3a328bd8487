/-! THE REFERENCE: a thing's chances, rows of days, the best by a wage, numbers -/
section M2
variable {G : Gx} {b : Nat} {st : MS} {h0 : Hp} {nx : Nat}
theorem f_value {t w : Nat} (ht : ThOk (ma st 1) t) (hw : w < 4) : F_X12_value G (encM G b st h0) nx b (nI t) (nI w) = some (valF (ma st 1) t w, encM G b st h0, nx) := by
  obtain ⟨h1, h2, h3, -⟩ := ht
  unfold F_X12_value
  simp (maxSteps := 3000000) (disch := omega) only [h2, ma_msa_n, ma_msa_s, mi_msi_n, mi_msi_s, ml_msl_n, ml_msl_s, ma_msi, ma_msl, mi_msa, mi_msl, ml_msa, ml_msi, msa_msa, msi_msi, msl_msl, ck_m, gf_s, gf_image, gf_truths, gf_knownRow, gf_daysRow, gf_bests, gf_nots, gf_lookeds, gf_bestsAt, gf_worths, gf_keptKnown, gf_keptDays, gf_round, gf_sums, gf_bestRound, gf_bodies, gf_thrown, gf_hasImage, gf_act, gf_spot, gf_size, gf_isWrong, gf_open, gf_edgeThing, gf_edgeMore, gf_stamp, gf_whose, gf_wage, gf_roundMany, gf_bestSet, gf_ran, gf_kind, gf_who, gf_tellsV, pf_thrown, pf_hasImage, pf_act, pf_spot, pf_size, pf_isWrong, pf_open, pf_edgeThing, pf_edgeMore, pf_stamp, pf_whose, pf_wage, pf_roundMany, pf_bestSet, pf_ran, pf_kind, pf_who, pf_tellsV, al_s, as_s, al_image, as_image, al_truths, as_truths0, as_truths1, al_knownRow, as_knownRow, al_daysRow, as_daysRow, al_bests, as_bests, al_nots, as_nots, al_lookeds, as_lookeds, al_bestsAt, as_bestsAt, al_worths, as_worths, al_keptKnown, as_keptKnown, al_keptDays, as_keptDays, al_round, as_round, al_sums, as_sums, al_bestRound, as_bestRound, al_bodies, as_bodies, cl_some, nm_b, nn_some, qn_some, qn_none, zk_0, zk_1, zk_n0, zk_n1, nI_add, pk_mul, pk_sub, nI_leE, nI_ltE, nI_eqE, nI_lt0, nI_ge0, nI_eq0, nI_gt0, nI_le0, ilt_t, ilt_f, ile_t, ile_f, ieq_t, ieq_f, if_tt, if_ff, Nat.add_sub_cancel]
  rfl
theorem f_illOf {t : Nat} {dd : Int32} (ht : ThOk (ma st 1) t) : ∃ st' : MS, F_X12_illOf G (encM G b st h0) nx b (nI t) dd = some (illF st t dd, encM G b st' h0, nx) ∧ FrM [9] st st' := by
  obtain ⟨h1, h2, h3, h4⟩ := ht
  obtain ⟨tr, e⟩ := f_summed (G := G) (b := b) (st := st) (h0 := h0) (nx := nx) (w := nI 0) (dd := dd) (k := ma st 1 (1018 + t)) h3 h4
  refine ⟨msa st 9 tr, ?_, FrM.msa (by decide)⟩
  unfold F_X12_illOf
  simp (maxSteps := 3000000) (disch := omega) only [h2, ma_msa_n, ma_msa_s, mi_msi_n, mi_msi_s, ml_msl_n, ml_msl_s, ma_msi, ma_msl, mi_msa, mi_msl, ml_msa, ml_msi, msa_msa, msi_msi, msl_msl, ck_m, gf_s, gf_image, gf_truths, gf_knownRow, gf_daysRow, gf_bests, gf_nots, gf_lookeds, gf_bestsAt, gf_worths, gf_keptKnown, gf_keptDays, gf_round, gf_sums, gf_bestRound, gf_bodies, gf_thrown, gf_hasImage, gf_act, gf_spot, gf_size, gf_isWrong, gf_open, gf_edgeThing, gf_edgeMore, gf_stamp, gf_whose, gf_wage, gf_roundMany, gf_bestSet, gf_ran, gf_kind, gf_who, gf_tellsV, pf_thrown, pf_hasImage, pf_act, pf_spot, pf_size, pf_isWrong, pf_open, pf_edgeThing, pf_edgeMore, pf_stamp, pf_whose, pf_wage, pf_roundMany, pf_bestSet, pf_ran, pf_kind, pf_who, pf_tellsV, al_s, as_s, al_image, as_image, al_truths, as_truths0, as_truths1, al_knownRow, as_knownRow, al_daysRow, as_daysRow, al_bests, as_bests, al_nots, as_nots, al_lookeds, as_lookeds, al_bestsAt, as_bestsAt, al_worths, as_worths, al_keptKnown, as_keptKnown, al_keptDays, as_keptDays, al_round, as_round, al_sums, as_sums, al_bestRound, as_bestRound, al_bodies, as_bodies, cl_some, nm_b, nn_some, qn_some, qn_none, zk_0, zk_1, zk_n0, zk_n1, nI_add, pk_mul, pk_sub, nI_leE, nI_ltE, nI_eqE, nI_lt0, nI_ge0, nI_eq0, nI_gt0, nI_le0, ilt_t, ilt_f, ile_t, ile_f, ieq_t, ieq_f, if_tt, if_ff, Nat.add_sub_cancel]
  rw [e]
  simp (maxSteps := 3000000) (disch := omega) only [F_X12_illOf_42, F_X12_illOf_66, ma_msa_n, ma_msa_s, mi_msi_n, mi_msi_s, ml_msl_n, ml_msl_s, ma_msi, ma_msl, mi_msa, mi_msl, ml_msa, ml_msi, msa_msa, msi_msi, msl_msl, ck_m, gf_s, gf_image, gf_truths, gf_knownRow, gf_daysRow, gf_bests, gf_nots, gf_lookeds, gf_bestsAt, gf_worths, gf_keptKnown, gf_keptDays, gf_round, gf_sums, gf_bestRound, gf_bodies, gf_thrown, gf_hasImage, gf_act, gf_spot, gf_size, gf_isWrong, gf_open, gf_edgeThing, gf_edgeMore, gf_stamp, gf_whose, gf_wage, gf_roundMany, gf_bestSet, gf_ran, gf_kind, gf_who, gf_tellsV, pf_thrown, pf_hasImage, pf_act, pf_spot, pf_size, pf_isWrong, pf_open, pf_edgeThing, pf_edgeMore, pf_stamp, pf_whose, pf_wage, pf_roundMany, pf_bestSet, pf_ran, pf_kind, pf_who, pf_tellsV, al_s, as_s, al_image, as_image, al_truths, as_truths0, as_truths1, al_knownRow, as_knownRow, al_daysRow, as_daysRow, al_bests, as_bests, al_nots, as_nots, al_lookeds, as_lookeds, al_bestsAt, as_bestsAt, al_worths, as_worths, al_keptKnown, as_keptKnown, al_keptDays, as_keptDays, al_round, as_round, al_sums, as_sums, al_bestRound, as_bestRound, al_bodies, as_bodies, cl_some, nm_b, nn_some, qn_some, qn_none, zk_0, zk_1, zk_n0, zk_n1, nI_add, pk_mul, pk_sub, nI_leE, nI_ltE, nI_eqE, nI_lt0, nI_ge0, nI_eq0, nI_gt0, nI_le0, ilt_t, ilt_f, ile_t, ile_f, ieq_t, ieq_f, if_tt, if_ff, Nat.add_sub_cancel]
  unfold illF clipF
  generalize sumF (ma st 1) (sN (ma st 1) (1010 + t)) (nI 0) dd (ma st 1 (1018 + t)) = x
  have key : ∀ y : Int32, (if 0 ≤ x + y then if x + y ≤ nI 1000 then some (x + y, encM G b (msa st 9 tr) h0, nx) else some (nI 1000, encM G b (msa st 9 tr) h0, nx) else some (nI 0, encM G b (msa st 9 tr) h0, nx)) = some (if x + y < 0 then 0 else if nI 1000 < x + y then nI 1000 else x + y, encM G b (msa st 9 tr) h0, nx) := by
    intro y
    by_cases c1 : 0 ≤ x + y
    · rw [if_pos c1, if_neg (Int32.not_lt.mpr c1)]
      by_cases c2 : x + y ≤ nI 1000
      · rw [if_pos c2, if_neg (Int32.not_lt.mpr c2)]
      · rw [if_neg c2, if_pos (Int32.not_le.mp c2)]
    · rw [if_neg c1, if_pos (Int32.not_le.mp c1)]
      rfl
  by_cases c : nI t = mi st 10
  · rw [if_pos c, if_pos c]
    exact key _
  · rw [if_neg c, if_neg c]
    exact key _
theorem f_healOf {t : Nat} {dd : Int32} (ht : ThOk (ma st 1) t) : ∃ st' : MS, F_X12_healOf G (encM G b st h0) nx b (nI t) dd = some (healF (ma st 1) t dd, encM G b st' h0, nx) ∧ FrM [9] st st' := by
  obtain ⟨h1, h2, h3, h4⟩ := ht
  obtain ⟨tr, e⟩ := f_summed (G := G) (b := b) (st := st) (h0 := h0) (nx := nx) (w := nI 1) (dd := dd) (k := ma st 1 (1018 + t)) h3 h4
  refine ⟨msa st 9 tr, ?_, FrM.msa (by decide)⟩
  unfold F_X12_healOf
  simp (maxSteps := 3000000) (disch := omega) only [h2, ma_msa_n, ma_msa_s, mi_msi_n, mi_msi_s, ml_msl_n, ml_msl_s, ma_msi, ma_msl, mi_msa, mi_msl, ml_msa, ml_msi, msa_msa, msi_msi, msl_msl, ck_m, gf_s, gf_image, gf_truths, gf_knownRow, gf_daysRow, gf_bests, gf_nots, gf_lookeds, gf_bestsAt, gf_worths, gf_keptKnown, gf_keptDays, gf_round, gf_sums, gf_bestRound, gf_bodies, gf_thrown, gf_hasImage, gf_act, gf_spot, gf_size, gf_isWrong, gf_open, gf_edgeThing, gf_edgeMore, gf_stamp, gf_whose, gf_wage, gf_roundMany, gf_bestSet, gf_ran, gf_kind, gf_who, gf_tellsV, pf_thrown, pf_hasImage, pf_act, pf_spot, pf_size, pf_isWrong, pf_open, pf_edgeThing, pf_edgeMore, pf_stamp, pf_whose, pf_wage, pf_roundMany, pf_bestSet, pf_ran, pf_kind, pf_who, pf_tellsV, al_s, as_s, al_image, as_image, al_truths, as_truths0, as_truths1, al_knownRow, as_knownRow, al_daysRow, as_daysRow, al_bests, as_bests, al_nots, as_nots, al_lookeds, as_lookeds, al_bestsAt, as_bestsAt, al_worths, as_worths, al_keptKnown, as_keptKnown, al_keptDays, as_keptDays, al_round, as_round, al_sums, as_sums, al_bestRound, as_bestRound, al_bodies, as_bodies, cl_some, nm_b, nn_some, qn_some, qn_none, zk_0, zk_1, zk_n0, zk_n1, nI_add, pk_mul, pk_sub, nI_leE, nI_ltE, nI_eqE, nI_lt0, nI_ge0, nI_eq0, nI_gt0, nI_le0, ilt_t, ilt_f, ile_t, ile_f, ieq_t, ieq_f, if_tt, if_ff, Nat.add_sub_cancel]
  rw [e]
  rfl
theorem f_overOf {t : Nat} {kn dd : Int32} (ht : ThOk (ma st 1) t) : ∃ st' : MS, F_X12_overOf G (encM G b st h0) nx b (nI t) kn dd = some (overF st t kn dd, encM G b st' h0, nx) ∧ FrM [9] st st' := by
  obtain ⟨st1, e1, f1⟩ := f_illOf (G := G) (b := b) (st := st) (h0 := h0) (nx := nx) (dd := dd) ht
  have hs := f1.ofa 1 (by decide)
  obtain ⟨st2, e2, f2⟩ := f_healOf (G := G) (b := b) (st := st1) (h0 := h0) (nx := nx) (t := t) (dd := dd) (by rw [hs]; exact ht)
  refine ⟨st2, ?_, (f1.trans f2).mono (by decide)⟩
  unfold F_X12_overOf
  simp (maxSteps := 3000000) (disch := omega) only [e1, e2, hs, ma_msa_n, ma_msa_s, mi_msi_n, mi_msi_s, ml_msl_n, ml_msl_s, ma_msi, ma_msl, mi_msa, mi_msl, ml_msa, ml_msi, msa_msa, msi_msi, msl_msl, ck_m, gf_s, gf_image, gf_truths, gf_knownRow, gf_daysRow, gf_bests, gf_nots, gf_lookeds, gf_bestsAt, gf_worths, gf_keptKnown, gf_keptDays, gf_round, gf_sums, gf_bestRound, gf_bodies, gf_thrown, gf_hasImage, gf_act, gf_spot, gf_size, gf_isWrong, gf_open, gf_edgeThing, gf_edgeMore, gf_stamp, gf_whose, gf_wage, gf_roundMany, gf_bestSet, gf_ran, gf_kind, gf_who, gf_tellsV, pf_thrown, pf_hasImage, pf_act, pf_spot, pf_size, pf_isWrong, pf_open, pf_edgeThing, pf_edgeMore, pf_stamp, pf_whose, pf_wage, pf_roundMany, pf_bestSet, pf_ran, pf_kind, pf_who, pf_tellsV, al_s, as_s, al_image, as_image, al_truths, as_truths0, as_truths1, al_knownRow, as_knownRow, al_daysRow, as_daysRow, al_bests, as_bests, al_nots, as_nots, al_lookeds, as_lookeds, al_bestsAt, as_bestsAt, al_worths, as_worths, al_keptKnown, as_keptKnown, al_keptDays, as_keptDays, al_round, as_round, al_sums, as_sums, al_bestRound, as_bestRound, al_bodies, as_bodies, cl_some, nm_b, nn_some, qn_some, qn_none, zk_0, zk_1, zk_n0, zk_n1, nI_add, pk_mul, pk_sub, nI_leE, nI_ltE, nI_eqE, nI_lt0, nI_ge0, nI_eq0, nI_gt0, nI_le0, ilt_t, ilt_f, ile_t, ile_f, ieq_t, ieq_f, if_tt, if_ff, Nat.add_sub_cancel]
  rfl
theorem f_over_loop {nt : Nat} (hn : ma st 1 1 = nI nt) (hl : nt ≤ 8) (ht : ∀ t, t < nt → ThOk (ma st 1) t) : ∀ (r j : Nat) (st1 : MS) (m : Nat), j + r = nt → FrM [9] (ovS st j) st1 → r < m → ∃ st' : MS, F_X12_over_2 G m (encM G b st1 h0) nx b (nI j) = some ((), encM G b st' h0, nx) ∧ FrM [9] (ovS st nt) st' := by
  intro r
  induction r with
  | zero =>
    intro j st1 m hj hF hm
    obtain ⟨m, rfl⟩ : ∃ q, m = q + 1 := ⟨m - 1, by omega⟩
    have hj : j = nt := by omega
    subst hj
    have e1 : ma st1 1 1 = nI j := by rw [hF.ofa 1 (by decide), ovS_ag hl 1 (by omega), hn]
    refine ⟨st1, ?_, hF⟩
    rw [F_X12_over_2_s]
    simp (maxSteps := 3000000) (disch := omega) only [e1, ma_msa_n, ma_msa_s, mi_msi_n, mi_msi_s, ml_msl_n, ml_msl_s, ma_msi, ma_msl, mi_msa, mi_msl, ml_msa, ml_msi, msa_msa, msi_msi, msl_msl, ck_m, gf_s, gf_image, gf_truths, gf_knownRow, gf_daysRow, gf_bests, gf_nots, gf_lookeds, gf_bestsAt, gf_worths, gf_keptKnown, gf_keptDays, gf_round, gf_sums, gf_bestRound, gf_bodies, gf_thrown, gf_hasImage, gf_act, gf_spot, gf_size, gf_isWrong, gf_open, gf_edgeThing, gf_edgeMore, gf_stamp, gf_whose, gf_wage, gf_roundMany, gf_bestSet, gf_ran, gf_kind, gf_who, gf_tellsV, pf_thrown, pf_hasImage, pf_act, pf_spot, pf_size, pf_isWrong, pf_open, pf_edgeThing, pf_edgeMore, pf_stamp, pf_whose, pf_wage, pf_roundMany, pf_bestSet, pf_ran, pf_kind, pf_who, pf_tellsV, al_s, as_s, al_image, as_image, al_truths, as_truths0, as_truths1, al_knownRow, as_knownRow, al_daysRow, as_daysRow, al_bests, as_bests, al_nots, as_nots, al_lookeds, as_lookeds, al_bestsAt, as_bestsAt, al_worths, as_worths, al_keptKnown, as_keptKnown, al_keptDays, as_keptDays, al_round, as_round, al_sums, as_sums, al_bestRound, as_bestRound, al_bodies, as_bodies, cl_some, nm_b, nn_some, qn_some, qn_none, zk_0, zk_1, zk_n0, zk_n1, nI_add, pk_mul, pk_sub, nI_leE, nI_ltE, nI_eqE, nI_lt0, nI_ge0, nI_eq0, nI_gt0, nI_le0, ilt_t, ilt_f, ile_t, ile_f, ieq_t, ieq_f, if_tt, if_ff, Nat.add_sub_cancel]
  | succ r ih =>
    intro j st1 m hj hF hm
    obtain ⟨m, rfl⟩ : ∃ q, m = q + 1 := ⟨m - 1, by omega⟩
    have hj8 : j < nt := by omega
    have ea := ovS_ag (st := st) (j := j) (by omega)
    have es := hF.ofa 1 (by decide)
    have e1 : ma st1 1 1 = nI nt := by rw [es, ea 1 (by omega), hn]
    have ht1 : ThOk (ma st1 1) j := by rw [es]; exact ThOk_ag ea (ht j hj8)
    obtain ⟨st2, e2, f2⟩ := f_overOf (G := G) (b := b) (st := st1) (h0 := h0) (nx := nx) (t := j) (kn := ma st1 1 (1034 + j)) (dd := ma st1 1 (1042 + j)) ht1
    have es2 := f2.ofa 1 (by decide)
    have eo : overF st1 j (ma st1 1 (1034 + j)) (ma st1 1 (1042 + j)) = overF (ovS st j) j (ma (ovS st j) 1 (1034 + j)) (ma (ovS st j) 1 (1042 + j)) := by rw [overF_fr hF (by decide) (by decide) (by decide), es]
    have es3 : ma st2 1 = ma (ovS st j) 1 := es2.trans es
    rw [F_X12_over_2_s]
    simp (maxSteps := 3000000) (disch := omega) only [e1, e2, f_later, es3, eo, ma_msa_n, ma_msa_s, mi_msi_n, mi_msi_s, ml_msl_n, ml_msl_s, ma_msi, ma_msl, mi_msa, mi_msl, ml_msa, ml_msi, msa_msa, msi_msi, msl_msl, ck_m, gf_s, gf_image, gf_truths, gf_knownRow, gf_daysRow, gf_bests, gf_nots, gf_lookeds, gf_bestsAt, gf_worths, gf_keptKnown, gf_keptDays, gf_round, gf_sums, gf_bestRound, gf_bodies, gf_thrown, gf_hasImage, gf_act, gf_spot, gf_size, gf_isWrong, gf_open, gf_edgeThing, gf_edgeMore, gf_stamp, gf_whose, gf_wage, gf_roundMany, gf_bestSet, gf_ran, gf_kind, gf_who, gf_tellsV, pf_thrown, pf_hasImage, pf_act, pf_spot, pf_size, pf_isWrong, pf_open, pf_edgeThing, pf_edgeMore, pf_stamp, pf_whose, pf_wage, pf_roundMany, pf_bestSet, pf_ran, pf_kind, pf_who, pf_tellsV, al_s, as_s, al_image, as_image, al_truths, as_truths0, as_truths1, al_knownRow, as_knownRow, al_daysRow, as_daysRow, al_bests, as_bests, al_nots, as_nots, al_lookeds, as_lookeds, al_bestsAt, as_bestsAt, al_worths, as_worths, al_keptKnown, as_keptKnown, al_keptDays, as_keptDays, al_round, as_round, al_sums, as_sums, al_bestRound, as_bestRound, al_bodies, as_bodies, cl_some, nm_b, nn_some, qn_some, qn_none, zk_0, zk_1, zk_n0, zk_n1, nI_add, pk_mul, pk_sub, nI_leE, nI_ltE, nI_eqE, nI_lt0, nI_ge0, nI_eq0, nI_gt0, nI_le0, ilt_t, ilt_f, ile_t, ile_f, ieq_t, ieq_f, if_tt, if_ff, Nat.add_sub_cancel]
    rw [show upK (ma (ovS st j) 1) (1034 + j) (overF (ovS st j) j (ma (ovS st j) 1 (1034 + j)) (ma (ovS st j) 1 (1042 + j))) (1042 + j) = ma (ovS st j) 1 (1042 + j) from upK_n (by omega)]
    refine ih (j + 1) _ m (by omega) ?_ (by omega)
    intro k hk
    obtain ⟨q1, q2, q3⟩ := (hF.trans f2) k (by simpa using hk)
    refine ⟨q1, ?_, q3⟩
    by_cases e : k = 1
    · subst e
      rw [ma_msa_s]
      show _ = ma (ovStep (ovS st j) j) 1
      unfold ovStep
      rw [ma_msa_s]
    · rw [ma_msa_n e, q2]
      show _ = ma (ovStep (ovS st j) j) k
      unfold ovStep
      rw [ma_msa_n e]
theorem f_over {nt : Nat} (hn : ma st 1 1 = nI nt) (hl : nt ≤ 8) (ht : ∀ t, t < nt → ThOk (ma st 1) t) : ∃ st' : MS, F_X12_over G (encM G b st h0) nx b = some ((), encM G b st' h0, nx) ∧ FrM [9] (ovS st nt) st' := by
  unfold F_X12_over
  exact f_over_loop hn hl ht nt 0 st fuelL (by omega) FrM.rf (by unfold fuelL; omega)
theorem f_brings {t : Nat} {kn : Int32} (ht : ThOk (ma st 1) t) : F_X12_brings G (encM G b st h0) nx b (nI t) kn = some (brF (ma st 1) t kn, encM G b st h0, nx) := by
  unfold F_X12_brings
  simp (maxSteps := 3000000) (disch := omega) only [f_value ht (show 0 < 4 by decide), f_value ht (show 1 < 4 by decide), ma_msa_n, ma_msa_s, mi_msi_n, mi_msi_s, ml_msl_n, ml_msl_s, ma_msi, ma_msl, mi_msa, mi_msl, ml_msa, ml_msi, msa_msa, msi_msi, msl_msl, ck_m, gf_s, gf_image, gf_truths, gf_knownRow, gf_daysRow, gf_bests, gf_nots, gf_lookeds, gf_bestsAt, gf_worths, gf_keptKnown, gf_keptDays, gf_round, gf_sums, gf_bestRound, gf_bodies, gf_thrown, gf_hasImage, gf_act, gf_spot, gf_size, gf_isWrong, gf_open, gf_edgeThing, gf_edgeMore, gf_stamp, gf_whose, gf_wage, gf_roundMany, gf_bestSet, gf_ran, gf_kind, gf_who, gf_tellsV, pf_thrown, pf_hasImage, pf_act, pf_spot, pf_size, pf_isWrong, pf_open, pf_edgeThing, pf_edgeMore, pf_stamp, pf_whose, pf_wage, pf_roundMany, pf_bestSet, pf_ran, pf_kind, pf_who, pf_tellsV, al_s, as_s, al_image, as_image, al_truths, as_truths0, as_truths1, al_knownRow, as_knownRow, al_daysRow, as_daysRow, al_bests, as_bests, al_nots, as_nots, al_lookeds, as_lookeds, al_bestsAt, as_bestsAt, al_worths, as_worths, al_keptKnown, as_keptKnown, al_keptDays, as_keptDays, al_round, as_round, al_sums, as_sums, al_bestRound, as_bestRound, al_bodies, as_bodies, cl_some, nm_b, nn_some, qn_some, qn_none, zk_0, zk_1, zk_n0, zk_n1, nI_add, pk_mul, pk_sub, nI_leE, nI_ltE, nI_eqE, nI_lt0, nI_ge0, nI_eq0, nI_gt0, nI_le0, ilt_t, ilt_f, ile_t, ile_f, ieq_t, ieq_f, if_tt, if_ff, Nat.add_sub_cancel]
  rfl
set_option maxRecDepth 100000 in
set_option maxHeartbeats 4000000 in
theorem f_rows_in {t kind : Nat} {kk : Hp → Nat → Nat → Int32 → Int32 → Rz Unit} (ht : ThOk (ma st 1) t) (hk : kind < 3) : ∀ (r j : Nat) (st1 : MS) (m : Nat), j + r = 9 → FrM [9, 12, 13, 19] st st1 → mi st1 19 = nI t → (∀ k9 jj : Nat, k9 < 3 → jj < 9 → 9 * k9 + jj < 9 * kind + j → ma st1 12 (9 * k9 + jj) = (rowK st t k9 jj).1 ∧ ma st1 13 (9 * k9 + jj) = (rowK st t k9 jj).2) → r < m →
    ∃ st' : MS, F_X12_rowsOf_93 G kk m (encM G b st1 h0) nx b (nI t) (nI kind) (rowK st t kind j).1 (rowK st t kind j).2 (nI j) = kk (encM G b st' h0) nx b (nI t) (nI (kind + 1)) ∧ FrM [9, 12, 13, 19] st st' ∧ mi st' 19 = nI t ∧ (∀ k9 jj : Nat, k9 < 3 → jj < 9 → 9 * k9 + jj < 9 * (kind + 1) → ma st' 12 (9 * k9 + jj) = (rowK st t k9 jj).1 ∧ ma st' 13 (9 * k9 + jj) = (rowK st t k9 jj).2) := by
  intro r
  induction r with
  | zero =>
    intro j st1 m hj hF hw hr hm
    obtain ⟨m, rfl⟩ : ∃ q, m = q + 1 := ⟨m - 1, by omega⟩
    have hj : j = 9 := by omega
    subst hj
    refine ⟨st1, ?_, hF, hw, fun k9 jj h1 h2 h3 => hr k9 jj h1 h2 (by omega)⟩
    rw [F_X12_rowsOf_93_s]
    simp (maxSteps := 3000000) (disch := omega) only [ma_msa_n, ma_msa_s, mi_msi_n, mi_msi_s, ml_msl_n, ml_msl_s, ma_msi, ma_msl, mi_msa, mi_msl, ml_msa, ml_msi, msa_msa, msi_msi, msl_msl, ck_m, gf_s, gf_image, gf_truths, gf_knownRow, gf_daysRow, gf_bests, gf_nots, gf_lookeds, gf_bestsAt, gf_worths, gf_keptKnown, gf_keptDays, gf_round, gf_sums, gf_bestRound, gf_bodies, gf_thrown, gf_hasImage, gf_act, gf_spot, gf_size, gf_isWrong, gf_open, gf_edgeThing, gf_edgeMore, gf_stamp, gf_whose, gf_wage, gf_roundMany, gf_bestSet, gf_ran, gf_kind, gf_who, gf_tellsV, pf_thrown, pf_hasImage, pf_act, pf_spot, pf_size, pf_isWrong, pf_open, pf_edgeThing, pf_edgeMore, pf_stamp, pf_whose, pf_wage, pf_roundMany, pf_bestSet, pf_ran, pf_kind, pf_who, pf_tellsV, al_s, as_s, al_image, as_image, al_truths, as_truths0, as_truths1, al_knownRow, as_knownRow, al_daysRow, as_daysRow, al_bests, as_bests, al_nots, as_nots, al_lookeds, as_lookeds, al_bestsAt, as_bestsAt, al_worths, as_worths, al_keptKnown, as_keptKnown, al_keptDays, as_keptDays, al_round, as_round, al_sums, as_sums, al_bestRound, as_bestRound, al_bodies, as_bodies, cl_some, nm_b, nn_some, qn_some, qn_none, zk_0, zk_1, zk_n0, zk_n1, nI_add, pk_mul, pk_sub, nI_leE, nI_ltE, nI_eqE, nI_lt0, nI_ge0, nI_eq0, nI_gt0, nI_le0, ilt_t, ilt_f, ile_t, ile_f, ieq_t, ieq_f, if_tt, if_ff, Nat.add_sub_cancel]
  | succ r ih =>
    intro j st1 m hj hF hw hr hm
    obtain ⟨m, rfl⟩ : ∃ q, m = q + 1 := ⟨m - 1, by omega⟩
    have hj9 : j < 9 := by omega
    have e1 := ma_fr1 hF (by decide)
    have hFa : FrM [9, 12, 13, 19] st (msa (msa st1 12 (upK (ma st1 12) (9 * kind + j) (rowK st t kind j).1)) 13 (upK (ma st1 13) (9 * kind + j) (rowK st t kind j).2)) := (hF.trans ((FrM.msa (k := 12) (ks := [9, 12, 13, 19]) (by decide)).trans (FrM.msa (k := 13) (ks := [9, 12, 13, 19]) (by decide)))).mono (by decide)
    obtain ⟨st2, e2, hF2⟩ := f_overOf (G := G) (b := b) (h0 := h0) (nx := nx) (t := t) (kn := (rowK st t kind j).1) (dd := (rowK st t kind j).2) (st := msa (msa st1 12 (upK (ma st1 12) (9 * kind + j) (rowK st t kind j).1)) 13 (upK (ma st1 13) (9 * kind + j) (rowK st t kind j).2)) (by rw [show ma (msa (msa st1 12 _) 13 _) 1 = ma st1 1 from rfl, e1]; exact ht)
    rw [overF_fr (st := st) hFa (by decide) (by decide) (by decide)] at e2
    rw [F_X12_rowsOf_93_s]
    simp (maxSteps := 3000000) (disch := omega) only [e2, f_later, ma_msa_n, ma_msa_s, mi_msi_n, mi_msi_s, ml_msl_n, ml_msl_s, ma_msi, ma_msl, mi_msa, mi_msl, ml_msa, ml_msi, msa_msa, msi_msi, msl_msl, ck_m, gf_s, gf_image, gf_truths, gf_knownRow, gf_daysRow, gf_bests, gf_nots, gf_lookeds, gf_bestsAt, gf_worths, gf_keptKnown, gf_keptDays, gf_round, gf_sums, gf_bestRound, gf_bodies, gf_thrown, gf_hasImage, gf_act, gf_spot, gf_size, gf_isWrong, gf_open, gf_edgeThing, gf_edgeMore, gf_stamp, gf_whose, gf_wage, gf_roundMany, gf_bestSet, gf_ran, gf_kind, gf_who, gf_tellsV, pf_thrown, pf_hasImage, pf_act, pf_spot, pf_size, pf_isWrong, pf_open, pf_edgeThing, pf_edgeMore, pf_stamp, pf_whose, pf_wage, pf_roundMany, pf_bestSet, pf_ran, pf_kind, pf_who, pf_tellsV, al_s, as_s, al_image, as_image, al_truths, as_truths0, as_truths1, al_knownRow, as_knownRow, al_daysRow, as_daysRow, al_bests, as_bests, al_nots, as_nots, al_lookeds, as_lookeds, al_bestsAt, as_bestsAt, al_worths, as_worths, al_keptKnown, as_keptKnown, al_keptDays, as_keptDays, al_round, as_round, al_sums, as_sums, al_bestRound, as_bestRound, al_bodies, as_bodies, cl_some, nm_b, nn_some, qn_some, qn_none, zk_0, zk_1, zk_n0, zk_n1, nI_add, pk_mul, pk_sub, nI_leE, nI_ltE, nI_eqE, nI_lt0, nI_ge0, nI_eq0, nI_gt0, nI_le0, ilt_t, ilt_f, ile_t, ile_f, ieq_t, ieq_f, if_tt, if_ff, Nat.add_sub_cancel]
    refine ih (j + 1) st2 m (by omega) ((hFa.trans hF2).mono (by decide)) ?_ ?_ (by omega)
    · rw [hF2.of1 19 (by decide)]; exact hw
    · intro k9 jj hkk hjj hlt
      rw [hF2.ofa 12 (by decide), hF2.ofa 13 (by decide)]
      rw [ma_msa_s, show ma (msa (msa st1 12 _) 13 _) 12 = upK (ma st1 12) _ _ from (ma_msa_n (by decide)).trans ma_msa_s]
      by_cases e : 9 * k9 + jj = 9 * kind + j
      · have ek : k9 = kind := by omega
        have ej : jj = j := by omega
        subst ek; subst ej
        exact ⟨upK_s, upK_s⟩
      · rw [upK_n e, upK_n e]
        exact hr k9 jj hkk hjj (by omega)
set_option maxRecDepth 100000 in
set_option maxHeartbeats 4000000 in
theorem f_rows_out {t : Nat} (ht : ThOk (ma st 1) t) : ∀ (r kind : Nat) (st1 : MS) (m : Nat), kind + r = 3 → FrM [9, 12, 13, 19] st st1 → mi st1 19 = nI t → (∀ k9 jj : Nat, k9 < 3 → jj < 9 → 9 * k9 + jj < 9 * kind → ma st1 12 (9 * k9 + jj) = (rowK st t k9 jj).1 ∧ ma st1 13 (9 * k9 + jj) = (rowK st t k9 jj).2) → r < m →
    ∃ st' : MS, F_X12_rowsOf_7 G m (encM G b st1 h0) nx b (nI t) (nI kind) = some ((), encM G b st' h0, nx) ∧ FrM [9, 12, 13, 19] st st' ∧ mi st' 19 = nI t ∧ (∀ k9 jj : Nat, k9 < 3 → jj < 9 → ma st' 12 (9 * k9 + jj) = (rowK st t k9 jj).1 ∧ ma st' 13 (9 * k9 + jj) = (rowK st t k9 jj).2) := by
  intro r
  induction r with
  | zero =>
    intro kind st1 m hk hF hw hr hm
    obtain ⟨m, rfl⟩ : ∃ q, m = q + 1 := ⟨m - 1, by omega⟩
    have hk : kind = 3 := by omega
    subst hk
    refine ⟨st1, ?_, hF, hw, fun k9 jj h1 h2 => hr k9 jj h1 h2 (by omega)⟩
    rw [F_X12_rowsOf_7_s]
    simp (maxSteps := 3000000) (disch := omega) only [ma_msa_n, ma_msa_s, mi_msi_n, mi_msi_s, ml_msl_n, ml_msl_s, ma_msi, ma_msl, mi_msa, mi_msl, ml_msa, ml_msi, msa_msa, msi_msi, msl_msl, ck_m, gf_s, gf_image, gf_truths, gf_knownRow, gf_daysRow, gf_bests, gf_nots, gf_lookeds, gf_bestsAt, gf_worths, gf_keptKnown, gf_keptDays, gf_round, gf_sums, gf_bestRound, gf_bodies, gf_thrown, gf_hasImage, gf_act, gf_spot, gf_size, gf_isWrong, gf_open, gf_edgeThing, gf_edgeMore, gf_stamp, gf_whose, gf_wage, gf_roundMany, gf_bestSet, gf_ran, gf_kind, gf_who, gf_tellsV, pf_thrown, pf_hasImage, pf_act, pf_spot, pf_size, pf_isWrong, pf_open, pf_edgeThing, pf_edgeMore, pf_stamp, pf_whose, pf_wage, pf_roundMany, pf_bestSet, pf_ran, pf_kind, pf_who, pf_tellsV, al_s, as_s, al_image, as_image, al_truths, as_truths0, as_truths1, al_knownRow, as_knownRow, al_daysRow, as_daysRow, al_bests, as_bests, al_nots, as_nots, al_lookeds, as_lookeds, al_bestsAt, as_bestsAt, al_worths, as_worths, al_keptKnown, as_keptKnown, al_keptDays, as_keptDays, al_round, as_round, al_sums, as_sums, al_bestRound, as_bestRound, al_bodies, as_bodies, cl_some, nm_b, nn_some, qn_some, qn_none, zk_0, zk_1, zk_n0, zk_n1, nI_add, pk_mul, pk_sub, nI_leE, nI_ltE, nI_eqE, nI_lt0, nI_ge0, nI_eq0, nI_gt0, nI_le0, ilt_t, ilt_f, ile_t, ile_f, ieq_t, ieq_f, if_tt, if_ff, Nat.add_sub_cancel]
  | succ r ih =>
    intro kind st1 m hk hF hw hr hm
    obtain ⟨m, rfl⟩ : ∃ q, m = q + 1 := ⟨m - 1, by omega⟩
    have hk3 : kind < 3 := by omega
    have e1 := ma_fr1 hF (by decide)
    have ht1 : ThOk (ma st1 1) t := by rw [e1]; exact ht
    have h8 := ht.1
    have go : ∀ (st2 : MS), FrM [9] st1 st2 → ∃ st' : MS, F_X12_rowsOf_90 G (F_X12_rowsOf_7 G m) (encM G b st2 h0) nx b (nI t) (nI kind) (rowK st t kind 0).1 (rowK st t kind 0).2 = some ((), encM G b st' h0, nx) ∧ FrM [9, 12, 13, 19] st st' ∧ mi st' 19 = nI t ∧ (∀ k9 jj : Nat, k9 < 3 → jj < 9 → ma st' 12 (9 * k9 + jj) = (rowK st t k9 jj).1 ∧ ma st' 13 (9 * k9 + jj) = (rowK st t k9 jj).2) := by
      intro st2 hF2
      unfold F_X12_rowsOf_90
      obtain ⟨st3, e3, a1, a2, a3⟩ := f_rows_in (G := G) (b := b) (st := st) (h0 := h0) (nx := nx) (kk := F_X12_rowsOf_7 G m) ht hk3 9 0 st2 fuelL (by omega) ((hF.trans hF2).mono (by decide)) (by rw [hF2.of1 19 (by decide)]; exact hw) (fun k9 j h1 h2 h3 => by rw [hF2.ofa 12 (by decide), hF2.ofa 13 (by decide)]; exact hr k9 j h1 h2 (by omega)) (by unfold fuelL; omega)
      rw [e3]
      exact ih (kind + 1) st3 m (by omega) a1 a2 a3 (by omega)
    rw [F_X12_rowsOf_7_s]
    by_cases hz : kind = 0
    · subst hz
      simp (maxSteps := 3000000) (disch := omega) only [F_X12_rowsOf_49, F_X12_rowsOf_68, ma_msa_n, ma_msa_s, mi_msi_n, mi_msi_s, ml_msl_n, ml_msl_s, ma_msi, ma_msl, mi_msa, mi_msl, ml_msa, ml_msi, msa_msa, msi_msi, msl_msl, ck_m, gf_s, gf_image, gf_truths, gf_knownRow, gf_daysRow, gf_bests, gf_nots, gf_lookeds, gf_bestsAt, gf_worths, gf_keptKnown, gf_keptDays, gf_round, gf_sums, gf_bestRound, gf_bodies, gf_thrown, gf_hasImage, gf_act, gf_spot, gf_size, gf_isWrong, gf_open, gf_edgeThing, gf_edgeMore, gf_stamp, gf_whose, gf_wage, gf_roundMany, gf_bestSet, gf_ran, gf_kind, gf_who, gf_tellsV, pf_thrown, pf_hasImage, pf_act, pf_spot, pf_size, pf_isWrong, pf_open, pf_edgeThing, pf_edgeMore, pf_stamp, pf_whose, pf_wage, pf_roundMany, pf_bestSet, pf_ran, pf_kind, pf_who, pf_tellsV, al_s, as_s, al_image, as_image, al_truths, as_truths0, as_truths1, al_knownRow, as_knownRow, al_daysRow, as_daysRow, al_bests, as_bests, al_nots, as_nots, al_lookeds, as_lookeds, al_bestsAt, as_bestsAt, al_worths, as_worths, al_keptKnown, as_keptKnown, al_keptDays, as_keptDays, al_round, as_round, al_sums, as_sums, al_bestRound, as_bestRound, al_bodies, as_bodies, cl_some, nm_b, nn_some, qn_some, qn_none, zk_0, zk_1, zk_n0, zk_n1, nI_add, pk_mul, pk_sub, nI_leE, nI_ltE, nI_eqE, nI_lt0, nI_ge0, nI_eq0, nI_gt0, nI_le0, ilt_t, ilt_f, ile_t, ile_f, ieq_t, ieq_f, if_tt, if_ff, Nat.add_sub_cancel]
      rw [e1]
      exact go st1 FrM.rf
    · have rest : ∀ (z : Int32), z = (if kind = 1 ∨ 0 < valF (ma st 1) t 3 then nI 1000000 else nI 0) → ∃ st' : MS, F_X12_rowsOf_49 G (F_X12_rowsOf_7 G m) (encM G b st1 h0) nx z b (nI t) (nI kind) = some ((), encM G b st' h0, nx) ∧ FrM [9, 12, 13, 19] st st' ∧ mi st' 19 = nI t ∧ (∀ k9 jj : Nat, k9 < 3 → jj < 9 → ma st' 12 (9 * k9 + jj) = (rowK st t k9 jj).1 ∧ ma st' 13 (9 * k9 + jj) = (rowK st t k9 jj).2) := by
        intro z hz2
        obtain ⟨st2, e2, hF2⟩ := f_overOf (G := G) (b := b) (st := st1) (h0 := h0) (nx := nx) (t := t) (kn := z) (dd := nI 0) ht1
        rw [overF_fr (st := st) hF (by decide) (by decide) (by decide)] at e2
        simp (maxSteps := 3000000) (disch := omega) only [F_X12_rowsOf_49, F_X12_rowsOf_68, e2, f_later, ma_msa_n, ma_msa_s, mi_msi_n, mi_msi_s, ml_msl_n, ml_msl_s, ma_msi, ma_msl, mi_msa, mi_msl, ml_msa, ml_msi, msa_msa, msi_msi, msl_msl, ck_m, gf_s, gf_image, gf_truths, gf_knownRow, gf_daysRow, gf_bests, gf_nots, gf_lookeds, gf_bestsAt, gf_worths, gf_keptKnown, gf_keptDays, gf_round, gf_sums, gf_bestRound, gf_bodies, gf_thrown, gf_hasImage, gf_act, gf_spot, gf_size, gf_isWrong, gf_open, gf_edgeThing, gf_edgeMore, gf_stamp, gf_whose, gf_wage, gf_roundMany, gf_bestSet, gf_ran, gf_kind, gf_who, gf_tellsV, pf_thrown, pf_hasImage, pf_act, pf_spot, pf_size, pf_isWrong, pf_open, pf_edgeThing, pf_edgeMore, pf_stamp, pf_whose, pf_wage, pf_roundMany, pf_bestSet, pf_ran, pf_kind, pf_who, pf_tellsV, al_s, as_s, al_image, as_image, al_truths, as_truths0, as_truths1, al_knownRow, as_knownRow, al_daysRow, as_daysRow, al_bests, as_bests, al_nots, as_nots, al_lookeds, as_lookeds, al_bestsAt, as_bestsAt, al_worths, as_worths, al_keptKnown, as_keptKnown, al_keptDays, as_keptDays, al_round, as_round, al_sums, as_sums, al_bestRound, as_bestRound, al_bodies, as_bodies, cl_some, nm_b, nn_some, qn_some, qn_none, zk_0, zk_1, zk_n0, zk_n1, nI_add, pk_mul, pk_sub, nI_leE, nI_ltE, nI_eqE, nI_lt0, nI_ge0, nI_eq0, nI_gt0, nI_le0, ilt_t, ilt_f, ile_t, ile_f, ieq_t, ieq_f, if_tt, if_ff, Nat.add_sub_cancel]
        have e3 : rowK st t kind 0 = (overF st t z (nI 0), laterF (nI 0)) := by
          show rowSt st t kind = _
          unfold rowSt
          rw [if_neg hz, ← hz2]
        have := go st2 hF2
        rw [e3] at this
        exact this
      by_cases h1 : kind = 1
      · simp (maxSteps := 3000000) (disch := omega) only [F_X12_rowsOf_43, ma_msa_n, ma_msa_s, mi_msi_n, mi_msi_s, ml_msl_n, ml_msl_s, ma_msi, ma_msl, mi_msa, mi_msl, ml_msa, ml_msi, msa_msa, msi_msi, msl_msl, ck_m, gf_s, gf_image, gf_truths, gf_knownRow, gf_daysRow, gf_bests, gf_nots, gf_lookeds, gf_bestsAt, gf_worths, gf_keptKnown, gf_keptDays, gf_round, gf_sums, gf_bestRound, gf_bodies, gf_thrown, gf_hasImage, gf_act, gf_spot, gf_size, gf_isWrong, gf_open, gf_edgeThing, gf_edgeMore, gf_stamp, gf_whose, gf_wage, gf_roundMany, gf_bestSet, gf_ran, gf_kind, gf_who, gf_tellsV, pf_thrown, pf_hasImage, pf_act, pf_spot, pf_size, pf_isWrong, pf_open, pf_edgeThing, pf_edgeMore, pf_stamp, pf_whose, pf_wage, pf_roundMany, pf_bestSet, pf_ran, pf_kind, pf_who, pf_tellsV, al_s, as_s, al_image, as_image, al_truths, as_truths0, as_truths1, al_knownRow, as_knownRow, al_daysRow, as_daysRow, al_bests, as_bests, al_nots, as_nots, al_lookeds, as_lookeds, al_bestsAt, as_bestsAt, al_worths, as_worths, al_keptKnown, as_keptKnown, al_keptDays, as_keptDays, al_round, as_round, al_sums, as_sums, al_bestRound, as_bestRound, al_bodies, as_bodies, cl_some, nm_b, nn_some, qn_some, qn_none, zk_0, zk_1, zk_n0, zk_n1, nI_add, pk_mul, pk_sub, nI_leE, nI_ltE, nI_eqE, nI_lt0, nI_ge0, nI_eq0, nI_gt0, nI_le0, ilt_t, ilt_f, ile_t, ile_f, ieq_t, ieq_f, if_tt, if_ff, Nat.add_sub_cancel]
        exact rest _ (by rw [if_pos (Or.inl h1)])
      · simp (maxSteps := 3000000) (disch := omega) only [F_X12_rowsOf_43, f_value ht1 (show 3 < 4 by decide), ma_msa_n, ma_msa_s, mi_msi_n, mi_msi_s, ml_msl_n, ml_msl_s, ma_msi, ma_msl, mi_msa, mi_msl, ml_msa, ml_msi, msa_msa, msi_msi, msl_msl, ck_m, gf_s, gf_image, gf_truths, gf_knownRow, gf_daysRow, gf_bests, gf_nots, gf_lookeds, gf_bestsAt, gf_worths, gf_keptKnown, gf_keptDays, gf_round, gf_sums, gf_bestRound, gf_bodies, gf_thrown, gf_hasImage, gf_act, gf_spot, gf_size, gf_isWrong, gf_open, gf_edgeThing, gf_edgeMore, gf_stamp, gf_whose, gf_wage, gf_roundMany, gf_bestSet, gf_ran, gf_kind, gf_who, gf_tellsV, pf_thrown, pf_hasImage, pf_act, pf_spot, pf_size, pf_isWrong, pf_open, pf_edgeThing, pf_edgeMore, pf_stamp, pf_whose, pf_wage, pf_roundMany, pf_bestSet, pf_ran, pf_kind, pf_who, pf_tellsV, al_s, as_s, al_image, as_image, al_truths, as_truths0, as_truths1, al_knownRow, as_knownRow, al_daysRow, as_daysRow, al_bests, as_bests, al_nots, as_nots, al_lookeds, as_lookeds, al_bestsAt, as_bestsAt, al_worths, as_worths, al_keptKnown, as_keptKnown, al_keptDays, as_keptDays, al_round, as_round, al_sums, as_sums, al_bestRound, as_bestRound, al_bodies, as_bodies, cl_some, nm_b, nn_some, qn_some, qn_none, zk_0, zk_1, zk_n0, zk_n1, nI_add, pk_mul, pk_sub, nI_leE, nI_ltE, nI_eqE, nI_lt0, nI_ge0, nI_eq0, nI_gt0, nI_le0, ilt_t, ilt_f, ile_t, ile_f, ieq_t, ieq_f, if_tt, if_ff, Nat.add_sub_cancel]
        by_cases c : valF (ma st1 1) t 3 ≤ 0
        · rw [if_pos c]
          exact rest _ (by rw [if_neg (fun q => q.elim (fun q => h1 q) (fun q => (Int32.not_lt.mpr c) (by rw [e1]; exact q)))])
        · rw [if_neg c]
          exact rest _ (by rw [if_pos (Or.inr (by rw [← e1]; exact Int32.not_le.mp c))])
theorem f_rowsOf {t : Nat} (ht : ThOk (ma st 1) t) : ∃ st' : MS, F_X12_rowsOf G (encM G b st h0) nx b (nI t) = some ((), encM G b st' h0, nx) ∧ FrM [9, 12, 13, 19] st st' ∧ mi st' 19 = nI t ∧ (∀ k9 jj : Nat, k9 < 3 → jj < 9 → ma st' 12 (9 * k9 + jj) = (rowK st t k9 jj).1 ∧ ma st' 13 (9 * k9 + jj) = (rowK st t k9 jj).2) := by
  unfold F_X12_rowsOf
  simp (maxSteps := 3000000) (disch := omega) only [ma_msa_n, ma_msa_s, mi_msi_n, mi_msi_s, ml_msl_n, ml_msl_s, ma_msi, ma_msl, mi_msa, mi_msl, ml_msa, ml_msi, msa_msa, msi_msi, msl_msl, ck_m, gf_s, gf_image, gf_truths, gf_knownRow, gf_daysRow, gf_bests, gf_nots, gf_lookeds, gf_bestsAt, gf_worths, gf_keptKnown, gf_keptDays, gf_round, gf_sums, gf_bestRound, gf_bodies, gf_thrown, gf_hasImage, gf_act, gf_spot, gf_size, gf_isWrong, gf_open, gf_edgeThing, gf_edgeMore, gf_stamp, gf_whose, gf_wage, gf_roundMany, gf_bestSet, gf_ran, gf_kind, gf_who, gf_tellsV, pf_thrown, pf_hasImage, pf_act, pf_spot, pf_size, pf_isWrong, pf_open, pf_edgeThing, pf_edgeMore, pf_stamp, pf_whose, pf_wage, pf_roundMany, pf_bestSet, pf_ran, pf_kind, pf_who, pf_tellsV, al_s, as_s, al_image, as_image, al_truths, as_truths0, as_truths1, al_knownRow, as_knownRow, al_daysRow, as_daysRow, al_bests, as_bests, al_nots, as_nots, al_lookeds, as_lookeds, al_bestsAt, as_bestsAt, al_worths, as_worths, al_keptKnown, as_keptKnown, al_keptDays, as_keptDays, al_round, as_round, al_sums, as_sums, al_bestRound, as_bestRound, al_bodies, as_bodies, cl_some, nm_b, nn_some, qn_some, qn_none, zk_0, zk_1, zk_n0, zk_n1, nI_add, pk_mul, pk_sub, nI_leE, nI_ltE, nI_eqE, nI_lt0, nI_ge0, nI_eq0, nI_gt0, nI_le0, ilt_t, ilt_f, ile_t, ile_f, ieq_t, ieq_f, if_tt, if_ff, Nat.add_sub_cancel]
  exact f_rows_out ht 3 0 _ fuelL (by omega) (FrM.msi (by decide)) mi_msi_s (fun k9 j h1 h2 h3 => by omega) (by unfold fuelL; omega)
set_option maxRecDepth 100000 in
set_option maxHeartbeats 4000000 in
theorem f_bestOf {t : Nat} : ∀ (n p : Nat) (st : MS) (m : Nat), n ≤ 8 → p + n ≤ 27 → ThOk (ma st 1) t → mi st 19 = nI t → MemoOk st t → n < m → ∃ st' : MS, F_X12_bestOf G m (encM G b st h0) nx b (nI p) (nI n) = some ((bP st t n p).1, encM G b st' h0, nx) ∧ FrM [14, 15, 16, 17] st st' ∧ MemoOk st' t ∧ (1 ≤ n → ma st' 17 (9 * p + n) = mi st 18) ∧ Stm st st' := by
  intro n
  induction n with
  | zero =>
    intro p st m h8 hp ht hw hm hl
    obtain ⟨m, rfl⟩ : ∃ q, m = q + 1 := ⟨m - 1, by omega⟩
    refine ⟨st, ?_, FrM.rf, hm, fun q => absurd q (by decide), Stm.rf⟩
    rw [F_X12_bestOf_s]
    unfold B_X12_bestOf
    simp (maxSteps := 3000000) (disch := omega) only [ma_msa_n, ma_msa_s, mi_msi_n, mi_msi_s, ml_msl_n, ml_msl_s, ma_msi, ma_msl, mi_msa, mi_msl, ml_msa, ml_msi, msa_msa, msi_msi, msl_msl, ck_m, gf_s, gf_image, gf_truths, gf_knownRow, gf_daysRow, gf_bests, gf_nots, gf_lookeds, gf_bestsAt, gf_worths, gf_keptKnown, gf_keptDays, gf_round, gf_sums, gf_bestRound, gf_bodies, gf_thrown, gf_hasImage, gf_act, gf_spot, gf_size, gf_isWrong, gf_open, gf_edgeThing, gf_edgeMore, gf_stamp, gf_whose, gf_wage, gf_roundMany, gf_bestSet, gf_ran, gf_kind, gf_who, gf_tellsV, pf_thrown, pf_hasImage, pf_act, pf_spot, pf_size, pf_isWrong, pf_open, pf_edgeThing, pf_edgeMore, pf_stamp, pf_whose, pf_wage, pf_roundMany, pf_bestSet, pf_ran, pf_kind, pf_who, pf_tellsV, al_s, as_s, al_image, as_image, al_truths, as_truths0, as_truths1, al_knownRow, as_knownRow, al_daysRow, as_daysRow, al_bests, as_bests, al_nots, as_nots, al_lookeds, as_lookeds, al_bestsAt, as_bestsAt, al_worths, as_worths, al_keptKnown, as_keptKnown, al_keptDays, as_keptDays, al_round, as_round, al_sums, as_sums, al_bestRound, as_bestRound, al_bodies, as_bodies, cl_some, nm_b, nn_some, qn_some, qn_none, zk_0, zk_1, zk_n0, zk_n1, nI_add, pk_mul, pk_sub, nI_leE, nI_ltE, nI_eqE, nI_lt0, nI_ge0, nI_eq0, nI_gt0, nI_le0, ilt_t, ilt_f, ile_t, ile_f, ieq_t, ieq_f, if_tt, if_ff, Nat.add_sub_cancel]
    rfl
  | succ n ih =>
    intro p st m h8 hp ht hw hm hl
    obtain ⟨m, rfl⟩ : ∃ q, m = q + 1 := ⟨m - 1, by omega⟩
    have t8 := ht.1
    rw [F_X12_bestOf_s]
    unfold B_X12_bestOf
    by_cases hc : ma st 17 (9 * p + (n + 1)) = mi st 18
    · refine ⟨st, ?_, FrM.rf, hm, fun _ => hc, Stm.rf⟩
      simp (maxSteps := 3000000) (disch := omega) only [ma_msa_n, ma_msa_s, mi_msi_n, mi_msi_s, ml_msl_n, ml_msl_s, ma_msi, ma_msl, mi_msa, mi_msl, ml_msa, ml_msi, msa_msa, msi_msi, msl_msl, ck_m, gf_s, gf_image, gf_truths, gf_knownRow, gf_daysRow, gf_bests, gf_nots, gf_lookeds, gf_bestsAt, gf_worths, gf_keptKnown, gf_keptDays, gf_round, gf_sums, gf_bestRound, gf_bodies, gf_thrown, gf_hasImage, gf_act, gf_spot, gf_size, gf_isWrong, gf_open, gf_edgeThing, gf_edgeMore, gf_stamp, gf_whose, gf_wage, gf_roundMany, gf_bestSet, gf_ran, gf_kind, gf_who, gf_tellsV, pf_thrown, pf_hasImage, pf_act, pf_spot, pf_size, pf_isWrong, pf_open, pf_edgeThing, pf_edgeMore, pf_stamp, pf_whose, pf_wage, pf_roundMany, pf_bestSet, pf_ran, pf_kind, pf_who, pf_tellsV, al_s, as_s, al_image, as_image, al_truths, as_truths0, as_truths1, al_knownRow, as_knownRow, al_daysRow, as_daysRow, al_bests, as_bests, al_nots, as_nots, al_lookeds, as_lookeds, al_bestsAt, as_bestsAt, al_worths, as_worths, al_keptKnown, as_keptKnown, al_keptDays, as_keptDays, al_round, as_round, al_sums, as_sums, al_bestRound, as_bestRound, al_bodies, as_bodies, cl_some, nm_b, nn_some, qn_some, qn_none, zk_0, zk_1, zk_n0, zk_n1, nI_add, pk_mul, pk_sub, nI_leE, nI_ltE, nI_eqE, nI_lt0, nI_ge0, nI_eq0, nI_gt0, nI_le0, ilt_t, ilt_f, ile_t, ile_f, ieq_t, ieq_f, if_tt, if_ff, Nat.add_sub_cancel]
      rw [if_pos hc]
      simp (maxSteps := 3000000) (disch := omega) only [F_X12_bestOf_195, ma_msa_n, ma_msa_s, mi_msi_n, mi_msi_s, ml_msl_n, ml_msl_s, ma_msi, ma_msl, mi_msa, mi_msl, ml_msa, ml_msi, msa_msa, msi_msi, msl_msl, ck_m, gf_s, gf_image, gf_truths, gf_knownRow, gf_daysRow, gf_bests, gf_nots, gf_lookeds, gf_bestsAt, gf_worths, gf_keptKnown, gf_keptDays, gf_round, gf_sums, gf_bestRound, gf_bodies, gf_thrown, gf_hasImage, gf_act, gf_spot, gf_size, gf_isWrong, gf_open, gf_edgeThing, gf_edgeMore, gf_stamp, gf_whose, gf_wage, gf_roundMany, gf_bestSet, gf_ran, gf_kind, gf_who, gf_tellsV, pf_thrown, pf_hasImage, pf_act, pf_spot, pf_size, pf_isWrong, pf_open, pf_edgeThing, pf_edgeMore, pf_stamp, pf_whose, pf_wage, pf_roundMany, pf_bestSet, pf_ran, pf_kind, pf_who, pf_tellsV, al_s, as_s, al_image, as_image, al_truths, as_truths0, as_truths1, al_knownRow, as_knownRow, al_daysRow, as_daysRow, al_bests, as_bests, al_nots, as_nots, al_lookeds, as_lookeds, al_bestsAt, as_bestsAt, al_worths, as_worths, al_keptKnown, as_keptKnown, al_keptDays, as_keptDays, al_round, as_round, al_sums, as_sums, al_bestRound, as_bestRound, al_bodies, as_bodies, cl_some, nm_b, nn_some, qn_some, qn_none, zk_0, zk_1, zk_n0, zk_n1, nI_add, pk_mul, pk_sub, nI_leE, nI_ltE, nI_eqE, nI_lt0, nI_ge0, nI_eq0, nI_gt0, nI_le0, ilt_t, ilt_f, ile_t, ile_f, ieq_t, ieq_f, if_tt, if_ff, Nat.add_sub_cancel]
      rw [(hm p (n + 1) (by omega) h8 hp hc).1]
    · obtain ⟨s1, e1, f1, m1, -, z1⟩ := ih (p + 1) st m (by omega) (by omega) ht hw hm (by omega)
      have a1 := f1.ofa 1 (by decide)
      obtain ⟨s2, e2, f2, m2, -, z2⟩ := ih 9 s1 m (by omega) (by omega) (by rw [a1]; exact ht) (by rw [f1.of1 19 (by decide)]; exact hw) m1 (by omega)
      have a2 := f2.ofa 1 (by decide)
      obtain ⟨s3, e3, f3, m3, -, z3⟩ := ih 18 s2 m (by omega) (by omega) (by rw [a2, a1]; exact ht) (by rw [f2.of1 19 (by decide), f1.of1 19 (by decide)]; exact hw) m2 (by omega)
      have a3 := f3.ofa 1 (by decide)
      have F3 := ((f1.trans f2).trans f3).mono (ks2 := [14, 15, 16, 17]) (by decide)
      rw [bP_fr f1 (by decide) (by decide) (by decide)] at e2
      rw [bP_fr (f1.trans f2) (by decide) (by decide) (by decide)] at e3
      have w1 : mi s1 20 = mi st 20 := f1.of1 20 (by decide)
      have w3 : mi s3 19 = nI t := (F3.of1 19 (by decide)).trans hw
      have s18 : mi s3 18 = mi st 18 := F3.of1 18 (by decide)
      have A3 : ma s3 1 = ma st 1 := F3.ofa 1 (by decide)
      have ht3 : ThOk (ma s3 1) t := by rw [A3]; exact ht
      simp (maxSteps := 3000000) (disch := omega) only [ma_msa_n, ma_msa_s, mi_msi_n, mi_msi_s, ml_msl_n, ml_msl_s, ma_msi, ma_msl, mi_msa, mi_msl, ml_msa, ml_msi, msa_msa, msi_msi, msl_msl, ck_m, gf_s, gf_image, gf_truths, gf_knownRow, gf_daysRow, gf_bests, gf_nots, gf_lookeds, gf_bestsAt, gf_worths, gf_keptKnown, gf_keptDays, gf_round, gf_sums, gf_bestRound, gf_bodies, gf_thrown, gf_hasImage, gf_act, gf_spot, gf_size, gf_isWrong, gf_open, gf_edgeThing, gf_edgeMore, gf_stamp, gf_whose, gf_wage, gf_roundMany, gf_bestSet, gf_ran, gf_kind, gf_who, gf_tellsV, pf_thrown, pf_hasImage, pf_act, pf_spot, pf_size, pf_isWrong, pf_open, pf_edgeThing, pf_edgeMore, pf_stamp, pf_whose, pf_wage, pf_roundMany, pf_bestSet, pf_ran, pf_kind, pf_who, pf_tellsV, al_s, as_s, al_image, as_image, al_truths, as_truths0, as_truths1, al_knownRow, as_knownRow, al_daysRow, as_daysRow, al_bests, as_bests, al_nots, as_nots, al_lookeds, as_lookeds, al_bestsAt, as_bestsAt, al_worths, as_worths, al_keptKnown, as_keptKnown, al_keptDays, as_keptDays, al_round, as_round, al_sums, as_sums, al_bestRound, as_bestRound, al_bodies, as_bodies, cl_some, nm_b, nn_some, qn_some, qn_none, zk_0, zk_1, zk_n0, zk_n1, nI_add, pk_mul, pk_sub, nI_leE, nI_ltE, nI_eqE, nI_lt0, nI_ge0, nI_eq0, nI_gt0, nI_le0, ilt_t, ilt_f, ile_t, ile_f, ieq_t, ieq_f, if_tt, if_ff, Nat.add_sub_cancel]
      rw [if_neg hc]
      simp (maxSteps := 3000000) (disch := omega) only [hw, f_brings ht, e1, e2, e3, w3, f_value ht3 (show 3 < 4 by decide), f_value ht3 (show 2 < 4 by decide), s18, A3, ma_msa_n, ma_msa_s, mi_msi_n, mi_msi_s, ml_msl_n, ml_msl_s, ma_msi, ma_msl, mi_msa, mi_msl, ml_msa, ml_msi, msa_msa, msi_msi, msl_msl, ck_m, gf_s, gf_image, gf_truths, gf_knownRow, gf_daysRow, gf_bests, gf_nots, gf_lookeds, gf_bestsAt, gf_worths, gf_keptKnown, gf_keptDays, gf_round, gf_sums, gf_bestRound, gf_bodies, gf_thrown, gf_hasImage, gf_act, gf_spot, gf_size, gf_isWrong, gf_open, gf_edgeThing, gf_edgeMore, gf_stamp, gf_whose, gf_wage, gf_roundMany, gf_bestSet, gf_ran, gf_kind, gf_who, gf_tellsV, pf_thrown, pf_hasImage, pf_act, pf_spot, pf_size, pf_isWrong, pf_open, pf_edgeThing, pf_edgeMore, pf_stamp, pf_whose, pf_wage, pf_roundMany, pf_bestSet, pf_ran, pf_kind, pf_who, pf_tellsV, al_s, as_s, al_image, as_image, al_truths, as_truths0, as_truths1, al_knownRow, as_knownRow, al_daysRow, as_daysRow, al_bests, as_bests, al_nots, as_nots, al_lookeds, as_lookeds, al_bestsAt, as_bestsAt, al_worths, as_worths, al_keptKnown, as_keptKnown, al_keptDays, as_keptDays, al_round, as_round, al_sums, as_sums, al_bestRound, as_bestRound, al_bodies, as_bodies, cl_some, nm_b, nn_some, qn_some, qn_none, zk_0, zk_1, zk_n0, zk_n1, nI_add, pk_mul, pk_sub, nI_leE, nI_ltE, nI_eqE, nI_lt0, nI_ge0, nI_eq0, nI_gt0, nI_le0, ilt_t, ilt_f, ile_t, ile_f, ieq_t, ieq_f, if_tt, if_ff, Nat.add_sub_cancel]
      generalize hday : brF (ma st 1) t (ma st 12 p) = day
      have hb : bP st t (n + 1) p = (let nt := 1000 * (mi st 20).toInt64 + day + (bP st t n (p + 1)).1
        let lk := day - 1000 * (valF (ma st 1) t 2).toInt64 + ((ma st 12 p).toInt64 * (bP st t n 9).1 + (nI 1000000 - ma st 12 p).toInt64 * ((bP st t n 18).1 - 1000 * (valF (ma st 1) t 3).toInt64)) / 1000000
        (if nt ≤ lk then lk else nt, nt, lk)) := by rw [← hday]; rfl
      simp only at hb
      generalize hnt : 1000 * (mi st 20).toInt64 + day + (bP st t n (p + 1)).1 = nt at hb ⊢
      generalize hlk : day - 1000 * (valF (ma st 1) t 2).toInt64 + ((ma st 12 p).toInt64 * (bP st t n 9).1 + (nI 1000000 - ma st 12 p).toInt64 * ((bP st t n 18).1 - 1000 * (valF (ma st 1) t 3).toInt64)) / 1000000 = lk at hb ⊢
      have fin : ∀ v : Int64, v = (if nt ≤ lk then lk else nt) → ∃ st' : MS, F_X12_bestOf_194 G (F_X12_bestOf G m) (encM G b (msl (msl (msa s3 17 (upK (ma s3 17) (9 * p + (n + 1)) (mi st 18))) 15 (upK (ml s3 15) (9 * p + (n + 1)) nt)) 16 (upK (ml s3 16) (9 * p + (n + 1)) lk)) h0) nx (some (b + 6)) (nI (9 * p + (n + 1))) v b (nI (9 * p + (n + 1))) = some ((bP st t (n + 1) p).1, encM G b st' h0, nx) ∧ FrM [14, 15, 16, 17] st st' ∧ MemoOk st' t ∧ (1 ≤ n + 1 → ma st' 17 (9 * p + (n + 1)) = mi st 18) ∧ Stm st st' := by
        intro v hv
        have hv1 : v = (bP st t (n + 1) p).1 := by rw [hb]; exact hv
        refine ⟨msl (msl (msl (msa s3 17 (upK (ma s3 17) (9 * p + (n + 1)) (mi st 18))) 15 (upK (ml s3 15) (9 * p + (n + 1)) nt)) 16 (upK (ml s3 16) (9 * p + (n + 1)) lk)) 14 (upK (ml s3 14) (9 * p + (n + 1)) v), ?_, ?_, ?_, ?_, ?_⟩
        · simp (maxSteps := 3000000) (disch := omega) only [F_X12_bestOf_194, F_X12_bestOf_195, ma_msa_n, ma_msa_s, mi_msi_n, mi_msi_s, ml_msl_n, ml_msl_s, ma_msi, ma_msl, mi_msa, mi_msl, ml_msa, ml_msi, msa_msa, msi_msi, msl_msl, ck_m, gf_s, gf_image, gf_truths, gf_knownRow, gf_daysRow, gf_bests, gf_nots, gf_lookeds, gf_bestsAt, gf_worths, gf_keptKnown, gf_keptDays, gf_round, gf_sums, gf_bestRound, gf_bodies, gf_thrown, gf_hasImage, gf_act, gf_spot, gf_size, gf_isWrong, gf_open, gf_edgeThing, gf_edgeMore, gf_stamp, gf_whose, gf_wage, gf_roundMany, gf_bestSet, gf_ran, gf_kind, gf_who, gf_tellsV, pf_thrown, pf_hasImage, pf_act, pf_spot, pf_size, pf_isWrong, pf_open, pf_edgeThing, pf_edgeMore, pf_stamp, pf_whose, pf_wage, pf_roundMany, pf_bestSet, pf_ran, pf_kind, pf_who, pf_tellsV, al_s, as_s, al_image, as_image, al_truths, as_truths0, as_truths1, al_knownRow, as_knownRow, al_daysRow, as_daysRow, al_bests, as_bests, al_nots, as_nots, al_lookeds, as_lookeds, al_bestsAt, as_bestsAt, al_worths, as_worths, al_keptKnown, as_keptKnown, al_keptDays, as_keptDays, al_round, as_round, al_sums, as_sums, al_bestRound, as_bestRound, al_bodies, as_bodies, cl_some, nm_b, nn_some, qn_some, qn_none, zk_0, zk_1, zk_n0, zk_n1, nI_add, pk_mul, pk_sub, nI_leE, nI_ltE, nI_eqE, nI_lt0, nI_ge0, nI_eq0, nI_gt0, nI_le0, ilt_t, ilt_f, ile_t, ile_f, ieq_t, ieq_f, if_tt, if_ff, Nat.add_sub_cancel]
          rw [upK_s, ← hv1]
        · exact (F3.trans ((FrM.msa (k := 17) (ks := [14, 15, 16, 17]) (by decide)).trans ((FrM.msl (k := 15) (ks := [14, 15, 16, 17]) (by decide)).trans ((FrM.msl (k := 16) (ks := [14, 15, 16, 17]) (by decide)).trans (FrM.msl (k := 14) (ks := [14, 15, 16, 17]) (by decide)))))).mono (by decide)
        · have eb := bP_fr F3 (by decide) (by decide) (by decide) (t := t) (n + 1) p
          refine memo_put (st := s3) (n := n + 1) (p := p) m3 (by omega) h8 ((FrM.msa (k := 17) (ks := [14, 15, 16, 17]) (by decide)).trans ((FrM.msl (k := 15) (ks := [14, 15, 16, 17]) (by decide)).trans ((FrM.msl (k := 16) (ks := [14, 15, 16, 17]) (by decide)).trans (FrM.msl (k := 14) (ks := [14, 15, 16, 17]) (by decide)))) |>.mono (by decide)) ?_ ?_ ?_ ?_
          · rw [s18]; simp only [ma_msl, ma_msa_s]
          · rw [eb, ← hv1]; exact ml_msl_s
          · rw [eb, hb]; exact (ml_msl_n (by decide)).trans ((ml_msl_n (by decide)).trans ml_msl_s)
          · rw [eb, hb]; exact (ml_msl_n (by decide)).trans ml_msl_s
        · intro _
          exact (congrFun (ma_msa_s (st := s3) (k := 17)) _).trans upK_s
        · have zz : Stm st s3 := (z1.trans z2 (f1.of1 18 (by decide))).trans z3 ((f2.of1 18 (by decide)).trans (f1.of1 18 (by decide)))
          intro i
          by_cases e : i = 9 * p + (n + 1)
          · subst e
            exact Or.inr ((congrFun (ma_msa_s (st := s3) (k := 17)) _).trans upK_s)
          · have q : ma (msl (msl (msl (msa s3 17 (upK (ma s3 17) (9 * p + (n + 1)) (mi st 18))) 15 (upK (ml s3 15) (9 * p + (n + 1)) nt)) 16 (upK (ml s3 16) (9 * p + (n + 1)) lk)) 14 (upK (ml s3 14) (9 * p + (n + 1)) v)) 17 i = ma s3 17 i := (congrFun (ma_msa_s (st := s3) (k := 17)) _).trans (upK_n e)
            rw [q]
            exact zz i
      by_cases c : lg_cmp nt lk ≤ 0
      · rw [if_pos c]
        exact fin lk (by rw [if_pos ((lg_cmp_le _ _).mp c)])
      · rw [if_neg c]
        exact fin nt (by rw [if_neg (fun q => c ((lg_cmp_le _ _).mpr q))])
end M2
