/-! THE REFERENCE: numbers, worths, whom -/
section M3
variable {G : Gx} {b : Nat} {st : MS} {h0 : Hp} {nx : Nat}
theorem f_bestBy {t n N : Nat} {w : Int32} (hn : n ≤ 8) (ht : ThOk (ma st 1) t) (hw : mi st 19 = nI t) (hN : StOk st N) (hb : N + 1 < 2 ^ 31) : ∃ st' : MS, F_X12_bestBy G (encM G b st h0) nx b w (nI n) = some ((bP (msi st 20 w) t n 0).1, encM G b st' h0, nx) ∧ FrM KB st st' ∧ StOk st' (N + 1) ∧ (1 ≤ n → ml st' 15 n = (bP (msi st 20 w) t n 0).2.1 ∧ ml st' 16 n = (bP (msi st 20 w) t n 0).2.2) := by
  have hm : MemoOk (msi (msi st 20 w) 18 (nI (N + 1))) t := by
    intro p q h1 h8 hp hs
    obtain ⟨k, hk, e⟩ := hN.2 (9 * p + q)
    have hs' : ma st 17 (9 * p + q) = nI (N + 1) := hs.trans mi_msi_s
    rw [e, nI_eq (by omega) hb] at hs'
    omega
  obtain ⟨st1, e1, hF, hm1, hs1, hS⟩ := f_bestOf (G := G) (b := b) (h0 := h0) (nx := nx) (t := t) n 0 (msi (msi st 20 w) 18 (nI (N + 1))) 64 hn (by omega) ht ((mi_msi_n (by decide)).trans ((mi_msi_n (by decide)).trans hw)) hm (by omega)
  have b1 : bP st1 t n 0 = bP (msi st 20 w) t n 0 := (bP_fr hF (by decide) (by decide) (by decide) n 0).trans (bP_fr (FrM.msi (ks := [18]) (by decide)) (by decide) (by decide) (by decide) n 0)
  have b2 : bP (msi (msi st 20 w) 18 (nI (N + 1))) t n 0 = bP (msi st 20 w) t n 0 := bP_fr (FrM.msi (ks := [18]) (by decide)) (by decide) (by decide) (by decide) n 0
  have e18 : mi st1 18 = nI (N + 1) := (hF.of1 18 (by decide)).trans mi_msi_s
  refine ⟨st1, ?_, ((FrM.msi (ks := KB) (by decide)).trans ((FrM.msi (ks := KB) (by decide)).trans hF)).mono (by decide), ⟨e18, fun i => ?_⟩, fun h1 => ?_⟩
  · unfold F_X12_bestBy
    have h18 := hN.1
    simp (maxSteps := 3000000) (disch := omega) only [h18, e1, b2, ma_msa_n, ma_msa_s, mi_msi_n, mi_msi_s, ml_msl_n, ml_msl_s, ma_msi, ma_msl, mi_msa, mi_msl, ml_msa, ml_msi, msa_msa, msi_msi, msl_msl, ck_m, gf_s, gf_image, gf_truths, gf_knownRow, gf_daysRow, gf_bests, gf_nots, gf_lookeds, gf_bestsAt, gf_worths, gf_keptKnown, gf_keptDays, gf_round, gf_sums, gf_bestRound, gf_bodies, gf_thrown, gf_hasImage, gf_act, gf_spot, gf_size, gf_isWrong, gf_open, gf_edgeThing, gf_edgeMore, gf_stamp, gf_whose, gf_wage, gf_roundMany, gf_bestSet, gf_ran, gf_kind, gf_who, gf_tellsV, pf_thrown, pf_hasImage, pf_act, pf_spot, pf_size, pf_isWrong, pf_open, pf_edgeThing, pf_edgeMore, pf_stamp, pf_whose, pf_wage, pf_roundMany, pf_bestSet, pf_ran, pf_kind, pf_who, pf_tellsV, al_s, as_s, al_image, as_image, al_truths, as_truths0, as_truths1, al_knownRow, as_knownRow, al_daysRow, as_daysRow, al_bests, as_bests, al_nots, as_nots, al_lookeds, as_lookeds, al_bestsAt, as_bestsAt, al_worths, as_worths, al_keptKnown, as_keptKnown, al_keptDays, as_keptDays, al_round, as_round, al_sums, as_sums, al_bestRound, as_bestRound, al_bodies, as_bodies, cl_some, nm_b, nn_some, qn_some, qn_none, zk_0, zk_1, zk_n0, zk_n1, nI_add, pk_mul, pk_sub, nI_leE, nI_ltE, nI_eqE, nI_lt0, nI_ge0, nI_eq0, nI_gt0, nI_le0, ilt_t, ilt_f, ile_t, ile_f, ieq_t, ieq_f, if_tt, if_ff, Nat.add_sub_cancel]
  · rcases hS i with q | q
    · obtain ⟨k, hk, e⟩ := hN.2 i
      exact ⟨k, by omega, q.trans e⟩
    · exact ⟨N + 1, Nat.le_refl _, q.trans mi_msi_s⟩
  · have hh := hm1 0 n h1 hn (by omega) (by rw [hs1 h1, e18]; exact mi_msi_s)
    rw [b1, show 9 * 0 + n = n by omega] at hh
    exact hh.2
theorem f_isNoWorse {t n N : Nat} {w : Int32} (hn1 : 1 ≤ n) (hn : n ≤ 8) (ht : ThOk (ma st 1) t) (hw : mi st 19 = nI t) (hN : StOk st N) (hb : N + 1 < 2 ^ 31) : ∃ st' : MS, F_X12_isNoWorse G (encM G b st h0) nx b w (nI n) = some (b2i (nwF st t n w), encM G b st' h0, nx) ∧ FrM KB st st' ∧ StOk st' (N + 1) := by
  obtain ⟨st1, e1, hF, hN1, hv⟩ := f_bestBy (G := G) (b := b) (h0 := h0) (nx := nx) (w := w) hn ht hw hN hb
  obtain ⟨v1, v2⟩ := hv hn1
  refine ⟨st1, ?_, hF, hN1⟩
  unfold F_X12_isNoWorse F_X12_isNoWorse_28
  simp (maxSteps := 3000000) (disch := omega) only [e1, v1, v2, ma_msa_n, ma_msa_s, mi_msi_n, mi_msi_s, ml_msl_n, ml_msl_s, ma_msi, ma_msl, mi_msa, mi_msl, ml_msa, ml_msi, msa_msa, msi_msi, msl_msl, ck_m, gf_s, gf_image, gf_truths, gf_knownRow, gf_daysRow, gf_bests, gf_nots, gf_lookeds, gf_bestsAt, gf_worths, gf_keptKnown, gf_keptDays, gf_round, gf_sums, gf_bestRound, gf_bodies, gf_thrown, gf_hasImage, gf_act, gf_spot, gf_size, gf_isWrong, gf_open, gf_edgeThing, gf_edgeMore, gf_stamp, gf_whose, gf_wage, gf_roundMany, gf_bestSet, gf_ran, gf_kind, gf_who, gf_tellsV, pf_thrown, pf_hasImage, pf_act, pf_spot, pf_size, pf_isWrong, pf_open, pf_edgeThing, pf_edgeMore, pf_stamp, pf_whose, pf_wage, pf_roundMany, pf_bestSet, pf_ran, pf_kind, pf_who, pf_tellsV, al_s, as_s, al_image, as_image, al_truths, as_truths0, as_truths1, al_knownRow, as_knownRow, al_daysRow, as_daysRow, al_bests, as_bests, al_nots, as_nots, al_lookeds, as_lookeds, al_bestsAt, as_bestsAt, al_worths, as_worths, al_keptKnown, as_keptKnown, al_keptDays, as_keptDays, al_round, as_round, al_sums, as_sums, al_bestRound, as_bestRound, al_bodies, as_bodies, cl_some, nm_b, nn_some, qn_some, qn_none, zk_0, zk_1, zk_n0, zk_n1, nI_add, pk_mul, pk_sub, nI_leE, nI_ltE, nI_eqE, nI_lt0, nI_ge0, nI_eq0, nI_gt0, nI_le0, ilt_t, ilt_f, ile_t, ile_f, ieq_t, ieq_f, if_tt, if_ff, Nat.add_sub_cancel]
  unfold nwF
  by_cases c : lg_cmp (bP (msi st 20 w) t n 0).2.1 (bP (msi st 20 w) t n 0).2.2 < 0
  · rw [if_pos c, decide_eq_false (Int64.not_le.mpr ((lg_cmp_lt _ _).mp c))]
    rfl
  · rw [if_neg c, decide_eq_true (Int64.not_lt.mp (fun q => c ((lg_cmp_lt _ _).mpr q)))]
    rfl
theorem f_number_loop {t n N : Nat} (hn1 : 1 ≤ n) (hn : n ≤ 8) (ht : ThOk (ma st 1) t) (hb : N + 201 < 2 ^ 31) : ∀ (r w : Nat) (st1 : MS) (m : Nat), w + r = 201 → FrM KW st st1 → mi st1 19 = nI t → (∀ i, i < 27 → ma st1 12 i = (rowK st t (i / 9) (i % 9)).1) → StOk st1 (N + w) → nmF st t n = srch (fun w => nwF (rwS st t) t n (nI w)) w r → r < m → ∃ (st' : MS) (N' : Nat), F_X12_numberOf_7 G m (encM G b st1 h0) nx b (nI n) (nI w) = some (nmF st t n, encM G b st' h0, nx) ∧ FrM KW st st' ∧ StOk st' N' ∧ N' ≤ N + 201 ∧ mi st' 19 = nI t ∧ (∀ i, i < 27 → ma st' 12 i = (rowK st t (i / 9) (i % 9)).1) := by
  intro r
  induction r with
  | zero =>
    intro w st1 m hr hF hw h12 hN hv hm
    obtain ⟨m, rfl⟩ : ∃ q, m = q + 1 := ⟨m - 1, by omega⟩
    have hw2 : w = 201 := by omega
    subst hw2
    refine ⟨st1, _, ?_, hF, hN, by omega, hw, h12⟩
    rw [F_X12_numberOf_7_s]
    simp (maxSteps := 3000000) (disch := omega) only [ma_msa_n, ma_msa_s, mi_msi_n, mi_msi_s, ml_msl_n, ml_msl_s, ma_msi, ma_msl, mi_msa, mi_msl, ml_msa, ml_msi, msa_msa, msi_msi, msl_msl, ck_m, gf_s, gf_image, gf_truths, gf_knownRow, gf_daysRow, gf_bests, gf_nots, gf_lookeds, gf_bestsAt, gf_worths, gf_keptKnown, gf_keptDays, gf_round, gf_sums, gf_bestRound, gf_bodies, gf_thrown, gf_hasImage, gf_act, gf_spot, gf_size, gf_isWrong, gf_open, gf_edgeThing, gf_edgeMore, gf_stamp, gf_whose, gf_wage, gf_roundMany, gf_bestSet, gf_ran, gf_kind, gf_who, gf_tellsV, pf_thrown, pf_hasImage, pf_act, pf_spot, pf_size, pf_isWrong, pf_open, pf_edgeThing, pf_edgeMore, pf_stamp, pf_whose, pf_wage, pf_roundMany, pf_bestSet, pf_ran, pf_kind, pf_who, pf_tellsV, al_s, as_s, al_image, as_image, al_truths, as_truths0, as_truths1, al_knownRow, as_knownRow, al_daysRow, as_daysRow, al_bests, as_bests, al_nots, as_nots, al_lookeds, as_lookeds, al_bestsAt, as_bestsAt, al_worths, as_worths, al_keptKnown, as_keptKnown, al_keptDays, as_keptDays, al_round, as_round, al_sums, as_sums, al_bestRound, as_bestRound, al_bodies, as_bodies, cl_some, nm_b, nn_some, qn_some, qn_none, zk_0, zk_1, zk_n0, zk_n1, nI_add, pk_mul, pk_sub, nI_leE, nI_ltE, nI_eqE, nI_lt0, nI_ge0, nI_eq0, nI_gt0, nI_le0, ilt_t, ilt_f, ile_t, ile_f, ieq_t, ieq_f, if_tt, if_ff, Nat.add_sub_cancel]
    rw [hv]
    rfl
  | succ r ih =>
    intro w st1 m hr hF hw h12 hN hv hm
    obtain ⟨m, rfl⟩ : ∃ q, m = q + 1 := ⟨m - 1, by omega⟩
    have hw2 : w < 201 := by omega
    have e1 : ma st1 1 = ma st 1 := hF.ofa 1 (by decide)
    have hq := nwF_cg (n := n) (t := t) hn e1 h12 (nI w)
    obtain ⟨st2, e2, hF2, hN2⟩ := f_isNoWorse (G := G) (b := b) (h0 := h0) (nx := nx) (st := st1) (w := nI w) (N := N + w) hn1 hn (by rw [e1]; exact ht) hw hN (by omega)
    rw [hq] at e2
    rw [F_X12_numberOf_7_s]
    simp (maxSteps := 3000000) (disch := omega) only [e2, ma_msa_n, ma_msa_s, mi_msi_n, mi_msi_s, ml_msl_n, ml_msl_s, ma_msi, ma_msl, mi_msa, mi_msl, ml_msa, ml_msi, msa_msa, msi_msi, msl_msl, ck_m, gf_s, gf_image, gf_truths, gf_knownRow, gf_daysRow, gf_bests, gf_nots, gf_lookeds, gf_bestsAt, gf_worths, gf_keptKnown, gf_keptDays, gf_round, gf_sums, gf_bestRound, gf_bodies, gf_thrown, gf_hasImage, gf_act, gf_spot, gf_size, gf_isWrong, gf_open, gf_edgeThing, gf_edgeMore, gf_stamp, gf_whose, gf_wage, gf_roundMany, gf_bestSet, gf_ran, gf_kind, gf_who, gf_tellsV, pf_thrown, pf_hasImage, pf_act, pf_spot, pf_size, pf_isWrong, pf_open, pf_edgeThing, pf_edgeMore, pf_stamp, pf_whose, pf_wage, pf_roundMany, pf_bestSet, pf_ran, pf_kind, pf_who, pf_tellsV, al_s, as_s, al_image, as_image, al_truths, as_truths0, as_truths1, al_knownRow, as_knownRow, al_daysRow, as_daysRow, al_bests, as_bests, al_nots, as_nots, al_lookeds, as_lookeds, al_bestsAt, as_bestsAt, al_worths, as_worths, al_keptKnown, as_keptKnown, al_keptDays, as_keptDays, al_round, as_round, al_sums, as_sums, al_bestRound, as_bestRound, al_bodies, as_bodies, cl_some, nm_b, nn_some, qn_some, qn_none, zk_0, zk_1, zk_n0, zk_n1, nI_add, pk_mul, pk_sub, nI_leE, nI_ltE, nI_eqE, nI_lt0, nI_ge0, nI_eq0, nI_gt0, nI_le0, ilt_t, ilt_f, ile_t, ile_f, ieq_t, ieq_f, if_tt, if_ff, Nat.add_sub_cancel]
    cases hc : nwF (rwS st t) t n (nI w) with
    | true =>
      rw [if_neg (show ¬ b2i true = 0 by decide)]
      refine ⟨st2, _, ?_, (hF.trans hF2).mono (by decide), hN2, by omega, (hF2.of1 19 (by decide)).trans hw, fun i hi => by rw [hF2.ofa 12 (by decide)]; exact h12 i hi⟩
      rw [hv]
      unfold srch
      rw [if_pos hc]
    | false =>
      rw [if_pos (show b2i false = 0 from rfl)]
      exact ih (w + 1) st2 m (by omega) ((hF.trans hF2).mono (by decide)) ((hF2.of1 19 (by decide)).trans hw) (fun i hi => by rw [hF2.ofa 12 (by decide)]; exact h12 i hi) hN2 (hv.trans (show srch _ w (r + 1) = _ from if_neg (by show ¬ (nwF (rwS st t) t n (nI w)) = true; rw [hc]; decide))) (by omega)
theorem f_numberW {t n N : Nat} (hn1 : 1 ≤ n) (hn : n ≤ 8) (ht : ThOk (ma st 1) t) (hN : StOk st N) (hb : N + 201 < 2 ^ 31) : ∃ (st' : MS) (N' : Nat), F_X12_numberOf G (encM G b st h0) nx b (nI t) (nI n) = some (nmF st t n, encM G b st' h0, nx) ∧ FrM KW st st' ∧ StOk st' N' ∧ N' ≤ N + 201 ∧ mi st' 19 = nI t ∧ (∀ i, i < 27 → ma st' 12 i = (rowK st t (i / 9) (i % 9)).1) := by
  obtain ⟨st1, e1, hF, hw, hr⟩ := f_rowsOf (G := G) (b := b) (h0 := h0) (nx := nx) ht
  unfold F_X12_numberOf
  simp (maxSteps := 3000000) (disch := omega) only [e1, ma_msa_n, ma_msa_s, mi_msi_n, mi_msi_s, ml_msl_n, ml_msl_s, ma_msi, ma_msl, mi_msa, mi_msl, ml_msa, ml_msi, msa_msa, msi_msi, msl_msl, ck_m, gf_s, gf_image, gf_truths, gf_knownRow, gf_daysRow, gf_bests, gf_nots, gf_lookeds, gf_bestsAt, gf_worths, gf_keptKnown, gf_keptDays, gf_round, gf_sums, gf_bestRound, gf_bodies, gf_thrown, gf_hasImage, gf_act, gf_spot, gf_size, gf_isWrong, gf_open, gf_edgeThing, gf_edgeMore, gf_stamp, gf_whose, gf_wage, gf_roundMany, gf_bestSet, gf_ran, gf_kind, gf_who, gf_tellsV, pf_thrown, pf_hasImage, pf_act, pf_spot, pf_size, pf_isWrong, pf_open, pf_edgeThing, pf_edgeMore, pf_stamp, pf_whose, pf_wage, pf_roundMany, pf_bestSet, pf_ran, pf_kind, pf_who, pf_tellsV, al_s, as_s, al_image, as_image, al_truths, as_truths0, as_truths1, al_knownRow, as_knownRow, al_daysRow, as_daysRow, al_bests, as_bests, al_nots, as_nots, al_lookeds, as_lookeds, al_bestsAt, as_bestsAt, al_worths, as_worths, al_keptKnown, as_keptKnown, al_keptDays, as_keptDays, al_round, as_round, al_sums, as_sums, al_bestRound, as_bestRound, al_bodies, as_bodies, cl_some, nm_b, nn_some, qn_some, qn_none, zk_0, zk_1, zk_n0, zk_n1, nI_add, pk_mul, pk_sub, nI_leE, nI_ltE, nI_eqE, nI_lt0, nI_ge0, nI_eq0, nI_gt0, nI_le0, ilt_t, ilt_f, ile_t, ile_f, ieq_t, ieq_f, if_tt, if_ff, Nat.add_sub_cancel]
  exact f_number_loop hn1 hn ht hb 201 0 st1 fuelL (by omega) (hF.mono (by decide)) hw (fun i hi => by
    have := (hr (i / 9) (i % 9) (by omega) (by omega)).1
    rwa [show 9 * (i / 9) + i % 9 = i by omega] at this) ⟨(hF.of1 18 (by decide)).trans hN.1, fun i => by rw [hF.ofa 17 (by decide)]; exact hN.2 i⟩ rfl (by unfold fuelL; omega)
theorem f_numberOf {t n N : Nat} (hn1 : 1 ≤ n) (hn : n ≤ 8) (ht : ThOk (ma st 1) t) (hN : StOk st N) (hb : N + 201 < 2 ^ 31) : ∃ (st' : MS) (N' : Nat), F_X12_numberOf G (encM G b st h0) nx b (nI t) (nI n) = some (nmF st t n, encM G b st' h0, nx) ∧ FrM KW st st' ∧ StOk st' N' ∧ N' ≤ N + 201 := by
  obtain ⟨st', N', q1, q2, q3, q4, _⟩ := f_numberW (G := G) (b := b) (h0 := h0) (nx := nx) hn1 hn ht hN hb
  exact ⟨st', N', q1, q2, q3, q4⟩
theorem f_weight {t n N : Nat} (hn1 : 1 ≤ n) (hn : n ≤ 8) (ht : ThOk (ma st 1) t) (hN : StOk st N) (hb : N + 201 < 2 ^ 31) : ∃ (st' : MS) (N' : Nat), F_X12_weight G (encM G b st h0) nx b (nI t) (nI n) = some (wgF (nmF st t n), encM G b st' h0, nx) ∧ FrM KW st st' ∧ StOk st' N' ∧ N' ≤ N + 201 := by
  obtain ⟨st1, N1, e1, hF, hN1, hl⟩ := f_numberOf (G := G) (b := b) (h0 := h0) (nx := nx) hn1 hn ht hN hb
  refine ⟨st1, N1, ?_, hF, hN1, hl⟩
  unfold F_X12_weight F_X12_weight_20
  simp (maxSteps := 3000000) (disch := omega) only [e1, ma_msa_n, ma_msa_s, mi_msi_n, mi_msi_s, ml_msl_n, ml_msl_s, ma_msi, ma_msl, mi_msa, mi_msl, ml_msa, ml_msi, msa_msa, msi_msi, msl_msl, ck_m, gf_s, gf_image, gf_truths, gf_knownRow, gf_daysRow, gf_bests, gf_nots, gf_lookeds, gf_bestsAt, gf_worths, gf_keptKnown, gf_keptDays, gf_round, gf_sums, gf_bestRound, gf_bodies, gf_thrown, gf_hasImage, gf_act, gf_spot, gf_size, gf_isWrong, gf_open, gf_edgeThing, gf_edgeMore, gf_stamp, gf_whose, gf_wage, gf_roundMany, gf_bestSet, gf_ran, gf_kind, gf_who, gf_tellsV, pf_thrown, pf_hasImage, pf_act, pf_spot, pf_size, pf_isWrong, pf_open, pf_edgeThing, pf_edgeMore, pf_stamp, pf_whose, pf_wage, pf_roundMany, pf_bestSet, pf_ran, pf_kind, pf_who, pf_tellsV, al_s, as_s, al_image, as_image, al_truths, as_truths0, as_truths1, al_knownRow, as_knownRow, al_daysRow, as_daysRow, al_bests, as_bests, al_nots, as_nots, al_lookeds, as_lookeds, al_bestsAt, as_bestsAt, al_worths, as_worths, al_keptKnown, as_keptKnown, al_keptDays, as_keptDays, al_round, as_round, al_sums, as_sums, al_bestRound, as_bestRound, al_bodies, as_bodies, cl_some, nm_b, nn_some, qn_some, qn_none, zk_0, zk_1, zk_n0, zk_n1, nI_add, pk_mul, pk_sub, nI_leE, nI_ltE, nI_eqE, nI_lt0, nI_ge0, nI_eq0, nI_gt0, nI_le0, ilt_t, ilt_f, ile_t, ile_f, ieq_t, ieq_f, if_tt, if_ff, Nat.add_sub_cancel]
  unfold wgF
  by_cases c : nmF st t n = -5
  · rw [if_pos c, if_pos c]
  · rw [if_neg c, if_neg c]
theorem f_looking : F_X12_looking G (encM G b st h0) nx b = some (lkF (ma st 1), encM G b st h0, nx) := by
  unfold F_X12_looking F_X12_looking_30 lkF
  simp (maxSteps := 3000000) (disch := omega) only [ma_msa_n, ma_msa_s, mi_msi_n, mi_msi_s, ml_msl_n, ml_msl_s, ma_msi, ma_msl, mi_msa, mi_msl, ml_msa, ml_msi, msa_msa, msi_msi, msl_msl, ck_m, gf_s, gf_image, gf_truths, gf_knownRow, gf_daysRow, gf_bests, gf_nots, gf_lookeds, gf_bestsAt, gf_worths, gf_keptKnown, gf_keptDays, gf_round, gf_sums, gf_bestRound, gf_bodies, gf_thrown, gf_hasImage, gf_act, gf_spot, gf_size, gf_isWrong, gf_open, gf_edgeThing, gf_edgeMore, gf_stamp, gf_whose, gf_wage, gf_roundMany, gf_bestSet, gf_ran, gf_kind, gf_who, gf_tellsV, pf_thrown, pf_hasImage, pf_act, pf_spot, pf_size, pf_isWrong, pf_open, pf_edgeThing, pf_edgeMore, pf_stamp, pf_whose, pf_wage, pf_roundMany, pf_bestSet, pf_ran, pf_kind, pf_who, pf_tellsV, al_s, as_s, al_image, as_image, al_truths, as_truths0, as_truths1, al_knownRow, as_knownRow, al_daysRow, as_daysRow, al_bests, as_bests, al_nots, as_nots, al_lookeds, as_lookeds, al_bestsAt, as_bestsAt, al_worths, as_worths, al_keptKnown, as_keptKnown, al_keptDays, as_keptDays, al_round, as_round, al_sums, as_sums, al_bestRound, as_bestRound, al_bodies, as_bodies, cl_some, nm_b, nn_some, qn_some, qn_none, zk_0, zk_1, zk_n0, zk_n1, nI_add, pk_mul, pk_sub, nI_leE, nI_ltE, nI_eqE, nI_lt0, nI_ge0, nI_eq0, nI_gt0, nI_le0, ilt_t, ilt_f, ile_t, ile_f, ieq_t, ieq_f, if_tt, if_ff, Nat.add_sub_cancel]
  by_cases c : ma st 1 1 ≤ ma st 1 4
  · rw [if_pos c, if_neg (Int32.not_lt.mpr c)]
  · rw [if_neg c, if_pos (Int32.not_le.mp c)]
theorem f_count_loop {x : Int32} {h : Hp} : ∀ (r k m : Nat), k + r = 8 → r < m → F_X12_count1_4 G m h nx x (cnF x k) (nI k) = some (cnF x 8, h, nx) := by
  intro r
  induction r with
  | zero =>
    intro k m hk hm
    obtain ⟨m, rfl⟩ : ∃ q, m = q + 1 := ⟨m - 1, by omega⟩
    have hk : k = 8 := by omega
    subst hk
    rw [F_X12_count1_4_s]
    simp (maxSteps := 3000000) (disch := omega) only [ma_msa_n, ma_msa_s, mi_msi_n, mi_msi_s, ml_msl_n, ml_msl_s, ma_msi, ma_msl, mi_msa, mi_msl, ml_msa, ml_msi, msa_msa, msi_msi, msl_msl, ck_m, gf_s, gf_image, gf_truths, gf_knownRow, gf_daysRow, gf_bests, gf_nots, gf_lookeds, gf_bestsAt, gf_worths, gf_keptKnown, gf_keptDays, gf_round, gf_sums, gf_bestRound, gf_bodies, gf_thrown, gf_hasImage, gf_act, gf_spot, gf_size, gf_isWrong, gf_open, gf_edgeThing, gf_edgeMore, gf_stamp, gf_whose, gf_wage, gf_roundMany, gf_bestSet, gf_ran, gf_kind, gf_who, gf_tellsV, pf_thrown, pf_hasImage, pf_act, pf_spot, pf_size, pf_isWrong, pf_open, pf_edgeThing, pf_edgeMore, pf_stamp, pf_whose, pf_wage, pf_roundMany, pf_bestSet, pf_ran, pf_kind, pf_who, pf_tellsV, al_s, as_s, al_image, as_image, al_truths, as_truths0, as_truths1, al_knownRow, as_knownRow, al_daysRow, as_daysRow, al_bests, as_bests, al_nots, as_nots, al_lookeds, as_lookeds, al_bestsAt, as_bestsAt, al_worths, as_worths, al_keptKnown, as_keptKnown, al_keptDays, as_keptDays, al_round, as_round, al_sums, as_sums, al_bestRound, as_bestRound, al_bodies, as_bodies, cl_some, nm_b, nn_some, qn_some, qn_none, zk_0, zk_1, zk_n0, zk_n1, nI_add, pk_mul, pk_sub, nI_leE, nI_ltE, nI_eqE, nI_lt0, nI_ge0, nI_eq0, nI_gt0, nI_le0, ilt_t, ilt_f, ile_t, ile_f, ieq_t, ieq_f, if_tt, if_ff, Nat.add_sub_cancel]
  | succ r ih =>
    intro k m hk hm
    obtain ⟨m, rfl⟩ : ∃ q, m = q + 1 := ⟨m - 1, by omega⟩
    rw [F_X12_count1_4_s]
    simp (maxSteps := 3000000) (disch := omega) only [ma_msa_n, ma_msa_s, mi_msi_n, mi_msi_s, ml_msl_n, ml_msl_s, ma_msi, ma_msl, mi_msa, mi_msl, ml_msa, ml_msi, msa_msa, msi_msi, msl_msl, ck_m, gf_s, gf_image, gf_truths, gf_knownRow, gf_daysRow, gf_bests, gf_nots, gf_lookeds, gf_bestsAt, gf_worths, gf_keptKnown, gf_keptDays, gf_round, gf_sums, gf_bestRound, gf_bodies, gf_thrown, gf_hasImage, gf_act, gf_spot, gf_size, gf_isWrong, gf_open, gf_edgeThing, gf_edgeMore, gf_stamp, gf_whose, gf_wage, gf_roundMany, gf_bestSet, gf_ran, gf_kind, gf_who, gf_tellsV, pf_thrown, pf_hasImage, pf_act, pf_spot, pf_size, pf_isWrong, pf_open, pf_edgeThing, pf_edgeMore, pf_stamp, pf_whose, pf_wage, pf_roundMany, pf_bestSet, pf_ran, pf_kind, pf_who, pf_tellsV, al_s, as_s, al_image, as_image, al_truths, as_truths0, as_truths1, al_knownRow, as_knownRow, al_daysRow, as_daysRow, al_bests, as_bests, al_nots, as_nots, al_lookeds, as_lookeds, al_bestsAt, as_bestsAt, al_worths, as_worths, al_keptKnown, as_keptKnown, al_keptDays, as_keptDays, al_round, as_round, al_sums, as_sums, al_bestRound, as_bestRound, al_bodies, as_bodies, cl_some, nm_b, nn_some, qn_some, qn_none, zk_0, zk_1, zk_n0, zk_n1, nI_add, pk_mul, pk_sub, nI_leE, nI_ltE, nI_eqE, nI_lt0, nI_ge0, nI_eq0, nI_gt0, nI_le0, ilt_t, ilt_f, ile_t, ile_f, ieq_t, ieq_f, if_tt, if_ff, Nat.add_sub_cancel]
    exact ih (k + 1) m (by omega) (by omega)
theorem f_count1 {x : Int32} {h : Hp} : F_X12_count1 G h nx x = some (cnF x 8, h, nx) := f_count_loop 8 0 fuelL (by omega) (by unfold fuelL; omega)
theorem f_worth {p t N : Nat} (hp : PlOk (ma st 1) p) (ht : ThOk (ma st 1) t) (hN : StOk st N) (hb : N + 201 < 2 ^ 31) : ∃ (st' : MS) (N' : Nat), F_X12_worth G (encM G b st h0) nx b (nI p) (nI t) = some (woF st p t, encM G b st' h0, nx) ∧ FrM KW st st' ∧ StOk st' N' ∧ N' ≤ N + 201 := by
  obtain ⟨hp1, hk, hk6, hv, hv9⟩ := hp
  have t8 := ht.1
  unfold F_X12_worth F_X12_worth_103 F_X12_worth_77
  generalize hkk : sN (ma st 1) (1070 + p) = kk at hk hk6
  simp (maxSteps := 3000000) (disch := omega) only [hk, hv, ma_msa_n, ma_msa_s, mi_msi_n, mi_msi_s, ml_msl_n, ml_msl_s, ma_msi, ma_msl, mi_msa, mi_msl, ml_msa, ml_msi, msa_msa, msi_msi, msl_msl, ck_m, gf_s, gf_image, gf_truths, gf_knownRow, gf_daysRow, gf_bests, gf_nots, gf_lookeds, gf_bestsAt, gf_worths, gf_keptKnown, gf_keptDays, gf_round, gf_sums, gf_bestRound, gf_bodies, gf_thrown, gf_hasImage, gf_act, gf_spot, gf_size, gf_isWrong, gf_open, gf_edgeThing, gf_edgeMore, gf_stamp, gf_whose, gf_wage, gf_roundMany, gf_bestSet, gf_ran, gf_kind, gf_who, gf_tellsV, pf_thrown, pf_hasImage, pf_act, pf_spot, pf_size, pf_isWrong, pf_open, pf_edgeThing, pf_edgeMore, pf_stamp, pf_whose, pf_wage, pf_roundMany, pf_bestSet, pf_ran, pf_kind, pf_who, pf_tellsV, al_s, as_s, al_image, as_image, al_truths, as_truths0, as_truths1, al_knownRow, as_knownRow, al_daysRow, as_daysRow, al_bests, as_bests, al_nots, as_nots, al_lookeds, as_lookeds, al_bestsAt, as_bestsAt, al_worths, as_worths, al_keptKnown, as_keptKnown, al_keptDays, as_keptDays, al_round, as_round, al_sums, as_sums, al_bestRound, as_bestRound, al_bodies, as_bodies, cl_some, nm_b, nn_some, qn_some, qn_none, zk_0, zk_1, zk_n0, zk_n1, nI_add, pk_mul, pk_sub, nI_leE, nI_ltE, nI_eqE, nI_lt0, nI_ge0, nI_eq0, nI_gt0, nI_le0, ilt_t, ilt_f, ile_t, ile_f, ieq_t, ieq_f, if_tt, if_ff, Nat.add_sub_cancel]
  have cs : ∀ (q : Nat) (x : Int32), kk = q → woF st p t = x → q ≠ 1 → True := fun _ _ _ _ _ => trivial
  by_cases c1 : kk = 1
  · rw [if_pos c1]
    obtain ⟨st1, N1, e1, hF, hN1, hl⟩ := f_numberOf (G := G) (b := b) (h0 := h0) (nx := nx) (t := t) (n := 1 + sN (ma st 1) (1082 + p) % 3) (by omega) (by omega) ht hN hb
    refine ⟨st1, N1, ?_, hF, hN1, hl⟩
    rw [pk_rem (by omega) (by omega) (by omega)]
    simp (maxSteps := 3000000) (disch := omega) only [e1, ma_msa_n, ma_msa_s, mi_msi_n, mi_msi_s, ml_msl_n, ml_msl_s, ma_msi, ma_msl, mi_msa, mi_msl, ml_msa, ml_msi, msa_msa, msi_msi, msl_msl, ck_m, gf_s, gf_image, gf_truths, gf_knownRow, gf_daysRow, gf_bests, gf_nots, gf_lookeds, gf_bestsAt, gf_worths, gf_keptKnown, gf_keptDays, gf_round, gf_sums, gf_bestRound, gf_bodies, gf_thrown, gf_hasImage, gf_act, gf_spot, gf_size, gf_isWrong, gf_open, gf_edgeThing, gf_edgeMore, gf_stamp, gf_whose, gf_wage, gf_roundMany, gf_bestSet, gf_ran, gf_kind, gf_who, gf_tellsV, pf_thrown, pf_hasImage, pf_act, pf_spot, pf_size, pf_isWrong, pf_open, pf_edgeThing, pf_edgeMore, pf_stamp, pf_whose, pf_wage, pf_roundMany, pf_bestSet, pf_ran, pf_kind, pf_who, pf_tellsV, al_s, as_s, al_image, as_image, al_truths, as_truths0, as_truths1, al_knownRow, as_knownRow, al_daysRow, as_daysRow, al_bests, as_bests, al_nots, as_nots, al_lookeds, as_lookeds, al_bestsAt, as_bestsAt, al_worths, as_worths, al_keptKnown, as_keptKnown, al_keptDays, as_keptDays, al_round, as_round, al_sums, as_sums, al_bestRound, as_bestRound, al_bodies, as_bodies, cl_some, nm_b, nn_some, qn_some, qn_none, zk_0, zk_1, zk_n0, zk_n1, nI_add, pk_mul, pk_sub, nI_leE, nI_ltE, nI_eqE, nI_lt0, nI_ge0, nI_eq0, nI_gt0, nI_le0, ilt_t, ilt_f, ile_t, ile_f, ieq_t, ieq_f, if_tt, if_ff, Nat.add_sub_cancel]
    unfold woF wgF
    rw [hkk, if_pos c1]
    by_cases c : nmF st t (1 + sN (ma st 1) (1082 + p) % 3) = -5
    · rw [if_pos c, if_pos c]
    · rw [if_neg c, if_neg c]
  · rw [if_neg c1]
    refine ⟨st, N, ?_, FrM.rf, hN, by omega⟩
    unfold woF
    rw [hkk, if_neg c1]
    by_cases c2 : kk = 2
    · rw [if_pos c2, if_neg (by omega), if_neg (by omega)]
    · rw [if_neg c2]
      by_cases c3 : kk = 3
      · rw [if_pos c3, if_pos c3]
      · rw [if_neg c3, if_neg c3]
        by_cases c4 : kk = 4
        · rw [if_pos c4, if_neg (by omega)]
        · rw [if_neg c4]
          by_cases c5 : kk = 5
          · rw [if_pos c5, if_pos c5]
          · rw [if_neg c5, if_neg c5]
theorem f_turned_loop {nt lk : Nat} {fr : Int32} (hL : LkOk (ma st 1) nt lk) : ∀ (r n m : Nat), n + r = lk → r < m → F_X12_turned_4 G m (encM G b st h0) nx b fr (tuF (nI nt) fr n) (nI n) = some (tuF (nI nt) fr lk, encM G b st h0, nx) := by
  obtain ⟨h1, h2, h3, h4⟩ := hL
  intro r
  induction r with
  | zero =>
    intro n m hn hm
    obtain ⟨m, rfl⟩ : ∃ q, m = q + 1 := ⟨m - 1, by omega⟩
    have hn : n = lk := by omega
    subst hn
    rw [F_X12_turned_4_s]
    simp (maxSteps := 3000000) (disch := omega) only [f_looking, h3, ma_msa_n, ma_msa_s, mi_msi_n, mi_msi_s, ml_msl_n, ml_msl_s, ma_msi, ma_msl, mi_msa, mi_msl, ml_msa, ml_msi, msa_msa, msi_msi, msl_msl, ck_m, gf_s, gf_image, gf_truths, gf_knownRow, gf_daysRow, gf_bests, gf_nots, gf_lookeds, gf_bestsAt, gf_worths, gf_keptKnown, gf_keptDays, gf_round, gf_sums, gf_bestRound, gf_bodies, gf_thrown, gf_hasImage, gf_act, gf_spot, gf_size, gf_isWrong, gf_open, gf_edgeThing, gf_edgeMore, gf_stamp, gf_whose, gf_wage, gf_roundMany, gf_bestSet, gf_ran, gf_kind, gf_who, gf_tellsV, pf_thrown, pf_hasImage, pf_act, pf_spot, pf_size, pf_isWrong, pf_open, pf_edgeThing, pf_edgeMore, pf_stamp, pf_whose, pf_wage, pf_roundMany, pf_bestSet, pf_ran, pf_kind, pf_who, pf_tellsV, al_s, as_s, al_image, as_image, al_truths, as_truths0, as_truths1, al_knownRow, as_knownRow, al_daysRow, as_daysRow, al_bests, as_bests, al_nots, as_nots, al_lookeds, as_lookeds, al_bestsAt, as_bestsAt, al_worths, as_worths, al_keptKnown, as_keptKnown, al_keptDays, as_keptDays, al_round, as_round, al_sums, as_sums, al_bestRound, as_bestRound, al_bodies, as_bodies, cl_some, nm_b, nn_some, qn_some, qn_none, zk_0, zk_1, zk_n0, zk_n1, nI_add, pk_mul, pk_sub, nI_leE, nI_ltE, nI_eqE, nI_lt0, nI_ge0, nI_eq0, nI_gt0, nI_le0, ilt_t, ilt_f, ile_t, ile_f, ieq_t, ieq_f, if_tt, if_ff, Nat.add_sub_cancel]
  | succ r ih =>
    intro n m hn hm
    obtain ⟨m, rfl⟩ : ∃ q, m = q + 1 := ⟨m - 1, by omega⟩
    rw [F_X12_turned_4_s]
    simp (maxSteps := 3000000) (disch := omega) only [f_looking, h3, h1, dzI_n, ma_msa_n, ma_msa_s, mi_msi_n, mi_msi_s, ml_msl_n, ml_msl_s, ma_msi, ma_msl, mi_msa, mi_msl, ml_msa, ml_msi, msa_msa, msi_msi, msl_msl, ck_m, gf_s, gf_image, gf_truths, gf_knownRow, gf_daysRow, gf_bests, gf_nots, gf_lookeds, gf_bestsAt, gf_worths, gf_keptKnown, gf_keptDays, gf_round, gf_sums, gf_bestRound, gf_bodies, gf_thrown, gf_hasImage, gf_act, gf_spot, gf_size, gf_isWrong, gf_open, gf_edgeThing, gf_edgeMore, gf_stamp, gf_whose, gf_wage, gf_roundMany, gf_bestSet, gf_ran, gf_kind, gf_who, gf_tellsV, pf_thrown, pf_hasImage, pf_act, pf_spot, pf_size, pf_isWrong, pf_open, pf_edgeThing, pf_edgeMore, pf_stamp, pf_whose, pf_wage, pf_roundMany, pf_bestSet, pf_ran, pf_kind, pf_who, pf_tellsV, al_s, as_s, al_image, as_image, al_truths, as_truths0, as_truths1, al_knownRow, as_knownRow, al_daysRow, as_daysRow, al_bests, as_bests, al_nots, as_nots, al_lookeds, as_lookeds, al_bestsAt, as_bestsAt, al_worths, as_worths, al_keptKnown, as_keptKnown, al_keptDays, as_keptDays, al_round, as_round, al_sums, as_sums, al_bestRound, as_bestRound, al_bodies, as_bodies, cl_some, nm_b, nn_some, qn_some, qn_none, zk_0, zk_1, zk_n0, zk_n1, nI_add, pk_mul, pk_sub, nI_leE, nI_ltE, nI_eqE, nI_lt0, nI_ge0, nI_eq0, nI_gt0, nI_le0, ilt_t, ilt_f, ile_t, ile_f, ieq_t, ieq_f, if_tt, if_ff, Nat.add_sub_cancel]
    exact ih (n + 1) m (by omega) (by omega)
theorem f_turned {nt lk : Nat} {fr : Int32} (hL : LkOk (ma st 1) nt lk) : F_X12_turned G (encM G b st h0) nx b fr = some (tuF (nI nt) fr lk, encM G b st h0, nx) := f_turned_loop hL lk 0 fuelL (by omega) (by obtain ⟨_, h2, _, h4⟩ := hL; unfold fuelL; omega)
theorem f_told_loop {nt lk : Nat} {al : Int32} (hL : LkOk (ma st 1) nt lk) : ∀ (r t m : Nat), t + r = nt → r < m → F_X12_toldOn_48 G m (encM G b st h0) nx b al (toF al (nI lk) t) (nI t) = some (toF al (nI lk) nt, encM G b st h0, nx) := by
  obtain ⟨h1, h2, h3, h4⟩ := hL
  intro r
  induction r with
  | zero =>
    intro t m ht hm
    obtain ⟨m, rfl⟩ : ∃ q, m = q + 1 := ⟨m - 1, by omega⟩
    have ht : t = nt := by omega
    subst ht
    rw [F_X12_toldOn_48_s]
    simp (maxSteps := 3000000) (disch := omega) only [h1, ma_msa_n, ma_msa_s, mi_msi_n, mi_msi_s, ml_msl_n, ml_msl_s, ma_msi, ma_msl, mi_msa, mi_msl, ml_msa, ml_msi, msa_msa, msi_msi, msl_msl, ck_m, gf_s, gf_image, gf_truths, gf_knownRow, gf_daysRow, gf_bests, gf_nots, gf_lookeds, gf_bestsAt, gf_worths, gf_keptKnown, gf_keptDays, gf_round, gf_sums, gf_bestRound, gf_bodies, gf_thrown, gf_hasImage, gf_act, gf_spot, gf_size, gf_isWrong, gf_open, gf_edgeThing, gf_edgeMore, gf_stamp, gf_whose, gf_wage, gf_roundMany, gf_bestSet, gf_ran, gf_kind, gf_who, gf_tellsV, pf_thrown, pf_hasImage, pf_act, pf_spot, pf_size, pf_isWrong, pf_open, pf_edgeThing, pf_edgeMore, pf_stamp, pf_whose, pf_wage, pf_roundMany, pf_bestSet, pf_ran, pf_kind, pf_who, pf_tellsV, al_s, as_s, al_image, as_image, al_truths, as_truths0, as_truths1, al_knownRow, as_knownRow, al_daysRow, as_daysRow, al_bests, as_bests, al_nots, as_nots, al_lookeds, as_lookeds, al_bestsAt, as_bestsAt, al_worths, as_worths, al_keptKnown, as_keptKnown, al_keptDays, as_keptDays, al_round, as_round, al_sums, as_sums, al_bestRound, as_bestRound, al_bodies, as_bodies, cl_some, nm_b, nn_some, qn_some, qn_none, zk_0, zk_1, zk_n0, zk_n1, nI_add, pk_mul, pk_sub, nI_leE, nI_ltE, nI_eqE, nI_lt0, nI_ge0, nI_eq0, nI_gt0, nI_le0, ilt_t, ilt_f, ile_t, ile_f, ieq_t, ieq_f, if_tt, if_ff, Nat.add_sub_cancel]
  | succ r ih =>
    intro t m ht hm
    obtain ⟨m, rfl⟩ : ∃ q, m = q + 1 := ⟨m - 1, by omega⟩
    rw [F_X12_toldOn_48_s]
    simp (maxSteps := 3000000) (disch := omega) only [h1, f_count1, f_looking, h3, F_X12_toldOn_85, F_X12_toldOn_86, F_X12_toldOn_103, ma_msa_n, ma_msa_s, mi_msi_n, mi_msi_s, ml_msl_n, ml_msl_s, ma_msi, ma_msl, mi_msa, mi_msl, ml_msa, ml_msi, msa_msa, msi_msi, msl_msl, ck_m, gf_s, gf_image, gf_truths, gf_knownRow, gf_daysRow, gf_bests, gf_nots, gf_lookeds, gf_bestsAt, gf_worths, gf_keptKnown, gf_keptDays, gf_round, gf_sums, gf_bestRound, gf_bodies, gf_thrown, gf_hasImage, gf_act, gf_spot, gf_size, gf_isWrong, gf_open, gf_edgeThing, gf_edgeMore, gf_stamp, gf_whose, gf_wage, gf_roundMany, gf_bestSet, gf_ran, gf_kind, gf_who, gf_tellsV, pf_thrown, pf_hasImage, pf_act, pf_spot, pf_size, pf_isWrong, pf_open, pf_edgeThing, pf_edgeMore, pf_stamp, pf_whose, pf_wage, pf_roundMany, pf_bestSet, pf_ran, pf_kind, pf_who, pf_tellsV, al_s, as_s, al_image, as_image, al_truths, as_truths0, as_truths1, al_knownRow, as_knownRow, al_daysRow, as_daysRow, al_bests, as_bests, al_nots, as_nots, al_lookeds, as_lookeds, al_bestsAt, as_bestsAt, al_worths, as_worths, al_keptKnown, as_keptKnown, al_keptDays, as_keptDays, al_round, as_round, al_sums, as_sums, al_bestRound, as_bestRound, al_bodies, as_bodies, cl_some, nm_b, nn_some, qn_some, qn_none, zk_0, zk_1, zk_n0, zk_n1, nI_add, pk_mul, pk_sub, nI_leE, nI_ltE, nI_eqE, nI_lt0, nI_ge0, nI_eq0, nI_gt0, nI_le0, ilt_t, ilt_f, ile_t, ile_f, ieq_t, ieq_f, if_tt, if_ff, Nat.add_sub_cancel]
    have fin := ih (t + 1) m (by omega) (by omega)
    rw [show toF al (nI lk) (t + 1) = toF al (nI lk) t ||| (if bitI al t = nI 1 ∧ cnF (toF al (nI lk) t) 8 < nI lk then nI 1 <<< (nI t &&& 31) else nI 0) from rfl] at fin
    unfold bitI at fin
    by_cases c1 : al >>> (nI t &&& 31) &&& nI 1 = nI 1
    · rw [if_pos c1]
      by_cases c2 : nI lk ≤ cnF (toF al (nI lk) t) 8
      · rw [if_pos c2]
        rw [if_neg (fun q => Int32.not_lt.mpr c2 q.2)] at fin
        exact fin
      · rw [if_neg c2]
        rw [if_pos ⟨c1, Int32.not_le.mp c2⟩] at fin
        exact fin
    · rw [if_neg c1]
      rw [if_neg (fun q => c1 q.1)] at fin
      exact fin
theorem f_toldOn {p dd nt lk : Nat} (hL : LkOk (ma st 1) nt lk) (hp : p < 12) (hr : ma st 1 (1094 + p) = nI (sN (ma st 1) (1094 + p))) (hr10 : sN (ma st 1) (1094 + p) ≤ 10) (hd : dd < 2 ^ 31) : F_X12_toldOn G (encM G b st h0) nx b (nI p) (nI dd) = some (tdF (ma st 1) p dd nt lk, encM G b st h0, nx) := by
  unfold F_X12_toldOn tdF
  generalize hrr : sN (ma st 1) (1094 + p) = rr at hr hr10
  simp (maxSteps := 3000000) (disch := omega) only [hr, ma_msa_n, ma_msa_s, mi_msi_n, mi_msi_s, ml_msl_n, ml_msl_s, ma_msi, ma_msl, mi_msa, mi_msl, ml_msa, ml_msi, msa_msa, msi_msi, msl_msl, ck_m, gf_s, gf_image, gf_truths, gf_knownRow, gf_daysRow, gf_bests, gf_nots, gf_lookeds, gf_bestsAt, gf_worths, gf_keptKnown, gf_keptDays, gf_round, gf_sums, gf_bestRound, gf_bodies, gf_thrown, gf_hasImage, gf_act, gf_spot, gf_size, gf_isWrong, gf_open, gf_edgeThing, gf_edgeMore, gf_stamp, gf_whose, gf_wage, gf_roundMany, gf_bestSet, gf_ran, gf_kind, gf_who, gf_tellsV, pf_thrown, pf_hasImage, pf_act, pf_spot, pf_size, pf_isWrong, pf_open, pf_edgeThing, pf_edgeMore, pf_stamp, pf_whose, pf_wage, pf_roundMany, pf_bestSet, pf_ran, pf_kind, pf_who, pf_tellsV, al_s, as_s, al_image, as_image, al_truths, as_truths0, as_truths1, al_knownRow, as_knownRow, al_daysRow, as_daysRow, al_bests, as_bests, al_nots, as_nots, al_lookeds, as_lookeds, al_bestsAt, as_bestsAt, al_worths, as_worths, al_keptKnown, as_keptKnown, al_keptDays, as_keptDays, al_round, as_round, al_sums, as_sums, al_bestRound, as_bestRound, al_bodies, as_bodies, cl_some, nm_b, nn_some, qn_some, qn_none, zk_0, zk_1, zk_n0, zk_n1, nI_add, pk_mul, pk_sub, nI_leE, nI_ltE, nI_eqE, nI_lt0, nI_ge0, nI_eq0, nI_gt0, nI_le0, ilt_t, ilt_f, ile_t, ile_f, ieq_t, ieq_f, if_tt, if_ff, Nat.add_sub_cancel]
  by_cases c : rr = 0
  · rw [if_pos c, if_pos c]
  · rw [if_neg c, if_neg c, pk_rem (by omega) (by omega) (by omega)]
    have hm := Nat.mod_lt dd (show 0 < rr by omega)
    simp (maxSteps := 3000000) (disch := omega) only [dzI_n, ma_msa_n, ma_msa_s, mi_msi_n, mi_msi_s, ml_msl_n, ml_msl_s, ma_msi, ma_msl, mi_msa, mi_msl, ml_msa, ml_msi, msa_msa, msi_msi, msl_msl, ck_m, gf_s, gf_image, gf_truths, gf_knownRow, gf_daysRow, gf_bests, gf_nots, gf_lookeds, gf_bestsAt, gf_worths, gf_keptKnown, gf_keptDays, gf_round, gf_sums, gf_bestRound, gf_bodies, gf_thrown, gf_hasImage, gf_act, gf_spot, gf_size, gf_isWrong, gf_open, gf_edgeThing, gf_edgeMore, gf_stamp, gf_whose, gf_wage, gf_roundMany, gf_bestSet, gf_ran, gf_kind, gf_who, gf_tellsV, pf_thrown, pf_hasImage, pf_act, pf_spot, pf_size, pf_isWrong, pf_open, pf_edgeThing, pf_edgeMore, pf_stamp, pf_whose, pf_wage, pf_roundMany, pf_bestSet, pf_ran, pf_kind, pf_who, pf_tellsV, al_s, as_s, al_image, as_image, al_truths, as_truths0, as_truths1, al_knownRow, as_knownRow, al_daysRow, as_daysRow, al_bests, as_bests, al_nots, as_nots, al_lookeds, as_lookeds, al_bestsAt, as_bestsAt, al_worths, as_worths, al_keptKnown, as_keptKnown, al_keptDays, as_keptDays, al_round, as_round, al_sums, as_sums, al_bestRound, as_bestRound, al_bodies, as_bodies, cl_some, nm_b, nn_some, qn_some, qn_none, zk_0, zk_1, zk_n0, zk_n1, nI_add, pk_mul, pk_sub, nI_leE, nI_ltE, nI_eqE, nI_lt0, nI_ge0, nI_eq0, nI_gt0, nI_le0, ilt_t, ilt_f, ile_t, ile_f, ieq_t, ieq_f, if_tt, if_ff, Nat.add_sub_cancel]
    exact f_told_loop hL nt 0 fuelL (by omega) (by obtain ⟨_, h2, _, h4⟩ := hL; unfold fuelL; omega)
end M3
