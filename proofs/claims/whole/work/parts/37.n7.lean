/-! THE REFERENCE: the other acts -/
def ovN (S : MS) (nt : Nat) (s : Nat → Int32) : Nat → Nat → Int32
  | 0 => s
  | n + 1 => ovP S (ovN S nt s n) nt
theorem ovN_ag {S : MS} {nt : Nat} {s : Nat → Int32} (hn : nt ≤ 8) : ∀ n : Nat, AgS s (ovN S nt s n)
  | 0 => AgS.rf
  | n + 1 => (ovN_ag hn n).trans (ovP_ag hn)
def dysF (S : MS) (nt td : Nat) (d : Int32) : Int32 × (Nat → Int32) := if bIn d (nI 1) (nI 20) = 0 then (-2, ma S 1) else if nI td + d ≤ nI 999 then (nI td + d, upK (ovN S nt (ma S 1) d.toNatClampNeg) 3 (nI td + d)) else (-2, ma S 1)
section N7
variable {G : Gx} {b : Nat} {h0 : Hp} {nx : Nat}
set_option maxRecDepth 100000 in
set_option maxHeartbeats 4000000 in
theorem f_days29 {S : MS} {nt np lk td d N : Nat} (hB : BOk S nt np lk td) (hd : d ≤ 20) : ∀ (r i m : Nat) (st : MS), i + r = d → r < m → Wr S (ovN S nt (ma S 1) i) st → StOk st N → ∃ st' : MS, F_X12_days_29 G m (encM G b st h0) nx b (nI d) (nI i) = some (nI (td + d), encM G b st' h0, nx) ∧ Wr S (upK (ovN S nt (ma S 1) d) 3 (nI (td + d))) st' ∧ StOk st' N := by
  obtain ⟨hL, hl3, ht, h2, hnp, hp, h3, htd⟩ := hB
  have hn := hL.2.1
  intro r
  induction r with
  | zero =>
    intro i m st hr hm hW hN
    obtain ⟨m, rfl⟩ : ∃ q, m = q + 1 := ⟨m - 1, by omega⟩
    have hr : i = d := by omega
    subst hr
    have hs := hW.s
    have a3 : ovN S nt (ma S 1) i 3 = nI td := by rw [ovN_ag hn i 3 (by omega)]; exact h3
    refine ⟨_, ?_, hW.up, StOk_msa1 hN⟩
    have q3 : ∀ (f : Nat → Int32) (x : Int32), upK f 3 x 3 = x := fun f x => upK_s
    by_cases c : (nI i : Int32) ≤ nI i
    · rw [F_X12_days_29_s]
      simp (maxSteps := 3000000) (disch := omega) only [hs, a3, q3, ma_msa_n, ma_msa_s, mi_msi_n, mi_msi_s, ml_msl_n, ml_msl_s, ma_msi, ma_msl, mi_msa, mi_msl, ml_msa, ml_msi, msa_msa, msi_msi, msl_msl, ck_m, gf_s, gf_image, gf_truths, gf_knownRow, gf_daysRow, gf_bests, gf_nots, gf_lookeds, gf_bestsAt, gf_worths, gf_keptKnown, gf_keptDays, gf_round, gf_sums, gf_bestRound, gf_bodies, gf_thrown, gf_hasImage, gf_act, gf_spot, gf_size, gf_isWrong, gf_open, gf_edgeThing, gf_edgeMore, gf_stamp, gf_whose, gf_wage, gf_roundMany, gf_bestSet, gf_ran, gf_kind, gf_who, gf_tellsV, pf_thrown, pf_hasImage, pf_act, pf_spot, pf_size, pf_isWrong, pf_open, pf_edgeThing, pf_edgeMore, pf_stamp, pf_whose, pf_wage, pf_roundMany, pf_bestSet, pf_ran, pf_kind, pf_who, pf_tellsV, al_s, as_s, al_image, as_image, al_truths, as_truths0, as_truths1, al_knownRow, as_knownRow, al_daysRow, as_daysRow, al_bests, as_bests, al_nots, as_nots, al_lookeds, as_lookeds, al_bestsAt, as_bestsAt, al_worths, as_worths, al_keptKnown, as_keptKnown, al_keptDays, as_keptDays, al_round, as_round, al_sums, as_sums, al_bestRound, as_bestRound, al_bodies, as_bodies, cl_some, nm_b, nn_some, qn_some, qn_none, zk_0, zk_1, zk_n0, zk_n1, nI_add, pk_mul, pk_sub, nI_leE, nI_ltE, nI_eqE, nI_lt0, nI_ge0, nI_eq0, nI_gt0, nI_le0, ilt_t, ilt_f, ile_t, ile_f, ieq_t, ieq_f, if_tt, if_ff, Nat.add_sub_cancel]
    · exact absurd (Int32.le_refl _) c
  | succ r ih =>
    intro i m st hr hm hW hN
    obtain ⟨m, rfl⟩ : ∃ q, m = q + 1 := ⟨m - 1, by omega⟩
    have hag := ovN_ag (S := S) (s := ma S 1) hn i
    obtain ⟨st2, e2, w2, n2⟩ := f_overW (G := G) (b := b) (h0 := h0) (nx := nx) hW (by rw [hag 1 (by omega)]; exact hL.1) hn (fun t q => ThOk_ag hag (ht t q)) hN
    obtain ⟨st3, e3, r3⟩ := ih (i + 1) m st2 (by omega) (by omega) w2 n2
    refine ⟨st3, ?_, r3⟩
    rw [F_X12_days_29_s]
    simp (maxSteps := 3000000) (disch := omega) only [e2, ma_msa_n, ma_msa_s, mi_msi_n, mi_msi_s, ml_msl_n, ml_msl_s, ma_msi, ma_msl, mi_msa, mi_msl, ml_msa, ml_msi, msa_msa, msi_msi, msl_msl, ck_m, gf_s, gf_image, gf_truths, gf_knownRow, gf_daysRow, gf_bests, gf_nots, gf_lookeds, gf_bestsAt, gf_worths, gf_keptKnown, gf_keptDays, gf_round, gf_sums, gf_bestRound, gf_bodies, gf_thrown, gf_hasImage, gf_act, gf_spot, gf_size, gf_isWrong, gf_open, gf_edgeThing, gf_edgeMore, gf_stamp, gf_whose, gf_wage, gf_roundMany, gf_bestSet, gf_ran, gf_kind, gf_who, gf_tellsV, pf_thrown, pf_hasImage, pf_act, pf_spot, pf_size, pf_isWrong, pf_open, pf_edgeThing, pf_edgeMore, pf_stamp, pf_whose, pf_wage, pf_roundMany, pf_bestSet, pf_ran, pf_kind, pf_who, pf_tellsV, al_s, as_s, al_image, as_image, al_truths, as_truths0, as_truths1, al_knownRow, as_knownRow, al_daysRow, as_daysRow, al_bests, as_bests, al_nots, as_nots, al_lookeds, as_lookeds, al_bestsAt, as_bestsAt, al_worths, as_worths, al_keptKnown, as_keptKnown, al_keptDays, as_keptDays, al_round, as_round, al_sums, as_sums, al_bestRound, as_bestRound, al_bodies, as_bodies, cl_some, nm_b, nn_some, qn_some, qn_none, zk_0, zk_1, zk_n0, zk_n1, nI_add, pk_mul, pk_sub, nI_leE, nI_ltE, nI_eqE, nI_lt0, nI_ge0, nI_eq0, nI_gt0, nI_le0, ilt_t, ilt_f, ile_t, ile_f, ieq_t, ieq_f, if_tt, if_ff, Nat.add_sub_cancel]
    exact e3
set_option maxRecDepth 100000 in
set_option maxHeartbeats 4000000 in
theorem f_days {st : MS} {nt np lk td N : Nat} (hB : BOk st nt np lk td) (hN : StOk st N) (d : Int32) : ∃ st' : MS, F_X12_days G (encM G b st h0) nx b d = some ((dysF st nt td d).1, encM G b st' h0, nx) ∧ Wr st (dysF st nt td d).2 st' ∧ StOk st' N := by
  have h3 := hB.2.2.2.2.2.2.1
  have htd := hB.2.2.2.2.2.2.2
  unfold F_X12_days F_X12_days_24 dysF
  simp (maxSteps := 3000000) (disch := omega) only [f_in, ma_msa_n, ma_msa_s, mi_msi_n, mi_msi_s, ml_msl_n, ml_msl_s, ma_msi, ma_msl, mi_msa, mi_msl, ml_msa, ml_msi, msa_msa, msi_msi, msl_msl, ck_m, gf_s, gf_image, gf_truths, gf_knownRow, gf_daysRow, gf_bests, gf_nots, gf_lookeds, gf_bestsAt, gf_worths, gf_keptKnown, gf_keptDays, gf_round, gf_sums, gf_bestRound, gf_bodies, gf_thrown, gf_hasImage, gf_act, gf_spot, gf_size, gf_isWrong, gf_open, gf_edgeThing, gf_edgeMore, gf_stamp, gf_whose, gf_wage, gf_roundMany, gf_bestSet, gf_ran, gf_kind, gf_who, gf_tellsV, pf_thrown, pf_hasImage, pf_act, pf_spot, pf_size, pf_isWrong, pf_open, pf_edgeThing, pf_edgeMore, pf_stamp, pf_whose, pf_wage, pf_roundMany, pf_bestSet, pf_ran, pf_kind, pf_who, pf_tellsV, al_s, as_s, al_image, as_image, al_truths, as_truths0, as_truths1, al_knownRow, as_knownRow, al_daysRow, as_daysRow, al_bests, as_bests, al_nots, as_nots, al_lookeds, as_lookeds, al_bestsAt, as_bestsAt, al_worths, as_worths, al_keptKnown, as_keptKnown, al_keptDays, as_keptDays, al_round, as_round, al_sums, as_sums, al_bestRound, as_bestRound, al_bodies, as_bodies, cl_some, nm_b, nn_some, qn_some, qn_none, zk_0, zk_1, zk_n0, zk_n1, nI_add, pk_mul, pk_sub, nI_leE, nI_ltE, nI_eqE, nI_lt0, nI_ge0, nI_eq0, nI_gt0, nI_le0, ilt_t, ilt_f, ile_t, ile_f, ieq_t, ieq_f, if_tt, if_ff, Nat.add_sub_cancel]
  by_cases c1 : bIn d (nI 1) (nI 20) = 0
  · rw [if_pos c1, if_pos c1]
    exact ⟨st, rfl, Wr.rf, hN⟩
  · rw [if_neg c1, if_neg c1]
    obtain ⟨d, hd1, hd3, rfl⟩ := bIn_lh (by omega) (by omega) c1
    rw [nI_clamp (by omega)]
    simp (maxSteps := 3000000) (disch := omega) only [h3, ma_msa_n, ma_msa_s, mi_msi_n, mi_msi_s, ml_msl_n, ml_msl_s, ma_msi, ma_msl, mi_msa, mi_msl, ml_msa, ml_msi, msa_msa, msi_msi, msl_msl, ck_m, gf_s, gf_image, gf_truths, gf_knownRow, gf_daysRow, gf_bests, gf_nots, gf_lookeds, gf_bestsAt, gf_worths, gf_keptKnown, gf_keptDays, gf_round, gf_sums, gf_bestRound, gf_bodies, gf_thrown, gf_hasImage, gf_act, gf_spot, gf_size, gf_isWrong, gf_open, gf_edgeThing, gf_edgeMore, gf_stamp, gf_whose, gf_wage, gf_roundMany, gf_bestSet, gf_ran, gf_kind, gf_who, gf_tellsV, pf_thrown, pf_hasImage, pf_act, pf_spot, pf_size, pf_isWrong, pf_open, pf_edgeThing, pf_edgeMore, pf_stamp, pf_whose, pf_wage, pf_roundMany, pf_bestSet, pf_ran, pf_kind, pf_who, pf_tellsV, al_s, as_s, al_image, as_image, al_truths, as_truths0, as_truths1, al_knownRow, as_knownRow, al_daysRow, as_daysRow, al_bests, as_bests, al_nots, as_nots, al_lookeds, as_lookeds, al_bestsAt, as_bestsAt, al_worths, as_worths, al_keptKnown, as_keptKnown, al_keptDays, as_keptDays, al_round, as_round, al_sums, as_sums, al_bestRound, as_bestRound, al_bodies, as_bodies, cl_some, nm_b, nn_some, qn_some, qn_none, zk_0, zk_1, zk_n0, zk_n1, nI_add, pk_mul, pk_sub, nI_leE, nI_ltE, nI_eqE, nI_lt0, nI_ge0, nI_eq0, nI_gt0, nI_le0, ilt_t, ilt_f, ile_t, ile_f, ieq_t, ieq_f, if_tt, if_ff, Nat.add_sub_cancel]
    by_cases c4 : td + d ≤ 999
    · rw [if_pos c4, if_pos c4]
      exact f_days29 hB hd3 d 0 fuelL st (by omega) (by unfold fuelL; omega) Wr.rf hN
    · rw [if_neg c4, if_neg c4]
      exact ⟨st, rfl, Wr.rf, hN⟩
def whomF (S : MS) (nt lk td : Nat) (p : Int32) : Int32 := if bIn p (nI 0) (ma S 1 2 - nI 1) = 0 then -1 else whF S p.toNatClampNeg td nt lk
set_option maxRecDepth 100000 in
set_option maxHeartbeats 4000000 in
theorem f_whom {st : MS} {nt np lk td N : Nat} (hB : BOk st nt np lk td) (hN : StOk st N) (hb : N + 1608 < 2 ^ 31) (p : Int32) : ∃ (st' : MS) (N' : Nat), F_X12_whom G (encM G b st h0) nx b p = some (whomF st nt lk td p, encM G b st' h0, nx) ∧ FrM KX st st' ∧ StOk st' N' ∧ N' ≤ N + 1608 := by
  obtain ⟨hL, hl3, ht, h2, hnp, hp, h3, htd⟩ := hB
  unfold F_X12_whom F_X12_whom_23 whomF
  simp (maxSteps := 3000000) (disch := omega) only [f_isPlan, ma_msa_n, ma_msa_s, mi_msi_n, mi_msi_s, ml_msl_n, ml_msl_s, ma_msi, ma_msl, mi_msa, mi_msl, ml_msa, ml_msi, msa_msa, msi_msi, msl_msl, ck_m, gf_s, gf_image, gf_truths, gf_knownRow, gf_daysRow, gf_bests, gf_nots, gf_lookeds, gf_bestsAt, gf_worths, gf_keptKnown, gf_keptDays, gf_round, gf_sums, gf_bestRound, gf_bodies, gf_thrown, gf_hasImage, gf_act, gf_spot, gf_size, gf_isWrong, gf_open, gf_edgeThing, gf_edgeMore, gf_stamp, gf_whose, gf_wage, gf_roundMany, gf_bestSet, gf_ran, gf_kind, gf_who, gf_tellsV, pf_thrown, pf_hasImage, pf_act, pf_spot, pf_size, pf_isWrong, pf_open, pf_edgeThing, pf_edgeMore, pf_stamp, pf_whose, pf_wage, pf_roundMany, pf_bestSet, pf_ran, pf_kind, pf_who, pf_tellsV, al_s, as_s, al_image, as_image, al_truths, as_truths0, as_truths1, al_knownRow, as_knownRow, al_daysRow, as_daysRow, al_bests, as_bests, al_nots, as_nots, al_lookeds, as_lookeds, al_bestsAt, as_bestsAt, al_worths, as_worths, al_keptKnown, as_keptKnown, al_keptDays, as_keptDays, al_round, as_round, al_sums, as_sums, al_bestRound, as_bestRound, al_bodies, as_bodies, cl_some, nm_b, nn_some, qn_some, qn_none, zk_0, zk_1, zk_n0, zk_n1, nI_add, pk_mul, pk_sub, nI_leE, nI_ltE, nI_eqE, nI_lt0, nI_ge0, nI_eq0, nI_gt0, nI_le0, ilt_t, ilt_f, ile_t, ile_f, ieq_t, ieq_f, if_tt, if_ff, Nat.add_sub_cancel]
  rw [h2]
  by_cases c1 : bIn p (nI 0) (nI np - nI 1) = 0
  · rw [if_pos c1, if_pos c1]
    exact ⟨st, N, rfl, FrM.rf, hN, by omega⟩
  · rw [if_neg c1, if_neg c1]
    obtain ⟨p, hp1, rfl⟩ := bIn_nI (by omega) c1
    rw [nI_clamp (by omega)]
    obtain ⟨st2, N2, e2, f2, n2, l2⟩ := f_whomOn (G := G) (b := b) (h0 := h0) (nx := nx) (dd := td) hL (hp p hp1) ht hN hb (by omega)
    refine ⟨st2, N2, ?_, f2, n2, l2⟩
    simp (maxSteps := 3000000) (disch := omega) only [h3, e2, ma_msa_n, ma_msa_s, mi_msi_n, mi_msi_s, ml_msl_n, ml_msl_s, ma_msi, ma_msl, mi_msa, mi_msl, ml_msa, ml_msi, msa_msa, msi_msi, msl_msl, ck_m, gf_s, gf_image, gf_truths, gf_knownRow, gf_daysRow, gf_bests, gf_nots, gf_lookeds, gf_bestsAt, gf_worths, gf_keptKnown, gf_keptDays, gf_round, gf_sums, gf_bestRound, gf_bodies, gf_thrown, gf_hasImage, gf_act, gf_spot, gf_size, gf_isWrong, gf_open, gf_edgeThing, gf_edgeMore, gf_stamp, gf_whose, gf_wage, gf_roundMany, gf_bestSet, gf_ran, gf_kind, gf_who, gf_tellsV, pf_thrown, pf_hasImage, pf_act, pf_spot, pf_size, pf_isWrong, pf_open, pf_edgeThing, pf_edgeMore, pf_stamp, pf_whose, pf_wage, pf_roundMany, pf_bestSet, pf_ran, pf_kind, pf_who, pf_tellsV, al_s, as_s, al_image, as_image, al_truths, as_truths0, as_truths1, al_knownRow, as_knownRow, al_daysRow, as_daysRow, al_bests, as_bests, al_nots, as_nots, al_lookeds, as_lookeds, al_bestsAt, as_bestsAt, al_worths, as_worths, al_keptKnown, as_keptKnown, al_keptDays, as_keptDays, al_round, as_round, al_sums, as_sums, al_bestRound, as_bestRound, al_bodies, as_bodies, cl_some, nm_b, nn_some, qn_some, qn_none, zk_0, zk_1, zk_n0, zk_n1, nI_add, pk_mul, pk_sub, nI_leE, nI_ltE, nI_eqE, nI_lt0, nI_ge0, nI_eq0, nI_gt0, nI_le0, ilt_t, ilt_f, ile_t, ile_f, ieq_t, ieq_f, if_tt, if_ff, Nat.add_sub_cancel]
def bestF (S : MS) (t w n k : Int32) : Int64 := if bIn t (nI 0) (ma S 1 1 - nI 1) = 0 then noJ else if bIn w (nI 0) (nI 200) = 0 then noJ else if bIn n (nI 1) (nI 8) = 0 then noJ else if bIn k (nI 0) (nI 2) = 0 then noJ
  else if k = 0 then (bP (msi (rwS S t.toNatClampNeg) 20 w) t.toNatClampNeg n.toNatClampNeg 0).1 else if k = nI 1 then (bP (msi (rwS S t.toNatClampNeg) 20 w) t.toNatClampNeg n.toNatClampNeg 0).2.1 else (bP (msi (rwS S t.toNatClampNeg) 20 w) t.toNatClampNeg n.toNatClampNeg 0).2.2
set_option maxRecDepth 100000 in
set_option maxHeartbeats 4000000 in
theorem f_best {st : MS} {nt np lk td N : Nat} (hB : BOk st nt np lk td) (hN : StOk st N) (hb : N + 1 < 2 ^ 31) (t w n k : Int32) : ∃ (st' : MS) (N' : Nat), F_X12_best G (encM G b st h0) nx b t w n k = some (bestF st t w n k, encM G b st' h0, nx) ∧ FrM KX st st' ∧ StOk st' N' ∧ N' ≤ N + 1 := by
  obtain ⟨hL, hl3, ht, h2, hnp, hp, h3, htd⟩ := hB
  have hn := hL.2.1
  unfold F_X12_best F_X12_best_39 F_X12_best_87 bestF
  simp (maxSteps := 3000000) (disch := omega) only [f_isThing, f_in, ma_msa_n, ma_msa_s, mi_msi_n, mi_msi_s, ml_msl_n, ml_msl_s, ma_msi, ma_msl, mi_msa, mi_msl, ml_msa, ml_msi, msa_msa, msi_msi, msl_msl, ck_m, gf_s, gf_image, gf_truths, gf_knownRow, gf_daysRow, gf_bests, gf_nots, gf_lookeds, gf_bestsAt, gf_worths, gf_keptKnown, gf_keptDays, gf_round, gf_sums, gf_bestRound, gf_bodies, gf_thrown, gf_hasImage, gf_act, gf_spot, gf_size, gf_isWrong, gf_open, gf_edgeThing, gf_edgeMore, gf_stamp, gf_whose, gf_wage, gf_roundMany, gf_bestSet, gf_ran, gf_kind, gf_who, gf_tellsV, pf_thrown, pf_hasImage, pf_act, pf_spot, pf_size, pf_isWrong, pf_open, pf_edgeThing, pf_edgeMore, pf_stamp, pf_whose, pf_wage, pf_roundMany, pf_bestSet, pf_ran, pf_kind, pf_who, pf_tellsV, al_s, as_s, al_image, as_image, al_truths, as_truths0, as_truths1, al_knownRow, as_knownRow, al_daysRow, as_daysRow, al_bests, as_bests, al_nots, as_nots, al_lookeds, as_lookeds, al_bestsAt, as_bestsAt, al_worths, as_worths, al_keptKnown, as_keptKnown, al_keptDays, as_keptDays, al_round, as_round, al_sums, as_sums, al_bestRound, as_bestRound, al_bodies, as_bodies, cl_some, nm_b, nn_some, qn_some, qn_none, zk_0, zk_1, zk_n0, zk_n1, nI_add, pk_mul, pk_sub, nI_leE, nI_ltE, nI_eqE, nI_lt0, nI_ge0, nI_eq0, nI_gt0, nI_le0, ilt_t, ilt_f, ile_t, ile_f, ieq_t, ieq_f, if_tt, if_ff, Nat.add_sub_cancel]
  rw [hL.1]
  by_cases c1 : bIn t (nI 0) (nI nt - nI 1) = 0
  · rw [if_pos c1, if_pos c1]
    exact ⟨st, N, rfl, FrM.rf, hN, by omega⟩
  · rw [if_neg c1, if_neg c1]
    by_cases c2 : bIn w (nI 0) (nI 200) = 0
    · rw [if_pos c2, if_pos c2]
      exact ⟨st, N, rfl, FrM.rf, hN, by omega⟩
    · rw [if_neg c2, if_neg c2]
      by_cases c3 : bIn n (nI 1) (nI 8) = 0
      · rw [if_pos c3, if_pos c3]
        exact ⟨st, N, rfl, FrM.rf, hN, by omega⟩
      · rw [if_neg c3, if_neg c3]
        by_cases c4 : bIn k (nI 0) (nI 2) = 0
        · rw [if_pos c4, if_pos c4]
          exact ⟨st, N, rfl, FrM.rf, hN, by omega⟩
        · rw [if_neg c4, if_neg c4]
          obtain ⟨t, ht1, rfl⟩ := bIn_nI (by omega) c1
          obtain ⟨n, hn1, hn8, rfl⟩ := bIn_lh (by omega) (by omega) c3
          rw [nI_clamp (by omega), nI_clamp (by omega)]
          obtain ⟨st1, e1, f1, w1, r1⟩ := f_rowsOf (G := G) (b := b) (h0 := h0) (nx := nx) (st := st) (ht t ht1)
          have n1 := StOk_fr f1 (by decide) (by decide) hN
          obtain ⟨st2, e2, f2, n2, v2⟩ := f_bestBy (G := G) (b := b) (h0 := h0) (nx := nx) (st := st1) (t := t) (n := n) (w := w) hn8 (by rw [f1.ofa 1 (by decide)]; exact ht t ht1) w1 n1 hb
          have ev : bP (msi st1 20 w) t n 0 = bP (msi (rwS st t) 20 w) t n 0 := bP_cg (st := msi (rwS st t) 20 w) (st1 := msi st1 20 w) (f1.ofa 1 (by decide)) (mi_msi_s.trans mi_msi_s.symm) (fun i hi => by
            have := (r1 (i / 9) (i % 9) (by omega) (by omega)).1
            rw [show 9 * (i / 9) + i % 9 = i by omega] at this
            exact this.trans (congrFun (upK_s (f := st.2.1) (k := 12) (x := fun i => (rowK st t (i / 9) (i % 9)).1)) i).symm) n 0 (by omega) hn8
          obtain ⟨v3, v4⟩ := v2 hn1
          rw [ev] at e2 v3 v4
          refine ⟨st2, N + 1, ?_, (f1.trans f2).mono (by decide), n2, Nat.le_refl _⟩
          simp (maxSteps := 3000000) (disch := omega) only [e1, e2, v3, v4, ma_msa_n, ma_msa_s, mi_msi_n, mi_msi_s, ml_msl_n, ml_msl_s, ma_msi, ma_msl, mi_msa, mi_msl, ml_msa, ml_msi, msa_msa, msi_msi, msl_msl, ck_m, gf_s, gf_image, gf_truths, gf_knownRow, gf_daysRow, gf_bests, gf_nots, gf_lookeds, gf_bestsAt, gf_worths, gf_keptKnown, gf_keptDays, gf_round, gf_sums, gf_bestRound, gf_bodies, gf_thrown, gf_hasImage, gf_act, gf_spot, gf_size, gf_isWrong, gf_open, gf_edgeThing, gf_edgeMore, gf_stamp, gf_whose, gf_wage, gf_roundMany, gf_bestSet, gf_ran, gf_kind, gf_who, gf_tellsV, pf_thrown, pf_hasImage, pf_act, pf_spot, pf_size, pf_isWrong, pf_open, pf_edgeThing, pf_edgeMore, pf_stamp, pf_whose, pf_wage, pf_roundMany, pf_bestSet, pf_ran, pf_kind, pf_who, pf_tellsV, al_s, as_s, al_image, as_image, al_truths, as_truths0, as_truths1, al_knownRow, as_knownRow, al_daysRow, as_daysRow, al_bests, as_bests, al_nots, as_nots, al_lookeds, as_lookeds, al_bestsAt, as_bestsAt, al_worths, as_worths, al_keptKnown, as_keptKnown, al_keptDays, as_keptDays, al_round, as_round, al_sums, as_sums, al_bestRound, as_bestRound, al_bodies, as_bodies, cl_some, nm_b, nn_some, qn_some, qn_none, zk_0, zk_1, zk_n0, zk_n1, nI_add, pk_mul, pk_sub, nI_leE, nI_ltE, nI_eqE, nI_lt0, nI_ge0, nI_eq0, nI_gt0, nI_le0, ilt_t, ilt_f, ile_t, ile_f, ieq_t, ieq_f, if_tt, if_ff, Nat.add_sub_cancel]
          by_cases c5 : k = 0
          · rw [if_pos c5, if_pos c5]
          · rw [if_neg c5, if_neg c5]
            by_cases c6 : k = nI 1
            · rw [if_pos c6, if_pos c6]
            · rw [if_neg c6, if_neg c6]
def numberF (S : MS) (t n : Int32) : Int32 := if bIn t (nI 0) (ma S 1 1 - nI 1) = 0 then -1 else if bIn n (nI 1) (nI 8) = 0 then -2 else nmF S t.toNatClampNeg n.toNatClampNeg
set_option maxRecDepth 100000 in
set_option maxHeartbeats 4000000 in
theorem f_number {st : MS} {nt np lk td N : Nat} (hB : BOk st nt np lk td) (hN : StOk st N) (hb : N + 201 < 2 ^ 31) (t n : Int32) : ∃ (st' : MS) (N' : Nat), F_X12_number G (encM G b st h0) nx b t n = some (numberF st t n, encM G b st' h0, nx) ∧ FrM KX st st' ∧ StOk st' N' ∧ N' ≤ N + 201 := by
  obtain ⟨hL, hl3, ht, h2, hnp, hp, h3, htd⟩ := hB
  have hn := hL.2.1
  unfold F_X12_number F_X12_number_31 numberF
  simp (maxSteps := 3000000) (disch := omega) only [f_isThing, f_in, ma_msa_n, ma_msa_s, mi_msi_n, mi_msi_s, ml_msl_n, ml_msl_s, ma_msi, ma_msl, mi_msa, mi_msl, ml_msa, ml_msi, msa_msa, msi_msi, msl_msl, ck_m, gf_s, gf_image, gf_truths, gf_knownRow, gf_daysRow, gf_bests, gf_nots, gf_lookeds, gf_bestsAt, gf_worths, gf_keptKnown, gf_keptDays, gf_round, gf_sums, gf_bestRound, gf_bodies, gf_thrown, gf_hasImage, gf_act, gf_spot, gf_size, gf_isWrong, gf_open, gf_edgeThing, gf_edgeMore, gf_stamp, gf_whose, gf_wage, gf_roundMany, gf_bestSet, gf_ran, gf_kind, gf_who, gf_tellsV, pf_thrown, pf_hasImage, pf_act, pf_spot, pf_size, pf_isWrong, pf_open, pf_edgeThing, pf_edgeMore, pf_stamp, pf_whose, pf_wage, pf_roundMany, pf_bestSet, pf_ran, pf_kind, pf_who, pf_tellsV, al_s, as_s, al_image, as_image, al_truths, as_truths0, as_truths1, al_knownRow, as_knownRow, al_daysRow, as_daysRow, al_bests, as_bests, al_nots, as_nots, al_lookeds, as_lookeds, al_bestsAt, as_bestsAt, al_worths, as_worths, al_keptKnown, as_keptKnown, al_keptDays, as_keptDays, al_round, as_round, al_sums, as_sums, al_bestRound, as_bestRound, al_bodies, as_bodies, cl_some, nm_b, nn_some, qn_some, qn_none, zk_0, zk_1, zk_n0, zk_n1, nI_add, pk_mul, pk_sub, nI_leE, nI_ltE, nI_eqE, nI_lt0, nI_ge0, nI_eq0, nI_gt0, nI_le0, ilt_t, ilt_f, ile_t, ile_f, ieq_t, ieq_f, if_tt, if_ff, Nat.add_sub_cancel]
  rw [hL.1]
  by_cases c1 : bIn t (nI 0) (nI nt - nI 1) = 0
  · rw [if_pos c1, if_pos c1]
    exact ⟨st, N, rfl, FrM.rf, hN, by omega⟩
  · rw [if_neg c1, if_neg c1]
    by_cases c3 : bIn n (nI 1) (nI 8) = 0
    · rw [if_pos c3, if_pos c3]
      exact ⟨st, N, rfl, FrM.rf, hN, by omega⟩
    · rw [if_neg c3, if_neg c3]
      obtain ⟨t, ht1, rfl⟩ := bIn_nI (by omega) c1
      obtain ⟨n, hn1, hn8, rfl⟩ := bIn_lh (by omega) (by omega) c3
      rw [nI_clamp (by omega), nI_clamp (by omega)]
      obtain ⟨st2, N2, e2, f2, n2, l2⟩ := f_numberOf (G := G) (b := b) (h0 := h0) (nx := nx) hn1 hn8 (ht t ht1) hN hb
      refine ⟨st2, N2, ?_, f2.mono (by decide), n2, l2⟩
      simp (maxSteps := 3000000) (disch := omega) only [e2, ma_msa_n, ma_msa_s, mi_msi_n, mi_msi_s, ml_msl_n, ml_msl_s, ma_msi, ma_msl, mi_msa, mi_msl, ml_msa, ml_msi, msa_msa, msi_msi, msl_msl, ck_m, gf_s, gf_image, gf_truths, gf_knownRow, gf_daysRow, gf_bests, gf_nots, gf_lookeds, gf_bestsAt, gf_worths, gf_keptKnown, gf_keptDays, gf_round, gf_sums, gf_bestRound, gf_bodies, gf_thrown, gf_hasImage, gf_act, gf_spot, gf_size, gf_isWrong, gf_open, gf_edgeThing, gf_edgeMore, gf_stamp, gf_whose, gf_wage, gf_roundMany, gf_bestSet, gf_ran, gf_kind, gf_who, gf_tellsV, pf_thrown, pf_hasImage, pf_act, pf_spot, pf_size, pf_isWrong, pf_open, pf_edgeThing, pf_edgeMore, pf_stamp, pf_whose, pf_wage, pf_roundMany, pf_bestSet, pf_ran, pf_kind, pf_who, pf_tellsV, al_s, as_s, al_image, as_image, al_truths, as_truths0, as_truths1, al_knownRow, as_knownRow, al_daysRow, as_daysRow, al_bests, as_bests, al_nots, as_nots, al_lookeds, as_lookeds, al_bestsAt, as_bestsAt, al_worths, as_worths, al_keptKnown, as_keptKnown, al_keptDays, as_keptDays, al_round, as_round, al_sums, as_sums, al_bestRound, as_bestRound, al_bodies, as_bodies, cl_some, nm_b, nn_some, qn_some, qn_none, zk_0, zk_1, zk_n0, zk_n1, nI_add, pk_mul, pk_sub, nI_leE, nI_ltE, nI_eqE, nI_lt0, nI_ge0, nI_eq0, nI_gt0, nI_le0, ilt_t, ilt_f, ile_t, ile_f, ieq_t, ieq_f, if_tt, if_ff, Nat.add_sub_cancel]
/-- is each wage from w on no worse -/
def suF (f : Nat → Bool) : Nat → Nat → Int32
  | _, 0 => nI 1
  | w, r + 1 => if f w = true then suF f (w + 1) r else nI 0
theorem srch_or (f : Nat → Bool) : ∀ (r w : Nat), srch f w r = -5 ∨ ∃ j : Nat, j < w + r ∧ srch f w r = nI j
  | 0, _ => Or.inl rfl
  | r + 1, w => by
    unfold srch
    by_cases c : f w = true
    · rw [if_pos c]
      exact Or.inr ⟨w, by omega, rfl⟩
    · rw [if_neg c]
      rcases srch_or f r (w + 1) with q | ⟨j, q1, q2⟩
      · exact Or.inl q
      · exact Or.inr ⟨j, by omega, q2⟩
set_option maxRecDepth 100000 in
set_option maxHeartbeats 4000000 in
theorem f_such44 {S : MS} {t n : Nat} (hn1 : 1 ≤ n) (hn : n ≤ 8) (ht : ThOk (ma S 1) t) : ∀ (r w N : Nat) (st1 : MS) (m : Nat), N + r < 2 ^ 31 → w + r = 201 → r < m → FrM KW S st1 → mi st1 19 = nI t → (∀ i, i < 27 → ma st1 12 i = (rowK S t (i / 9) (i % 9)).1) → StOk st1 N → ∃ (st' : MS) (N' : Nat), F_X12_such_44 G m (encM G b st1 h0) nx b (nI n) (nI w) = some (suF (fun w => nwF (rwS S t) t n (nI w)) w r, encM G b st' h0, nx) ∧ FrM KW S st' ∧ StOk st' N' ∧ N' ≤ N + r := by
  intro r
  induction r with
  | zero =>
    intro w N st1 m hb hr hm hF hw h12 hN
    obtain ⟨m, rfl⟩ : ∃ q, m = q + 1 := ⟨m - 1, by omega⟩
    have hw2 : w = 201 := by omega
    subst hw2
    refine ⟨st1, _, ?_, hF, hN, by omega⟩
    rw [F_X12_such_44_s]
    simp (maxSteps := 3000000) (disch := omega) only [ma_msa_n, ma_msa_s, mi_msi_n, mi_msi_s, ml_msl_n, ml_msl_s, ma_msi, ma_msl, mi_msa, mi_msl, ml_msa, ml_msi, msa_msa, msi_msi, msl_msl, ck_m, gf_s, gf_image, gf_truths, gf_knownRow, gf_daysRow, gf_bests, gf_nots, gf_lookeds, gf_bestsAt, gf_worths, gf_keptKnown, gf_keptDays, gf_round, gf_sums, gf_bestRound, gf_bodies, gf_thrown, gf_hasImage, gf_act, gf_spot, gf_size, gf_isWrong, gf_open, gf_edgeThing, gf_edgeMore, gf_stamp, gf_whose, gf_wage, gf_roundMany, gf_bestSet, gf_ran, gf_kind, gf_who, gf_tellsV, pf_thrown, pf_hasImage, pf_act, pf_spot, pf_size, pf_isWrong, pf_open, pf_edgeThing, pf_edgeMore, pf_stamp, pf_whose, pf_wage, pf_roundMany, pf_bestSet, pf_ran, pf_kind, pf_who, pf_tellsV, al_s, as_s, al_image, as_image, al_truths, as_truths0, as_truths1, al_knownRow, as_knownRow, al_daysRow, as_daysRow, al_bests, as_bests, al_nots, as_nots, al_lookeds, as_lookeds, al_bestsAt, as_bestsAt, al_worths, as_worths, al_keptKnown, as_keptKnown, al_keptDays, as_keptDays, al_round, as_round, al_sums, as_sums, al_bestRound, as_bestRound, al_bodies, as_bodies, cl_some, nm_b, nn_some, qn_some, qn_none, zk_0, zk_1, zk_n0, zk_n1, nI_add, pk_mul, pk_sub, nI_leE, nI_ltE, nI_eqE, nI_lt0, nI_ge0, nI_eq0, nI_gt0, nI_le0, ilt_t, ilt_f, ile_t, ile_f, ieq_t, ieq_f, if_tt, if_ff, Nat.add_sub_cancel]
    rfl
  | succ r ih =>
    intro w N st1 m hb hr hm hF hw h12 hN
    obtain ⟨m, rfl⟩ : ∃ q, m = q + 1 := ⟨m - 1, by omega⟩
    have e1 : ma st1 1 = ma S 1 := hF.ofa 1 (by decide)
    have hq := nwF_cg (n := n) (t := t) hn e1 h12 (nI w)
    obtain ⟨st2, e2, hF2, hN2⟩ := f_isNoWorse (G := G) (b := b) (h0 := h0) (nx := nx) (st := st1) (w := nI w) (N := N) hn1 hn (by rw [e1]; exact ht) hw hN (by omega)
    rw [hq] at e2
    have es : suF (fun w => nwF (rwS S t) t n (nI w)) w (r + 1) = if nwF (rwS S t) t n (nI w) = true then suF (fun w => nwF (rwS S t) t n (nI w)) (w + 1) r else nI 0 := rfl
    rw [F_X12_such_44_s, es]
    simp (maxSteps := 3000000) (disch := omega) only [e2, ma_msa_n, ma_msa_s, mi_msi_n, mi_msi_s, ml_msl_n, ml_msl_s, ma_msi, ma_msl, mi_msa, mi_msl, ml_msa, ml_msi, msa_msa, msi_msi, msl_msl, ck_m, gf_s, gf_image, gf_truths, gf_knownRow, gf_daysRow, gf_bests, gf_nots, gf_lookeds, gf_bestsAt, gf_worths, gf_keptKnown, gf_keptDays, gf_round, gf_sums, gf_bestRound, gf_bodies, gf_thrown, gf_hasImage, gf_act, gf_spot, gf_size, gf_isWrong, gf_open, gf_edgeThing, gf_edgeMore, gf_stamp, gf_whose, gf_wage, gf_roundMany, gf_bestSet, gf_ran, gf_kind, gf_who, gf_tellsV, pf_thrown, pf_hasImage, pf_act, pf_spot, pf_size, pf_isWrong, pf_open, pf_edgeThing, pf_edgeMore, pf_stamp, pf_whose, pf_wage, pf_roundMany, pf_bestSet, pf_ran, pf_kind, pf_who, pf_tellsV, al_s, as_s, al_image, as_image, al_truths, as_truths0, as_truths1, al_knownRow, as_knownRow, al_daysRow, as_daysRow, al_bests, as_bests, al_nots, as_nots, al_lookeds, as_lookeds, al_bestsAt, as_bestsAt, al_worths, as_worths, al_keptKnown, as_keptKnown, al_keptDays, as_keptDays, al_round, as_round, al_sums, as_sums, al_bestRound, as_bestRound, al_bodies, as_bodies, cl_some, nm_b, nn_some, qn_some, qn_none, zk_0, zk_1, zk_n0, zk_n1, nI_add, pk_mul, pk_sub, nI_leE, nI_ltE, nI_eqE, nI_lt0, nI_ge0, nI_eq0, nI_gt0, nI_le0, ilt_t, ilt_f, ile_t, ile_f, ieq_t, ieq_f, if_tt, if_ff, Nat.add_sub_cancel]
    cases hc : nwF (rwS S t) t n (nI w) with
    | false =>
      rw [if_pos (show b2i false = 0 from rfl), if_neg (show ¬ false = true by decide)]
      exact ⟨st2, _, rfl, (hF.trans hF2).mono (by decide), hN2, by omega⟩
    | true =>
      rw [if_neg (show ¬ b2i true = 0 by decide), if_pos rfl]
      obtain ⟨st3, N3, q1, q2, q3, q4⟩ := ih (w + 1) (N + 1) st2 m (by omega) (by omega) (by omega) ((hF.trans hF2).mono (by decide)) ((hF2.of1 19 (by decide)).trans hw) (fun i hi => by rw [hF2.ofa 12 (by decide)]; exact h12 i hi) hN2
      exact ⟨st3, N3, q1, q2, q3, by omega⟩
def suchF (S : MS) (t n : Int32) : Int32 := if bIn t (nI 0) (ma S 1 1 - nI 1) = 0 then -1 else if bIn n (nI 1) (nI 8) = 0 then -2 else if nmF S t.toNatClampNeg n.toNatClampNeg = -5 then -5 else suF (fun w => nwF (rwS S t.toNatClampNeg) t.toNatClampNeg n.toNatClampNeg (nI w)) ((nmF S t.toNatClampNeg n.toNatClampNeg).toNatClampNeg + 1) (200 - (nmF S t.toNatClampNeg n.toNatClampNeg).toNatClampNeg)
set_option maxRecDepth 100000 in
set_option maxHeartbeats 4000000 in
theorem f_such {st : MS} {nt np lk td N : Nat} (hB : BOk st nt np lk td) (hN : StOk st N) (hb : N + 603 < 2 ^ 31) (t n : Int32) : ∃ (st' : MS) (N' : Nat), F_X12_such G (encM G b st h0) nx b t n = some (suchF st t n, encM G b st' h0, nx) ∧ FrM KX st st' ∧ StOk st' N' ∧ N' ≤ N + 603 := by
  obtain ⟨hL, hl3, ht, h2, hnp, hp, h3, htd⟩ := hB
  have hn := hL.2.1
  unfold F_X12_such suchF
  simp (maxSteps := 3000000) (disch := omega) only [f_isThing, f_in, ma_msa_n, ma_msa_s, mi_msi_n, mi_msi_s, ml_msl_n, ml_msl_s, ma_msi, ma_msl, mi_msa, mi_msl, ml_msa, ml_msi, msa_msa, msi_msi, msl_msl, ck_m, gf_s, gf_image, gf_truths, gf_knownRow, gf_daysRow, gf_bests, gf_nots, gf_lookeds, gf_bestsAt, gf_worths, gf_keptKnown, gf_keptDays, gf_round, gf_sums, gf_bestRound, gf_bodies, gf_thrown, gf_hasImage, gf_act, gf_spot, gf_size, gf_isWrong, gf_open, gf_edgeThing, gf_edgeMore, gf_stamp, gf_whose, gf_wage, gf_roundMany, gf_bestSet, gf_ran, gf_kind, gf_who, gf_tellsV, pf_thrown, pf_hasImage, pf_act, pf_spot, pf_size, pf_isWrong, pf_open, pf_edgeThing, pf_edgeMore, pf_stamp, pf_whose, pf_wage, pf_roundMany, pf_bestSet, pf_ran, pf_kind, pf_who, pf_tellsV, al_s, as_s, al_image, as_image, al_truths, as_truths0, as_truths1, al_knownRow, as_knownRow, al_daysRow, as_daysRow, al_bests, as_bests, al_nots, as_nots, al_lookeds, as_lookeds, al_bestsAt, as_bestsAt, al_worths, as_worths, al_keptKnown, as_keptKnown, al_keptDays, as_keptDays, al_round, as_round, al_sums, as_sums, al_bestRound, as_bestRound, al_bodies, as_bodies, cl_some, nm_b, nn_some, qn_some, qn_none, zk_0, zk_1, zk_n0, zk_n1, nI_add, pk_mul, pk_sub, nI_leE, nI_ltE, nI_eqE, nI_lt0, nI_ge0, nI_eq0, nI_gt0, nI_le0, ilt_t, ilt_f, ile_t, ile_f, ieq_t, ieq_f, if_tt, if_ff, Nat.add_sub_cancel]
  rw [hL.1]
  by_cases c1 : bIn t (nI 0) (nI nt - nI 1) = 0
  · rw [if_pos c1, if_pos c1]
    exact ⟨st, N, rfl, FrM.rf, hN, by omega⟩
  · rw [if_neg c1, if_neg c1]
    by_cases c3 : bIn n (nI 1) (nI 8) = 0
    · rw [if_pos c3, if_pos c3]
      exact ⟨st, N, rfl, FrM.rf, hN, by omega⟩
    · rw [if_neg c3, if_neg c3]
      obtain ⟨t, ht1, rfl⟩ := bIn_nI (by omega) c1
      obtain ⟨n, hn1, hn8, rfl⟩ := bIn_lh (by omega) (by omega) c3
      rw [nI_clamp (show t < 2 ^ 31 by omega), nI_clamp (show n < 2 ^ 31 by omega)]
      obtain ⟨st2, N2, e2, f2, n2, l2, w2, r2⟩ := f_numberW (G := G) (b := b) (h0 := h0) (nx := nx) hn1 hn8 (ht t ht1) hN (by omega)
      have hor : nmF st t n = -5 ∨ ∃ j : Nat, j < 0 + 201 ∧ nmF st t n = nI j := srch_or _ 201 0
      rcases hor with q | ⟨j, q1, q2⟩
      · rw [q] at e2 ⊢
        refine ⟨st2, N2, ?_, f2.mono (by decide), n2, by omega⟩
        simp (maxSteps := 3000000) (disch := omega) only [e2, ma_msa_n, ma_msa_s, mi_msi_n, mi_msi_s, ml_msl_n, ml_msl_s, ma_msi, ma_msl, mi_msa, mi_msl, ml_msa, ml_msi, msa_msa, msi_msi, msl_msl, ck_m, gf_s, gf_image, gf_truths, gf_knownRow, gf_daysRow, gf_bests, gf_nots, gf_lookeds, gf_bestsAt, gf_worths, gf_keptKnown, gf_keptDays, gf_round, gf_sums, gf_bestRound, gf_bodies, gf_thrown, gf_hasImage, gf_act, gf_spot, gf_size, gf_isWrong, gf_open, gf_edgeThing, gf_edgeMore, gf_stamp, gf_whose, gf_wage, gf_roundMany, gf_bestSet, gf_ran, gf_kind, gf_who, gf_tellsV, pf_thrown, pf_hasImage, pf_act, pf_spot, pf_size, pf_isWrong, pf_open, pf_edgeThing, pf_edgeMore, pf_stamp, pf_whose, pf_wage, pf_roundMany, pf_bestSet, pf_ran, pf_kind, pf_who, pf_tellsV, al_s, as_s, al_image, as_image, al_truths, as_truths0, as_truths1, al_knownRow, as_knownRow, al_daysRow, as_daysRow, al_bests, as_bests, al_nots, as_nots, al_lookeds, as_lookeds, al_bestsAt, as_bestsAt, al_worths, as_worths, al_keptKnown, as_keptKnown, al_keptDays, as_keptDays, al_round, as_round, al_sums, as_sums, al_bestRound, as_bestRound, al_bodies, as_bodies, cl_some, nm_b, nn_some, qn_some, qn_none, zk_0, zk_1, zk_n0, zk_n1, nI_add, pk_mul, pk_sub, nI_leE, nI_ltE, nI_eqE, nI_lt0, nI_ge0, nI_eq0, nI_gt0, nI_le0, ilt_t, ilt_f, ile_t, ile_f, ieq_t, ieq_f, if_tt, if_ff, Nat.add_sub_cancel]
      · rw [q2] at e2 ⊢
        rw [if_neg (ne_m5 (show j < 2 ^ 31 by omega)), nI_clamp (by omega)]
        obtain ⟨st3, N3, e3, f3, n3, l3⟩ := f_such44 (G := G) (b := b) (h0 := h0) (nx := nx) (S := st) hn1 hn8 (ht t ht1) (200 - j) (j + 1) N2 st2 fuelL (by omega) (by omega) (by unfold fuelL; omega) f2 w2 r2 n2
        refine ⟨st3, N3, ?_, f3.mono (by decide), n3, by omega⟩
        simp (maxSteps := 3000000) (disch := omega) only [e2, ma_msa_n, ma_msa_s, mi_msi_n, mi_msi_s, ml_msl_n, ml_msl_s, ma_msi, ma_msl, mi_msa, mi_msl, ml_msa, ml_msi, msa_msa, msi_msi, msl_msl, ck_m, gf_s, gf_image, gf_truths, gf_knownRow, gf_daysRow, gf_bests, gf_nots, gf_lookeds, gf_bestsAt, gf_worths, gf_keptKnown, gf_keptDays, gf_round, gf_sums, gf_bestRound, gf_bodies, gf_thrown, gf_hasImage, gf_act, gf_spot, gf_size, gf_isWrong, gf_open, gf_edgeThing, gf_edgeMore, gf_stamp, gf_whose, gf_wage, gf_roundMany, gf_bestSet, gf_ran, gf_kind, gf_who, gf_tellsV, pf_thrown, pf_hasImage, pf_act, pf_spot, pf_size, pf_isWrong, pf_open, pf_edgeThing, pf_edgeMore, pf_stamp, pf_whose, pf_wage, pf_roundMany, pf_bestSet, pf_ran, pf_kind, pf_who, pf_tellsV, al_s, as_s, al_image, as_image, al_truths, as_truths0, as_truths1, al_knownRow, as_knownRow, al_daysRow, as_daysRow, al_bests, as_bests, al_nots, as_nots, al_lookeds, as_lookeds, al_bestsAt, as_bestsAt, al_worths, as_worths, al_keptKnown, as_keptKnown, al_keptDays, as_keptDays, al_round, as_round, al_sums, as_sums, al_bestRound, as_bestRound, al_bodies, as_bodies, cl_some, nm_b, nn_some, qn_some, qn_none, zk_0, zk_1, zk_n0, zk_n1, nI_add, pk_mul, pk_sub, nI_leE, nI_ltE, nI_eqE, nI_lt0, nI_ge0, nI_eq0, nI_gt0, nI_le0, ilt_t, ilt_f, ile_t, ile_f, ieq_t, ieq_f, if_tt, if_ff, Nat.add_sub_cancel]
        rw [if_neg (ne_m5 (show j < 2 ^ 31 by omega))]
        exact e3
def toldF (S : MS) (a d k w : Int32) : Int32 := if bIn a (nI 0) (ma S 1 0 - nI 1) = 0 then -1 else if bIn w (nI 0) (nI 5) = 0 then -1 else if bIn d (nI 0) (nI 999) = 0 then -2 else if bIn k (nI 0) (nI 99) = 0 then -2 else if nI 2 ≤ w then ma S 1 (140 + 4 * a.toNatClampNeg + w.toNatClampNeg - 2) else sumF (ma S 1) a.toNatClampNeg w d k
set_option maxRecDepth 100000 in
set_option maxHeartbeats 4000000 in
theorem f_told {st : MS} {ns : Nat} (hS : SOk st ns) (a d k w : Int32) : ∃ (st' : MS), F_X12_told G (encM G b st h0) nx b a d k w = some (toldF st a d k w, encM G b st' h0, nx) ∧ FrM [9] st st' := by
  obtain ⟨h0', hn6, hc⟩ := hS
  unfold F_X12_told F_X12_told_18 F_X12_told_41 F_X12_told_79 toldF
  simp (maxSteps := 3000000) (disch := omega) only [f_isSort, f_in, ma_msa_n, ma_msa_s, mi_msi_n, mi_msi_s, ml_msl_n, ml_msl_s, ma_msi, ma_msl, mi_msa, mi_msl, ml_msa, ml_msi, msa_msa, msi_msi, msl_msl, ck_m, gf_s, gf_image, gf_truths, gf_knownRow, gf_daysRow, gf_bests, gf_nots, gf_lookeds, gf_bestsAt, gf_worths, gf_keptKnown, gf_keptDays, gf_round, gf_sums, gf_bestRound, gf_bodies, gf_thrown, gf_hasImage, gf_act, gf_spot, gf_size, gf_isWrong, gf_open, gf_edgeThing, gf_edgeMore, gf_stamp, gf_whose, gf_wage, gf_roundMany, gf_bestSet, gf_ran, gf_kind, gf_who, gf_tellsV, pf_thrown, pf_hasImage, pf_act, pf_spot, pf_size, pf_isWrong, pf_open, pf_edgeThing, pf_edgeMore, pf_stamp, pf_whose, pf_wage, pf_roundMany, pf_bestSet, pf_ran, pf_kind, pf_who, pf_tellsV, al_s, as_s, al_image, as_image, al_truths, as_truths0, as_truths1, al_knownRow, as_knownRow, al_daysRow, as_daysRow, al_bests, as_bests, al_nots, as_nots, al_lookeds, as_lookeds, al_bestsAt, as_bestsAt, al_worths, as_worths, al_keptKnown, as_keptKnown, al_keptDays, as_keptDays, al_round, as_round, al_sums, as_sums, al_bestRound, as_bestRound, al_bodies, as_bodies, cl_some, nm_b, nn_some, qn_some, qn_none, zk_0, zk_1, zk_n0, zk_n1, nI_add, pk_mul, pk_sub, nI_leE, nI_ltE, nI_eqE, nI_lt0, nI_ge0, nI_eq0, nI_gt0, nI_le0, ilt_t, ilt_f, ile_t, ile_f, ieq_t, ieq_f, if_tt, if_ff, Nat.add_sub_cancel]
  rw [h0']
  by_cases c1 : bIn a (nI 0) (nI ns - nI 1) = 0
  · rw [if_pos c1, if_pos c1]
    exact ⟨st, rfl, FrM.rf⟩
  · rw [if_neg c1, if_neg c1]
    by_cases c2 : bIn w (nI 0) (nI 5) = 0
    · rw [if_pos c2, if_pos c2]
      exact ⟨st, rfl, FrM.rf⟩
    · rw [if_neg c2, if_neg c2]
      by_cases c3 : bIn d (nI 0) (nI 999) = 0
      · rw [if_pos c3, if_pos c3]
        exact ⟨st, rfl, FrM.rf⟩
      · rw [if_neg c3, if_neg c3]
        by_cases c4 : bIn k (nI 0) (nI 99) = 0
        · rw [if_pos c4, if_pos c4]
          exact ⟨st, rfl, FrM.rf⟩
        · rw [if_neg c4, if_neg c4]
          obtain ⟨a, ha1, rfl⟩ := bIn_nI (by omega) c1
          obtain ⟨w, hw1, hw8, rfl⟩ := bIn_lh (by omega) (by omega) c2
          rw [nI_clamp (by omega), nI_clamp (by omega)]
          simp (maxSteps := 3000000) (disch := omega) only [ma_msa_n, ma_msa_s, mi_msi_n, mi_msi_s, ml_msl_n, ml_msl_s, ma_msi, ma_msl, mi_msa, mi_msl, ml_msa, ml_msi, msa_msa, msi_msi, msl_msl, ck_m, gf_s, gf_image, gf_truths, gf_knownRow, gf_daysRow, gf_bests, gf_nots, gf_lookeds, gf_bestsAt, gf_worths, gf_keptKnown, gf_keptDays, gf_round, gf_sums, gf_bestRound, gf_bodies, gf_thrown, gf_hasImage, gf_act, gf_spot, gf_size, gf_isWrong, gf_open, gf_edgeThing, gf_edgeMore, gf_stamp, gf_whose, gf_wage, gf_roundMany, gf_bestSet, gf_ran, gf_kind, gf_who, gf_tellsV, pf_thrown, pf_hasImage, pf_act, pf_spot, pf_size, pf_isWrong, pf_open, pf_edgeThing, pf_edgeMore, pf_stamp, pf_whose, pf_wage, pf_roundMany, pf_bestSet, pf_ran, pf_kind, pf_who, pf_tellsV, al_s, as_s, al_image, as_image, al_truths, as_truths0, as_truths1, al_knownRow, as_knownRow, al_daysRow, as_daysRow, al_bests, as_bests, al_nots, as_nots, al_lookeds, as_lookeds, al_bestsAt, as_bestsAt, al_worths, as_worths, al_keptKnown, as_keptKnown, al_keptDays, as_keptDays, al_round, as_round, al_sums, as_sums, al_bestRound, as_bestRound, al_bodies, as_bodies, cl_some, nm_b, nn_some, qn_some, qn_none, zk_0, zk_1, zk_n0, zk_n1, nI_add, pk_mul, pk_sub, nI_leE, nI_ltE, nI_eqE, nI_lt0, nI_ge0, nI_eq0, nI_gt0, nI_le0, ilt_t, ilt_f, ile_t, ile_f, ieq_t, ieq_f, if_tt, if_ff, Nat.add_sub_cancel]
          by_cases c5 : 2 ≤ w
          · rw [if_pos c5, if_pos c5]
            refine ⟨st, ?_, FrM.rf⟩
            simp (maxSteps := 3000000) (disch := omega) only [ma_msa_n, ma_msa_s, mi_msi_n, mi_msi_s, ml_msl_n, ml_msl_s, ma_msi, ma_msl, mi_msa, mi_msl, ml_msa, ml_msi, msa_msa, msi_msi, msl_msl, ck_m, gf_s, gf_image, gf_truths, gf_knownRow, gf_daysRow, gf_bests, gf_nots, gf_lookeds, gf_bestsAt, gf_worths, gf_keptKnown, gf_keptDays, gf_round, gf_sums, gf_bestRound, gf_bodies, gf_thrown, gf_hasImage, gf_act, gf_spot, gf_size, gf_isWrong, gf_open, gf_edgeThing, gf_edgeMore, gf_stamp, gf_whose, gf_wage, gf_roundMany, gf_bestSet, gf_ran, gf_kind, gf_who, gf_tellsV, pf_thrown, pf_hasImage, pf_act, pf_spot, pf_size, pf_isWrong, pf_open, pf_edgeThing, pf_edgeMore, pf_stamp, pf_whose, pf_wage, pf_roundMany, pf_bestSet, pf_ran, pf_kind, pf_who, pf_tellsV, al_s, as_s, al_image, as_image, al_truths, as_truths0, as_truths1, al_knownRow, as_knownRow, al_daysRow, as_daysRow, al_bests, as_bests, al_nots, as_nots, al_lookeds, as_lookeds, al_bestsAt, as_bestsAt, al_worths, as_worths, al_keptKnown, as_keptKnown, al_keptDays, as_keptDays, al_round, as_round, al_sums, as_sums, al_bestRound, as_bestRound, al_bodies, as_bodies, cl_some, nm_b, nn_some, qn_some, qn_none, zk_0, zk_1, zk_n0, zk_n1, nI_add, pk_mul, pk_sub, nI_leE, nI_ltE, nI_eqE, nI_lt0, nI_ge0, nI_eq0, nI_gt0, nI_le0, ilt_t, ilt_f, ile_t, ile_f, ieq_t, ieq_f, if_tt, if_ff, Nat.add_sub_cancel]
          · rw [if_neg c5, if_neg c5]
            obtain ⟨tr, e⟩ := f_summed (G := G) (b := b) (h0 := h0) (nx := nx) (st := st) (a := a) (w := nI w) (dd := d) (k := k) (by omega) (hc a ha1)
            refine ⟨msa st 9 tr, ?_, FrM.msa (k := 9) (ks := [9]) (by decide)⟩
            simp (maxSteps := 3000000) (disch := omega) only [e, ma_msa_n, ma_msa_s, mi_msi_n, mi_msi_s, ml_msl_n, ml_msl_s, ma_msi, ma_msl, mi_msa, mi_msl, ml_msa, ml_msi, msa_msa, msi_msi, msl_msl, ck_m, gf_s, gf_image, gf_truths, gf_knownRow, gf_daysRow, gf_bests, gf_nots, gf_lookeds, gf_bestsAt, gf_worths, gf_keptKnown, gf_keptDays, gf_round, gf_sums, gf_bestRound, gf_bodies, gf_thrown, gf_hasImage, gf_act, gf_spot, gf_size, gf_isWrong, gf_open, gf_edgeThing, gf_edgeMore, gf_stamp, gf_whose, gf_wage, gf_roundMany, gf_bestSet, gf_ran, gf_kind, gf_who, gf_tellsV, pf_thrown, pf_hasImage, pf_act, pf_spot, pf_size, pf_isWrong, pf_open, pf_edgeThing, pf_edgeMore, pf_stamp, pf_whose, pf_wage, pf_roundMany, pf_bestSet, pf_ran, pf_kind, pf_who, pf_tellsV, al_s, as_s, al_image, as_image, al_truths, as_truths0, as_truths1, al_knownRow, as_knownRow, al_daysRow, as_daysRow, al_bests, as_bests, al_nots, as_nots, al_lookeds, as_lookeds, al_bestsAt, as_bestsAt, al_worths, as_worths, al_keptKnown, as_keptKnown, al_keptDays, as_keptDays, al_round, as_round, al_sums, as_sums, al_bestRound, as_bestRound, al_bodies, as_bodies, cl_some, nm_b, nn_some, qn_some, qn_none, zk_0, zk_1, zk_n0, zk_n1, nI_add, pk_mul, pk_sub, nI_leE, nI_ltE, nI_eqE, nI_lt0, nI_ge0, nI_eq0, nI_gt0, nI_le0, ilt_t, ilt_f, ile_t, ile_f, ieq_t, ieq_f, if_tt, if_ff, Nat.add_sub_cancel]
end N7
