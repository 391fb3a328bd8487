set_option maxRecDepth 100000 in
set_option maxHeartbeats 4000000 in
theorem f_looks4 {G : Gx} {b : Nat} {h0 : Hp} {nx : Nat} {S0 : MS} {nt left dd w M0 : Nat} {pl set : Int32} {V : (Nat → Int32) → Int64} (h1 : ma S0 1 1 = nI nt) (hn : nt ≤ 8) (ht : ∀ t, t < nt → ThOk (ma S0 1) t) (hl1 : 1 ≤ left) (hl : left ≤ 3) (hC : 2 ≤ left → ∀ m, M0 ≤ m → Pm G b h0 nx nt (F_X12_meanFrom G m) pl (dd + 1) (left - 1) V S0 w) : ∀ (r t m q : Nat) (st : MS) (N : Nat), t + r = nt → r < q → M0 + r ≤ m → MS0 nt S0 st → StOk st N → N + w * lvG nt set r < 2 ^ 31 → ∃ (st' : MS) (N' : Nat), F_X12_looksFrom_4 G (F_X12_looksFrom G m) (F_X12_meanFrom G m) q (encM G b st h0) nx b pl (nI dd) (nI left) set (nI t) = some (loG nt set (fun s => if left = 1 then 0 else V (ovP S0 s nt)) r (ma st 1), encM G b st' h0, nx) ∧ MLk left nt st st' N N' (w * lvG nt set r) := by
  intro r
  induction r with
  | zero =>
    intro t m q st N hr hq hm hS hN hb
    obtain ⟨q, rfl⟩ : ∃ z, q = z + 1 := ⟨q - 1, by omega⟩
    have hr : t = nt := by omega
    subst hr
    have a1 : ma st 1 1 = nI t := by rw [hS.2 1 (by omega)]; exact h1
    rw [F_X12_looksFrom_4_s]
    simp (maxSteps := 3000000) (disch := omega) only [a1, ma_msa_n, ma_msa_s, mi_msi_n, mi_msi_s, ml_msl_n, ml_msl_s, ma_msi, ma_msl, mi_msa, mi_msl, ml_msa, ml_msi, msa_msa, msi_msi, msl_msl, ck_m, gf_s, gf_image, gf_truths, gf_knownRow, gf_daysRow, gf_bests, gf_nots, gf_lookeds, gf_bestsAt, gf_worths, gf_keptKnown, gf_keptDays, gf_round, gf_sums, gf_bestRound, gf_bodies, gf_thrown, gf_hasImage, gf_act, gf_spot, gf_size, gf_isWrong, gf_open, gf_edgeThing, gf_edgeMore, gf_stamp, gf_whose, gf_wage, gf_roundMany, gf_bestSet, gf_ran, gf_kind, gf_who, gf_tellsV, pf_thrown, pf_hasImage, pf_act, pf_spot, pf_size, pf_isWrong, pf_open, pf_edgeThing, pf_edgeMore, pf_stamp, pf_whose, pf_wage, pf_roundMany, pf_bestSet, pf_ran, pf_kind, pf_who, pf_tellsV, al_s, as_s, al_image, as_image, al_truths, as_truths0, as_truths1, al_knownRow, as_knownRow, al_daysRow, as_daysRow, al_bests, as_bests, al_nots, as_nots, al_lookeds, as_lookeds, al_bestsAt, as_bestsAt, al_worths, as_worths, al_keptKnown, as_keptKnown, al_keptDays, as_keptDays, al_round, as_round, al_sums, as_sums, al_bestRound, as_bestRound, al_bodies, as_bodies, cl_some, nm_b, nn_some, qn_some, qn_none, zk_0, zk_1, zk_n0, zk_n1, nI_add, pk_mul, pk_sub, nI_leE, nI_ltE, nI_eqE, nI_lt0, nI_ge0, nI_eq0, nI_gt0, nI_le0, ilt_t, ilt_f, ile_t, ile_f, ieq_t, ieq_f, if_tt, if_ff, Nat.add_sub_cancel]
    have hw : w * lvG t set 0 = w := Nat.mul_one w
    rw [hw] at hb ⊢
    exact f_looks_end h1 hn ht hl1 hl (fun h2 => hC h2 m (by omega)) st N hS hN hb
  | succ r ih =>
    intro t m q st N hr hq hm hS hN hb
    obtain ⟨q, rfl⟩ : ∃ z, q = z + 1 := ⟨q - 1, by omega⟩
    have a1 : ma st 1 1 = nI nt := by rw [hS.2 1 (by omega)]; exact h1
    have htn : nt - (r + 1) = t := by omega
    have t8 : t < nt := by omega
    have hts : ThOk (ma st 1) t := ThOk_ag (hS.2.ag hn) (ht t t8)
    rw [F_X12_looksFrom_4_s]
    simp (maxSteps := 3000000) (disch := omega) only [a1, ma_msa_n, ma_msa_s, mi_msi_n, mi_msi_s, ml_msl_n, ml_msl_s, ma_msi, ma_msl, mi_msa, mi_msl, ml_msa, ml_msi, msa_msa, msi_msi, msl_msl, ck_m, gf_s, gf_image, gf_truths, gf_knownRow, gf_daysRow, gf_bests, gf_nots, gf_lookeds, gf_bestsAt, gf_worths, gf_keptKnown, gf_keptDays, gf_round, gf_sums, gf_bestRound, gf_bodies, gf_thrown, gf_hasImage, gf_act, gf_spot, gf_size, gf_isWrong, gf_open, gf_edgeThing, gf_edgeMore, gf_stamp, gf_whose, gf_wage, gf_roundMany, gf_bestSet, gf_ran, gf_kind, gf_who, gf_tellsV, pf_thrown, pf_hasImage, pf_act, pf_spot, pf_size, pf_isWrong, pf_open, pf_edgeThing, pf_edgeMore, pf_stamp, pf_whose, pf_wage, pf_roundMany, pf_bestSet, pf_ran, pf_kind, pf_who, pf_tellsV, al_s, as_s, al_image, as_image, al_truths, as_truths0, as_truths1, al_knownRow, as_knownRow, al_daysRow, as_daysRow, al_bests, as_bests, al_nots, as_nots, al_lookeds, as_lookeds, al_bestsAt, as_bestsAt, al_worths, as_worths, al_keptKnown, as_keptKnown, al_keptDays, as_keptDays, al_round, as_round, al_sums, as_sums, al_bestRound, as_bestRound, al_bodies, as_bodies, cl_some, nm_b, nn_some, qn_some, qn_none, zk_0, zk_1, zk_n0, zk_n1, nI_add, pk_mul, pk_sub, nI_leE, nI_ltE, nI_eqE, nI_lt0, nI_ge0, nI_eq0, nI_gt0, nI_le0, ilt_t, ilt_f, ile_t, ile_f, ieq_t, ieq_f, if_tt, if_ff, Nat.add_sub_cancel]
    by_cases c : bitI set t = 0
    · have c' : set >>> (nI t &&& 31) &&& nI 1 = 0 := c
      have e1 : loG nt set (fun s => if left = 1 then 0 else V (ovP S0 s nt)) (r + 1) (ma st 1) = loG nt set (fun s => if left = 1 then 0 else V (ovP S0 s nt)) r (ma st 1) := by
        show (if bitI set (nt - (r + 1)) = 0 then _ else _) = _
        rw [htn, if_pos c]
      have e2 : lvG nt set (r + 1) = lvG nt set r := by
        show (if bitI set (nt - (r + 1)) = 0 then _ else _) = _
        rw [htn, if_pos c]
      rw [if_pos c', e1, e2]
      rw [e2] at hb
      exact ih (t + 1) m q st N (by omega) (by omega) (by omega) hS hN hb
    · have c' : ¬ set >>> (nI t &&& 31) &&& nI 1 = 0 := c
      have e2 : lvG nt set (r + 1) = 2 * lvG nt set r := by
        show (if bitI set (nt - (r + 1)) = 0 then _ else _) = _
        rw [htn, if_neg c]
      have ew : w * lvG nt set (r + 1) = 2 * (w * lvG nt set r) := by rw [e2, Nat.mul_left_comm]
      rw [ew] at hb ⊢
      generalize hW : w * lvG nt set r = W at hb ih ⊢
      rw [if_neg c']
      have key : ∀ (st : MS) (N : Nat), MS0 nt S0 st → StOk st N → N + W < 2 ^ 31 → ∃ (st' : MS) (N' : Nat), F_X12_looksFrom G m (encM G b st h0) nx b pl (nI dd) (nI left) set (nI (t + 1)) = some (loG nt set (fun s => if left = 1 then 0 else V (ovP S0 s nt)) r (ma st 1), encM G b st' h0, nx) ∧ MLk left nt st st' N N' W := by
        intro st N hS hN hb
        obtain ⟨m', rfl⟩ : ∃ z, m = z + 1 := ⟨m - 1, by omega⟩
        rw [F_X12_looksFrom_s]
        unfold B_X12_looksFrom
        exact ih (t + 1) m' fuelL st N (by omega) (by unfold fuelL; omega) (by omega) hS hN hb
      have e1 : loG nt set (fun s => if left = 1 then 0 else V (ovP S0 s nt)) (r + 1) (ma st 1) = (let well := loG nt set (fun s => if left = 1 then 0 else V (ovP S0 s nt)) r (upK (upK (ma st 1) (1034 + t) (nI 1000000)) (1042 + t) (nI 0))
          let ill := if valF (ma st 1) t 3 ≤ 0 then loG nt set (fun s => if left = 1 then 0 else V (ovP S0 s nt)) r (upK (upK (ma st 1) (1034 + t) (nI 0)) (1042 + t) (nI 0)) else well - 1000 * (valF (ma st 1) t 3).toInt64
          ((ma st 1 (1034 + t)).toInt64 * well + (nI 1000000 - ma st 1 (1034 + t)).toInt64 * ill) / 1000000 - 1000 * (valF (ma st 1) t 2).toInt64) := by
        show (if bitI set (nt - (r + 1)) = 0 then _ else _) = _
        rw [htn, if_neg c]
      rw [e1]
      clear e1
      generalize hkn : ma st 1 (1034 + t) = kn
      generalize hds : ma st 1 (1042 + t) = ds
      have fX1 : FX st (msa st 1 (upK (upK (ma st 1) (1034 + t) (nI 1000000)) (1042 + t) (nI 0))) := FX.up1
      have gX1 : AgN nt (ma st 1) (upK (upK (ma st 1) (1034 + t) (nI 1000000)) (1042 + t) (nI 0)) := (AgN.up1 t8 hn).trans (AgN.up2 t8 hn)
      obtain ⟨st2, N2, x2, m2⟩ := key (msa st 1 (upK (upK (ma st 1) (1034 + t) (nI 1000000)) (1042 + t) (nI 0))) N (hS.mk fX1 (by rw [ma_msa_s]; exact gX1)) (StOk_fr (FrM.msa (k := 1) (ks := [1]) (by decide)) (by decide) (by decide) hN) (by omega)
      rw [ma_msa_s] at x2
      have s2 : ma st2 1 = upK (upK (ma st 1) (1034 + t) (nI 1000000)) (1042 + t) (nI 0) := (m2.1.ofa 1 (by decide)).trans ma_msa_s
      have F2 : FX st st2 := fX1.trans (FX.of m2.1)
      have o2 : ∀ i : Nat, 8 * (left + 1) ≤ i → ma st2 22 i = ma st 22 i ∧ ma st2 23 i = ma st 23 i := m2.2.2.2
      unfold F_X12_looksFrom_31
      simp (maxSteps := 3000000) (disch := omega) only [a1, f_value hts (show 3 < 4 by decide), x2, hkn, hds, ma_msa_n, ma_msa_s, mi_msi_n, mi_msi_s, ml_msl_n, ml_msl_s, ma_msi, ma_msl, mi_msa, mi_msl, ml_msa, ml_msi, msa_msa, msi_msi, msl_msl, ck_m, gf_s, gf_image, gf_truths, gf_knownRow, gf_daysRow, gf_bests, gf_nots, gf_lookeds, gf_bestsAt, gf_worths, gf_keptKnown, gf_keptDays, gf_round, gf_sums, gf_bestRound, gf_bodies, gf_thrown, gf_hasImage, gf_act, gf_spot, gf_size, gf_isWrong, gf_open, gf_edgeThing, gf_edgeMore, gf_stamp, gf_whose, gf_wage, gf_roundMany, gf_bestSet, gf_ran, gf_kind, gf_who, gf_tellsV, pf_thrown, pf_hasImage, pf_act, pf_spot, pf_size, pf_isWrong, pf_open, pf_edgeThing, pf_edgeMore, pf_stamp, pf_whose, pf_wage, pf_roundMany, pf_bestSet, pf_ran, pf_kind, pf_who, pf_tellsV, al_s, as_s, al_image, as_image, al_truths, as_truths0, as_truths1, al_knownRow, as_knownRow, al_daysRow, as_daysRow, al_bests, as_bests, al_nots, as_nots, al_lookeds, as_lookeds, al_bestsAt, as_bestsAt, al_worths, as_worths, al_keptKnown, as_keptKnown, al_keptDays, as_keptDays, al_round, as_round, al_sums, as_sums, al_bestRound, as_bestRound, al_bodies, as_bodies, cl_some, nm_b, nn_some, qn_some, qn_none, zk_0, zk_1, zk_n0, zk_n1, nI_add, pk_mul, pk_sub, nI_leE, nI_ltE, nI_eqE, nI_lt0, nI_ge0, nI_eq0, nI_gt0, nI_le0, ilt_t, ilt_f, ile_t, ile_f, ieq_t, ieq_f, if_tt, if_ff, Nat.add_sub_cancel]
      generalize hwell : loG nt set (fun s => if left = 1 then 0 else V (ovP S0 s nt)) r (upK (upK (ma st 1) (1034 + t) (nI 1000000)) (1042 + t) (nI 0)) = well
      have fin : ∀ (st3 : MS) (N3 : Nat) (ill : Int64) (s3 : Nat → Int32), ma st3 1 = s3 → (∀ k, k ≠ 1034 + t → k ≠ 1042 + t → s3 k = ma st 1 k) → FX st st3 → StOk st3 N3 → N3 ≤ N + 2 * W → (∀ i : Nat, 8 * (left + 1) ≤ i → ma st3 22 i = ma st 22 i ∧ ma st3 23 i = ma st 23 i) → ∃ (st' : MS) (N' : Nat), F_X12_looksFrom_329 G (F_X12_looksFrom G m) (F_X12_meanFrom G m) (encM G b st3 h0) nx ill b (nI t) kn ds well = some ((kn.toInt64 * well + (nI 1000000 - kn).toInt64 * ill) / 1000000 - 1000 * (valF (ma st 1) t 2).toInt64, encM G b st' h0, nx) ∧ MLk left nt st st' N N' (2 * W) := by
        intro st3 N3 ill s3 q1 q2 q3 q4 q5 q6
        have ub : upK (upK s3 (1034 + t) kn) (1042 + t) ds = ma st 1 := by
          rw [← hkn, ← hds]
          exact up_back q2
        refine ⟨msa st3 1 (ma st 1), N3, ?_, FX.back (q3.trans FX.up1) ma_msa_s, StOk_fr (FrM.msa (k := 1) (ks := [1]) (by decide)) (by decide) (by decide) q4, q5, q6⟩
        have hv := f_value (G := G) (b := b) (st := msa st3 1 (ma st 1)) (h0 := h0) (nx := nx) (t := t) (w := 2) (by rw [ma_msa_s]; exact hts) (by decide)
        rw [ma_msa_s] at hv
        unfold F_X12_looksFrom_329
        simp (maxSteps := 3000000) (disch := omega) only [q1, ub, hv, ma_msa_n, ma_msa_s, mi_msi_n, mi_msi_s, ml_msl_n, ml_msl_s, ma_msi, ma_msl, mi_msa, mi_msl, ml_msa, ml_msi, msa_msa, msi_msi, msl_msl, ck_m, gf_s, gf_image, gf_truths, gf_knownRow, gf_daysRow, gf_bests, gf_nots, gf_lookeds, gf_bestsAt, gf_worths, gf_keptKnown, gf_keptDays, gf_round, gf_sums, gf_bestRound, gf_bodies, gf_thrown, gf_hasImage, gf_act, gf_spot, gf_size, gf_isWrong, gf_open, gf_edgeThing, gf_edgeMore, gf_stamp, gf_whose, gf_wage, gf_roundMany, gf_bestSet, gf_ran, gf_kind, gf_who, gf_tellsV, pf_thrown, pf_hasImage, pf_act, pf_spot, pf_size, pf_isWrong, pf_open, pf_edgeThing, pf_edgeMore, pf_stamp, pf_whose, pf_wage, pf_roundMany, pf_bestSet, pf_ran, pf_kind, pf_who, pf_tellsV, al_s, as_s, al_image, as_image, al_truths, as_truths0, as_truths1, al_knownRow, as_knownRow, al_daysRow, as_daysRow, al_bests, as_bests, al_nots, as_nots, al_lookeds, as_lookeds, al_bestsAt, as_bestsAt, al_worths, as_worths, al_keptKnown, as_keptKnown, al_keptDays, as_keptDays, al_round, as_round, al_sums, as_sums, al_bestRound, as_bestRound, al_bodies, as_bodies, cl_some, nm_b, nn_some, qn_some, qn_none, zk_0, zk_1, zk_n0, zk_n1, nI_add, pk_mul, pk_sub, nI_leE, nI_ltE, nI_eqE, nI_lt0, nI_ge0, nI_eq0, nI_gt0, nI_le0, ilt_t, ilt_f, ile_t, ile_f, ieq_t, ieq_f, if_tt, if_ff, Nat.add_sub_cancel]
      by_cases c3 : valF (ma st 1) t 3 ≤ 0
      · rw [if_pos c3, if_pos c3]
        have g4 : AgN nt (ma st 1) (upK (upK (ma st 1) (1034 + t) (nI 0)) (1042 + t) (nI 0)) := (AgN.up1 t8 hn).trans (AgN.up2 t8 hn)
        have sw := up_swap (s := ma st 1) (t := t) (x := nI 1000000) (y := nI 0) (c := nI 0) (by omega)
        obtain ⟨st4, N4, x4, m4⟩ := key (msa st2 1 (upK (upK (ma st 1) (1034 + t) (nI 0)) (1042 + t) (nI 0))) N2 (hS.mk (F2.trans FX.up1) (by rw [ma_msa_s]; exact g4)) (StOk_fr (FrM.msa (k := 1) (ks := [1]) (by decide)) (by decide) (by decide) m2.2.1) (by have := m2.2.2.1; omega)
        rw [ma_msa_s] at x4
        unfold F_X12_looksFrom_297
        simp (maxSteps := 3000000) (disch := omega) only [s2, sw, x4, ma_msa_n, ma_msa_s, mi_msi_n, mi_msi_s, ml_msl_n, ml_msl_s, ma_msi, ma_msl, mi_msa, mi_msl, ml_msa, ml_msi, msa_msa, msi_msi, msl_msl, ck_m, gf_s, gf_image, gf_truths, gf_knownRow, gf_daysRow, gf_bests, gf_nots, gf_lookeds, gf_bestsAt, gf_worths, gf_keptKnown, gf_keptDays, gf_round, gf_sums, gf_bestRound, gf_bodies, gf_thrown, gf_hasImage, gf_act, gf_spot, gf_size, gf_isWrong, gf_open, gf_edgeThing, gf_edgeMore, gf_stamp, gf_whose, gf_wage, gf_roundMany, gf_bestSet, gf_ran, gf_kind, gf_who, gf_tellsV, pf_thrown, pf_hasImage, pf_act, pf_spot, pf_size, pf_isWrong, pf_open, pf_edgeThing, pf_edgeMore, pf_stamp, pf_whose, pf_wage, pf_roundMany, pf_bestSet, pf_ran, pf_kind, pf_who, pf_tellsV, al_s, as_s, al_image, as_image, al_truths, as_truths0, as_truths1, al_knownRow, as_knownRow, al_daysRow, as_daysRow, al_bests, as_bests, al_nots, as_nots, al_lookeds, as_lookeds, al_bestsAt, as_bestsAt, al_worths, as_worths, al_keptKnown, as_keptKnown, al_keptDays, as_keptDays, al_round, as_round, al_sums, as_sums, al_bestRound, as_bestRound, al_bodies, as_bodies, cl_some, nm_b, nn_some, qn_some, qn_none, zk_0, zk_1, zk_n0, zk_n1, nI_add, pk_mul, pk_sub, nI_leE, nI_ltE, nI_eqE, nI_lt0, nI_ge0, nI_eq0, nI_gt0, nI_le0, ilt_t, ilt_f, ile_t, ile_f, ieq_t, ieq_f, if_tt, if_ff, Nat.add_sub_cancel]
        rw [if_pos c3]
        refine fin st4 N4 _ _ ((m4.1.ofa 1 (by decide)).trans ma_msa_s) (fun k q1 q2 => by rw [upK_n q2, upK_n q1]) ((F2.trans FX.up1).trans (FX.of m4.1)) m4.2.1 (by have := m2.2.2.1; have := m4.2.2.1; omega) (fun i hi => ?_)
        obtain ⟨y1, y2⟩ := m4.2.2.2 i hi
        exact ⟨y1.trans (o2 i hi).1, y2.trans (o2 i hi).2⟩
      · rw [if_neg c3, if_neg c3]
        unfold F_X12_looksFrom_297
        simp (maxSteps := 3000000) (disch := omega) only [s2, ma_msa_n, ma_msa_s, mi_msi_n, mi_msi_s, ml_msl_n, ml_msl_s, ma_msi, ma_msl, mi_msa, mi_msl, ml_msa, ml_msi, msa_msa, msi_msi, msl_msl, ck_m, gf_s, gf_image, gf_truths, gf_knownRow, gf_daysRow, gf_bests, gf_nots, gf_lookeds, gf_bestsAt, gf_worths, gf_keptKnown, gf_keptDays, gf_round, gf_sums, gf_bestRound, gf_bodies, gf_thrown, gf_hasImage, gf_act, gf_spot, gf_size, gf_isWrong, gf_open, gf_edgeThing, gf_edgeMore, gf_stamp, gf_whose, gf_wage, gf_roundMany, gf_bestSet, gf_ran, gf_kind, gf_who, gf_tellsV, pf_thrown, pf_hasImage, pf_act, pf_spot, pf_size, pf_isWrong, pf_open, pf_edgeThing, pf_edgeMore, pf_stamp, pf_whose, pf_wage, pf_roundMany, pf_bestSet, pf_ran, pf_kind, pf_who, pf_tellsV, al_s, as_s, al_image, as_image, al_truths, as_truths0, as_truths1, al_knownRow, as_knownRow, al_daysRow, as_daysRow, al_bests, as_bests, al_nots, as_nots, al_lookeds, as_lookeds, al_bestsAt, as_bestsAt, al_worths, as_worths, al_keptKnown, as_keptKnown, al_keptDays, as_keptDays, al_round, as_round, al_sums, as_sums, al_bestRound, as_bestRound, al_bodies, as_bodies, cl_some, nm_b, nn_some, qn_some, qn_none, zk_0, zk_1, zk_n0, zk_n1, nI_add, pk_mul, pk_sub, nI_leE, nI_ltE, nI_eqE, nI_lt0, nI_ge0, nI_eq0, nI_gt0, nI_le0, ilt_t, ilt_f, ile_t, ile_f, ieq_t, ieq_f, if_tt, if_ff, Nat.add_sub_cancel]
        rw [if_neg c3]
        exact fin (msa st2 1 (upK (upK (upK (ma st 1) (1034 + t) (nI 1000000)) (1042 + t) (nI 0)) (1034 + t) (nI 1000000))) N2 _ _ ma_msa_s (fun k q1 q2 => by rw [upK_n q1, upK_n q2, upK_n q1]) (F2.trans FX.up1) (StOk_fr (FrM.msa (k := 1) (ks := [1]) (by decide)) (by decide) (by decide) m2.2.1) (by have := m2.2.2.1; omega) o2
theorem f_looks {G : Gx} {b : Nat} {h0 : Hp} {nx : Nat} {S0 : MS} {nt left dd w M0 : Nat} {pl set : Int32} {V : (Nat → Int32) → Int64} (h1 : ma S0 1 1 = nI nt) (hn : nt ≤ 8) (ht : ∀ t, t < nt → ThOk (ma S0 1) t) (hl1 : 1 ≤ left) (hl : left ≤ 3) (hC : 2 ≤ left → ∀ m, M0 ≤ m → Pm G b h0 nx nt (F_X12_meanFrom G m) pl (dd + 1) (left - 1) V S0 w) (m : Nat) (st : MS) (N : Nat) (hm : M0 + nt + 1 ≤ m) (hS : MS0 nt S0 st) (hN : StOk st N) (hb : N + w * lvG nt set nt < 2 ^ 31) : ∃ (st' : MS) (N' : Nat), F_X12_looksFrom G m (encM G b st h0) nx b pl (nI dd) (nI left) set (nI 0) = some (loG nt set (fun s => if left = 1 then 0 else V (ovP S0 s nt)) nt (ma st 1), encM G b st' h0, nx) ∧ MLk left nt st st' N N' (w * lvG nt set nt) := by
  obtain ⟨m', rfl⟩ : ∃ z, m = z + 1 := ⟨m - 1, by omega⟩
  rw [F_X12_looksFrom_s]
  unfold B_X12_looksFrom
  exact f_looks4 h1 hn ht hl1 hl hC nt 0 m' fuelL st N (by omega) (by unfold fuelL; omega) (by omega) hS hN hb
/-- means of days, by one who chooses a day's set -/
def meG (S0 : MS) (nt : Nat) (ch : (Nat → Int32) → Nat → Int32) : Nat → Nat → (Nat → Int32) → Int64
  | 0, _, _ => 0
  | left + 1, dd, s => baF s nt + loG nt (ch s dd) (fun s' => meG S0 nt ch left (dd + 1) (ovP S0 s' nt)) nt s
def wG (wc : Nat) : Nat → Nat
  | 0 => 0
  | l + 1 => wc + 8 * wG wc l
def MF (nt : Nat) : Nat → Nat
  | 0 => 1
  | l + 1 => MF nt l + nt + 2
/-- one who chooses: lookedAt answers what ch says -/
def ChOk (G : Gx) (b : Nat) (h0 : Hp) (nx nt : Nat) (S0 : MS) (pl : Int32) (ch : (Nat → Int32) → Nat → Int32) (wc d0 : Nat) : Prop := (∀ (st : MS) (N dd : Nat), MS0 nt S0 st → StOk st N → N + wc < 2 ^ 31 → dd < 2 ^ 16 → d0 ≤ dd → ∃ (st' : MS) (N' : Nat), F_X12_lookedAt G (encM G b st h0) nx b pl (nI dd) = some (ch (ma st 1) dd, encM G b st' h0, nx) ∧ FrM KX st st' ∧ StOk st' N' ∧ N' ≤ N + wc) ∧ (wc = 0 ∨ ∀ (s : Nat → Int32) (dd : Nat), AgN nt (ma S0 1) s → lvG nt (ch s dd) nt ≤ 8) ∧ (pl ≠ -1 ∨ ∃ many : Nat, 0 < many ∧ many < 4 ∧ mi S0 25 = nI many)
theorem wG0 : ∀ l : Nat, wG 0 l = 0
  | 0 => rfl
  | l + 1 => by unfold wG; rw [wG0 l]
set_option maxRecDepth 100000 in
set_option maxHeartbeats 4000000 in
theorem f_meanCh {G : Gx} {b : Nat} {h0 : Hp} {nx : Nat} {S0 : MS} {nt wc d0 : Nat} {pl : Int32} {ch : (Nat → Int32) → Nat → Int32} (h1 : ma S0 1 1 = nI nt) (hn : nt ≤ 8) (ht : ∀ t, t < nt → ThOk (ma S0 1) t) (hch : ChOk G b h0 nx nt S0 pl ch wc d0) : ∀ (left dd m : Nat), left ≤ 3 → dd + left < 2 ^ 16 → d0 ≤ dd → MF nt left ≤ m → Pm G b h0 nx nt (F_X12_meanFrom G m) pl dd left (meG S0 nt ch left dd) S0 (wG wc left) := by
  intro left
  induction left with
  | zero =>
    intro dd m hl hd hd0 hm st N hS hN hb
    obtain ⟨m', rfl⟩ : ∃ z, m = z + 1 := ⟨m - 1, by unfold MF at hm; omega⟩
    refine ⟨st, N, ?_, FrM.rf, hN, by omega, fun i _ => ⟨rfl, rfl⟩⟩
    rw [F_X12_meanFrom_s]
    unfold B_X12_meanFrom
    simp (maxSteps := 3000000) (disch := omega) only [ma_msa_n, ma_msa_s, mi_msi_n, mi_msi_s, ml_msl_n, ml_msl_s, ma_msi, ma_msl, mi_msa, mi_msl, ml_msa, ml_msi, msa_msa, msi_msi, msl_msl, ck_m, gf_s, gf_image, gf_truths, gf_knownRow, gf_daysRow, gf_bests, gf_nots, gf_lookeds, gf_bestsAt, gf_worths, gf_keptKnown, gf_keptDays, gf_round, gf_sums, gf_bestRound, gf_bodies, gf_thrown, gf_hasImage, gf_act, gf_spot, gf_size, gf_isWrong, gf_open, gf_edgeThing, gf_edgeMore, gf_stamp, gf_whose, gf_wage, gf_roundMany, gf_bestSet, gf_ran, gf_kind, gf_who, gf_tellsV, pf_thrown, pf_hasImage, pf_act, pf_spot, pf_size, pf_isWrong, pf_open, pf_edgeThing, pf_edgeMore, pf_stamp, pf_whose, pf_wage, pf_roundMany, pf_bestSet, pf_ran, pf_kind, pf_who, pf_tellsV, al_s, as_s, al_image, as_image, al_truths, as_truths0, as_truths1, al_knownRow, as_knownRow, al_daysRow, as_daysRow, al_bests, as_bests, al_nots, as_nots, al_lookeds, as_lookeds, al_bestsAt, as_bestsAt, al_worths, as_worths, al_keptKnown, as_keptKnown, al_keptDays, as_keptDays, al_round, as_round, al_sums, as_sums, al_bestRound, as_bestRound, al_bodies, as_bodies, cl_some, nm_b, nn_some, qn_some, qn_none, zk_0, zk_1, zk_n0, zk_n1, nI_add, pk_mul, pk_sub, nI_leE, nI_ltE, nI_eqE, nI_lt0, nI_ge0, nI_eq0, nI_gt0, nI_le0, ilt_t, ilt_f, ile_t, ile_f, ieq_t, ieq_f, if_tt, if_ff, Nat.add_sub_cancel]
    rfl
  | succ left ih =>
    intro dd m hl hd hd0 hm st N hS hN hb
    have hMF : MF nt (left + 1) = MF nt left + nt + 2 := rfl
    obtain ⟨m', rfl⟩ : ∃ z, m = z + 1 := ⟨m - 1, by omega⟩
    have hw : wG wc (left + 1) = wc + 8 * wG wc left := rfl
    rw [hw] at hb ⊢
    have a1 : ma st 1 1 = nI nt := by rw [hS.2 1 (by omega)]; exact h1
    have t1 : ∀ t, t < nt → ThOk (ma st 1) t := fun t q => ThOk_ag (hS.2.ag hn) (ht t q)
    have eb := f_bringsAll (G := G) (b := b) (h0 := h0) (nx := nx) (st := st) a1 hn t1
    obtain ⟨st2, N2, e2, f2, n2, l2⟩ := hch.1 st N dd hS hN (by omega) (by omega) hd0
    have s2 : ma st2 1 = ma st 1 := f2.ofa 1 (by decide)
    have hS2 : MS0 nt S0 st2 := hS.mk (FX.of (f2.mono (by decide))) (by rw [s2]; exact AgN.rf)
    have hlv : wG wc left * lvG nt (ch (ma st 1) dd) nt ≤ 8 * wG wc left := by
      rcases hch.2.1 with q | q
      · rw [q, wG0, Nat.zero_mul]
        omega
      · rw [Nat.mul_comm]
        exact Nat.mul_le_mul_right _ (q _ _ hS.2)
    obtain ⟨st3, N3, e3, m3⟩ := f_looks (G := G) (b := b) (h0 := h0) (nx := nx) (S0 := S0) (nt := nt) (left := left + 1) (dd := dd) (w := wG wc left) (M0 := MF nt left) (pl := pl) (set := ch (ma st 1) dd) (V := meG S0 nt ch left (dd + 1)) h1 hn ht (by omega) hl (fun _ m hm => ih (dd + 1) m (by omega) (by omega) (by omega) hm) m' st2 N2 (by omega) hS2 n2 (by omega)
    rw [s2] at e3
    have ec : (fun s => if left + 1 = 1 then (0 : Int64) else meG S0 nt ch left (dd + 1) (ovP S0 s nt)) = fun s' => meG S0 nt ch left (dd + 1) (ovP S0 s' nt) := by
      funext s
      cases left with
      | zero => rfl
      | succ l => exact if_neg (by omega)
    rw [ec] at e3
    refine ⟨st3, N3, ?_, ((f2.trans m3.1).mono (by decide)), m3.2.1, by have := m3.2.2.1; omega, fun i hi => ?_⟩
    · have go : F_X12_meanFrom_18 G (F_X12_looksFrom G m') (F_X12_meanFrom G m') (encM G b st h0) nx b pl (nI dd) (nI (left + 1)) = some (meG S0 nt ch (left + 1) dd (ma st 1), encM G b st3 h0, nx) := by
        unfold F_X12_meanFrom_18
        simp (maxSteps := 3000000) (disch := omega) only [eb, e2, e3, ma_msa_n, ma_msa_s, mi_msi_n, mi_msi_s, ml_msl_n, ml_msl_s, ma_msi, ma_msl, mi_msa, mi_msl, ml_msa, ml_msi, msa_msa, msi_msi, msl_msl, ck_m, gf_s, gf_image, gf_truths, gf_knownRow, gf_daysRow, gf_bests, gf_nots, gf_lookeds, gf_bestsAt, gf_worths, gf_keptKnown, gf_keptDays, gf_round, gf_sums, gf_bestRound, gf_bodies, gf_thrown, gf_hasImage, gf_act, gf_spot, gf_size, gf_isWrong, gf_open, gf_edgeThing, gf_edgeMore, gf_stamp, gf_whose, gf_wage, gf_roundMany, gf_bestSet, gf_ran, gf_kind, gf_who, gf_tellsV, pf_thrown, pf_hasImage, pf_act, pf_spot, pf_size, pf_isWrong, pf_open, pf_edgeThing, pf_edgeMore, pf_stamp, pf_whose, pf_wage, pf_roundMany, pf_bestSet, pf_ran, pf_kind, pf_who, pf_tellsV, al_s, as_s, al_image, as_image, al_truths, as_truths0, as_truths1, al_knownRow, as_knownRow, al_daysRow, as_daysRow, al_bests, as_bests, al_nots, as_nots, al_lookeds, as_lookeds, al_bestsAt, as_bestsAt, al_worths, as_worths, al_keptKnown, as_keptKnown, al_keptDays, as_keptDays, al_round, as_round, al_sums, as_sums, al_bestRound, as_bestRound, al_bodies, as_bodies, cl_some, nm_b, nn_some, qn_some, qn_none, zk_0, zk_1, zk_n0, zk_n1, nI_add, pk_mul, pk_sub, nI_leE, nI_ltE, nI_eqE, nI_lt0, nI_ge0, nI_eq0, nI_gt0, nI_le0, ilt_t, ilt_f, ile_t, ile_f, ieq_t, ieq_f, if_tt, if_ff, Nat.add_sub_cancel]
        rfl
      rw [F_X12_meanFrom_s]
      unfold B_X12_meanFrom
      simp (maxSteps := 3000000) (disch := omega) only [ma_msa_n, ma_msa_s, mi_msi_n, mi_msi_s, ml_msl_n, ml_msl_s, ma_msi, ma_msl, mi_msa, mi_msl, ml_msa, ml_msi, msa_msa, msi_msi, msl_msl, ck_m, gf_s, gf_image, gf_truths, gf_knownRow, gf_daysRow, gf_bests, gf_nots, gf_lookeds, gf_bestsAt, gf_worths, gf_keptKnown, gf_keptDays, gf_round, gf_sums, gf_bestRound, gf_bodies, gf_thrown, gf_hasImage, gf_act, gf_spot, gf_size, gf_isWrong, gf_open, gf_edgeThing, gf_edgeMore, gf_stamp, gf_whose, gf_wage, gf_roundMany, gf_bestSet, gf_ran, gf_kind, gf_who, gf_tellsV, pf_thrown, pf_hasImage, pf_act, pf_spot, pf_size, pf_isWrong, pf_open, pf_edgeThing, pf_edgeMore, pf_stamp, pf_whose, pf_wage, pf_roundMany, pf_bestSet, pf_ran, pf_kind, pf_who, pf_tellsV, al_s, as_s, al_image, as_image, al_truths, as_truths0, as_truths1, al_knownRow, as_knownRow, al_daysRow, as_daysRow, al_bests, as_bests, al_nots, as_nots, al_lookeds, as_lookeds, al_bestsAt, as_bestsAt, al_worths, as_worths, al_keptKnown, as_keptKnown, al_keptDays, as_keptDays, al_round, as_round, al_sums, as_sums, al_bestRound, as_bestRound, al_bodies, as_bodies, cl_some, nm_b, nn_some, qn_some, qn_none, zk_0, zk_1, zk_n0, zk_n1, nI_add, pk_mul, pk_sub, nI_leE, nI_ltE, nI_eqE, nI_lt0, nI_ge0, nI_eq0, nI_gt0, nI_le0, ilt_t, ilt_f, ile_t, ile_f, ieq_t, ieq_f, if_tt, if_ff, Nat.add_sub_cancel]
      by_cases cp : pl = -1
      · rw [if_pos cp]
        rcases hch.2.2 with q | ⟨many, q1, q2, q3⟩
        · exact absurd cp q
        · have q4 : mi st 25 = nI many := by rw [hS.1.f1 25 (by decide)]; exact q3
          simp (maxSteps := 3000000) (disch := omega) only [q4, ma_msa_n, ma_msa_s, mi_msi_n, mi_msi_s, ml_msl_n, ml_msl_s, ma_msi, ma_msl, mi_msa, mi_msl, ml_msa, ml_msi, msa_msa, msi_msi, msl_msl, ck_m, gf_s, gf_image, gf_truths, gf_knownRow, gf_daysRow, gf_bests, gf_nots, gf_lookeds, gf_bestsAt, gf_worths, gf_keptKnown, gf_keptDays, gf_round, gf_sums, gf_bestRound, gf_bodies, gf_thrown, gf_hasImage, gf_act, gf_spot, gf_size, gf_isWrong, gf_open, gf_edgeThing, gf_edgeMore, gf_stamp, gf_whose, gf_wage, gf_roundMany, gf_bestSet, gf_ran, gf_kind, gf_who, gf_tellsV, pf_thrown, pf_hasImage, pf_act, pf_spot, pf_size, pf_isWrong, pf_open, pf_edgeThing, pf_edgeMore, pf_stamp, pf_whose, pf_wage, pf_roundMany, pf_bestSet, pf_ran, pf_kind, pf_who, pf_tellsV, al_s, as_s, al_image, as_image, al_truths, as_truths0, as_truths1, al_knownRow, as_knownRow, al_daysRow, as_daysRow, al_bests, as_bests, al_nots, as_nots, al_lookeds, as_lookeds, al_bestsAt, as_bestsAt, al_worths, as_worths, al_keptKnown, as_keptKnown, al_keptDays, as_keptDays, al_round, as_round, al_sums, as_sums, al_bestRound, as_bestRound, al_bodies, as_bodies, cl_some, nm_b, nn_some, qn_some, qn_none, zk_0, zk_1, zk_n0, zk_n1, nI_add, pk_mul, pk_sub, nI_leE, nI_ltE, nI_eqE, nI_lt0, nI_ge0, nI_eq0, nI_gt0, nI_le0, ilt_t, ilt_f, ile_t, ile_f, ieq_t, ieq_f, if_tt, if_ff, Nat.add_sub_cancel]
          exact go
      · rw [if_neg cp]
        exact go
    · obtain ⟨y1, y2⟩ := m3.2.2.2 i hi
      rw [y1, y2, f2.ofa 22 (by decide), f2.ofa 23 (by decide)]
      exact ⟨rfl, rfl⟩
