/-! sort, on both sides -/
def zvF (s : Nat → Int32) (a : Nat) : Nat → Nat → Int32
  | 0 => s
  | k + 1 => upK (zvF s a k) (140 + 4 * a + k) (nI 0)
theorem zv_n {s : Nat → Int32} {a j : Nat} : ∀ k, k ≤ 4 → (j < 140 + 4 * a ∨ 144 + 4 * a ≤ j) → zvF s a k j = s j
  | 0, _, _ => rfl
  | k + 1, hk, h => by
    show upK (zvF s a k) _ _ j = _
    rw [upK_n (by omega)]
    exact zv_n k (by omega) h
theorem zv_s {s : Nat → Int32} {a j : Nat} : ∀ k, j < k → zvF s a k (140 + 4 * a + j) = nI 0
  | 0, h => absurd h (by omega)
  | k + 1, h => by
    show upK (zvF s a k) (140 + 4 * a + k) (nI 0) (140 + 4 * a + j) = _
    by_cases e : j = k
    · subst e; exact upK_s
    · rw [upK_n (by omega)]
      exact zv_s k (by omega)
/-- the row as a text begins to be read -/
def soX (s : Nat → Int32) (a : Nat) : Nat → Int32 := zvF (upK (upK s 5 (nI 0)) (130 + a) (nI 0)) a 4
def soT (s : Nat → Int32) (a q : Nat) : Bool × Nat × Nat × (Nat → Int32) := txP (fun i => s (10 + i)) q a 9 0 0 (soX s a)
def soOk (s : Nat → Int32) (a q : Nat) : Prop := (soT s a q).1 = true ∧ (soT s a q).2.1 = q
def KSo : List Nat := [1, 4, 5, 6, 7, 8]
section FSO
variable {G : Gx} {b nx : Nat} {h0 : Hp} {S : MS}
theorem f_zv {st : MS} {a : Nat} (h4 : mi st 4 = nI a) (ha : a < 6) {X : Nat → Int32} : ∀ (r k m : Nat), k + r = 4 → r < m → F_X12_sort_57 G m (encM G b (msa st 1 (zvF X a k)) h0) nx b (nI k) = F_X12_sort_57 G (m - r) (encM G b (msa st 1 (zvF X a 4)) h0) nx b (nI 4) := by
  intro r
  induction r with
  | zero =>
    intro k m hk hm
    obtain rfl : k = 4 := by omega
    rfl
  | succ r ih =>
    intro k m hk hm
    obtain ⟨m, rfl⟩ : ∃ q, m = q + 1 := ⟨m - 1, by omega⟩
    have e := ih (k + 1) m (by omega) (by omega)
    rw [F_X12_sort_57_s]
    simp (maxSteps := 3000000) (disch := omega) only [h4, ma_msa_n, ma_msa_s, mi_msi_n, mi_msi_s, ml_msl_n, ml_msl_s, ma_msi, ma_msl, mi_msa, mi_msl, ml_msa, ml_msi, msa_msa, msi_msi, msl_msl, ck_m, gf_s, gf_image, gf_truths, gf_knownRow, gf_daysRow, gf_bests, gf_nots, gf_lookeds, gf_bestsAt, gf_worths, gf_keptKnown, gf_keptDays, gf_round, gf_sums, gf_bestRound, gf_bodies, gf_thrown, gf_hasImage, gf_act, gf_spot, gf_size, gf_isWrong, gf_open, gf_edgeThing, gf_edgeMore, gf_stamp, gf_whose, gf_wage, gf_roundMany, gf_bestSet, gf_ran, gf_kind, gf_who, gf_tellsV, pf_thrown, pf_hasImage, pf_act, pf_spot, pf_size, pf_isWrong, pf_open, pf_edgeThing, pf_edgeMore, pf_stamp, pf_whose, pf_wage, pf_roundMany, pf_bestSet, pf_ran, pf_kind, pf_who, pf_tellsV, al_s, as_s, al_image, as_image, al_truths, as_truths0, as_truths1, al_knownRow, as_knownRow, al_daysRow, as_daysRow, al_bests, as_bests, al_nots, as_nots, al_lookeds, as_lookeds, al_bestsAt, as_bestsAt, al_worths, as_worths, al_keptKnown, as_keptKnown, al_keptDays, as_keptDays, al_round, as_round, al_sums, as_sums, al_bestRound, as_bestRound, al_bodies, as_bodies, cl_some, nm_b, nn_some, qn_some, qn_none, zk_0, zk_1, zk_n0, zk_n1, nI_add, pk_mul, pk_sub, nI_leE, nI_ltE, nI_eqE, nI_lt0, nI_ge0, nI_eq0, nI_gt0, nI_le0, ilt_t, ilt_f, ile_t, ile_f, ieq_t, ieq_f, if_tt, if_ff, Nat.add_sub_cancel]
    rw [show m + 1 - (r + 1) = m - r by omega]
    exact e
theorem AgF.zv {a : Nat} {s : Nat → Int32} (ha : a < 6) : AgF a (upK s 5 (nI 0)) (soX s a) := fun k h1 h2 h3 => by
  unfold soX
  rw [zv_n 4 (by omega) h2, upK_n h1]
set_option maxRecDepth 100000 in
set_option maxHeartbeats 1000000 in
theorem f_149 {st : MS} {tp : Nat → Int32} {z p a c : Nat} (hR : Rd st tp z p a c 0) (h0s : ma st 1 0 = nI a) : F_X12_sort_149 G (encM G b st h0) nx b = some (if p = z then nI a else -10 - nI p, encM G b (if p = z then msa st 1 (upK (ma st 1) 0 (nI (a + 1))) else st) h0, nx) := by
  obtain ⟨⟨a5, a6, az, ap⟩, h7, h8, h4, ha, hc, hcp, ht⟩ := hR
  unfold F_X12_sort_149 F_X12_sort_167
  by_cases c1 : p = z
  · subst c1
    rw [if_pos rfl, if_pos rfl]
    simp (maxSteps := 3000000) (disch := omega) only [h7, a5, a6, h0s, h4, ma_msa_n, ma_msa_s, mi_msi_n, mi_msi_s, ml_msl_n, ml_msl_s, ma_msi, ma_msl, mi_msa, mi_msl, ml_msa, ml_msi, msa_msa, msi_msi, msl_msl, ck_m, gf_s, gf_image, gf_truths, gf_knownRow, gf_daysRow, gf_bests, gf_nots, gf_lookeds, gf_bestsAt, gf_worths, gf_keptKnown, gf_keptDays, gf_round, gf_sums, gf_bestRound, gf_bodies, gf_thrown, gf_hasImage, gf_act, gf_spot, gf_size, gf_isWrong, gf_open, gf_edgeThing, gf_edgeMore, gf_stamp, gf_whose, gf_wage, gf_roundMany, gf_bestSet, gf_ran, gf_kind, gf_who, gf_tellsV, pf_thrown, pf_hasImage, pf_act, pf_spot, pf_size, pf_isWrong, pf_open, pf_edgeThing, pf_edgeMore, pf_stamp, pf_whose, pf_wage, pf_roundMany, pf_bestSet, pf_ran, pf_kind, pf_who, pf_tellsV, al_s, as_s, al_image, as_image, al_truths, as_truths0, as_truths1, al_knownRow, as_knownRow, al_daysRow, as_daysRow, al_bests, as_bests, al_nots, as_nots, al_lookeds, as_lookeds, al_bestsAt, as_bestsAt, al_worths, as_worths, al_keptKnown, as_keptKnown, al_keptDays, as_keptDays, al_round, as_round, al_sums, as_sums, al_bestRound, as_bestRound, al_bodies, as_bodies, cl_some, nm_b, nn_some, qn_some, qn_none, zk_0, zk_1, zk_n0, zk_n1, nI_add, pk_mul, pk_sub, nI_leE, nI_ltE, nI_eqE, nI_lt0, nI_ge0, nI_eq0, nI_gt0, nI_le0, ilt_t, ilt_f, ile_t, ile_f, ieq_t, ieq_f, if_tt, if_ff, Nat.add_sub_cancel]
  · rw [if_neg c1, if_neg c1]
    simp (maxSteps := 3000000) (disch := omega) only [h7, a5, a6, ma_msa_n, ma_msa_s, mi_msi_n, mi_msi_s, ml_msl_n, ml_msl_s, ma_msi, ma_msl, mi_msa, mi_msl, ml_msa, ml_msi, msa_msa, msi_msi, msl_msl, ck_m, gf_s, gf_image, gf_truths, gf_knownRow, gf_daysRow, gf_bests, gf_nots, gf_lookeds, gf_bestsAt, gf_worths, gf_keptKnown, gf_keptDays, gf_round, gf_sums, gf_bestRound, gf_bodies, gf_thrown, gf_hasImage, gf_act, gf_spot, gf_size, gf_isWrong, gf_open, gf_edgeThing, gf_edgeMore, gf_stamp, gf_whose, gf_wage, gf_roundMany, gf_bestSet, gf_ran, gf_kind, gf_who, gf_tellsV, pf_thrown, pf_hasImage, pf_act, pf_spot, pf_size, pf_isWrong, pf_open, pf_edgeThing, pf_edgeMore, pf_stamp, pf_whose, pf_wage, pf_roundMany, pf_bestSet, pf_ran, pf_kind, pf_who, pf_tellsV, al_s, as_s, al_image, as_image, al_truths, as_truths0, as_truths1, al_knownRow, as_knownRow, al_daysRow, as_daysRow, al_bests, as_bests, al_nots, as_nots, al_lookeds, as_lookeds, al_bestsAt, as_bestsAt, al_worths, as_worths, al_keptKnown, as_keptKnown, al_keptDays, as_keptDays, al_round, as_round, al_sums, as_sums, al_bestRound, as_bestRound, al_bodies, as_bodies, cl_some, nm_b, nn_some, qn_some, qn_none, zk_0, zk_1, zk_n0, zk_n1, nI_add, pk_mul, pk_sub, nI_leE, nI_ltE, nI_eqE, nI_lt0, nI_ge0, nI_eq0, nI_gt0, nI_le0, ilt_t, ilt_f, ile_t, ile_f, ieq_t, ieq_f, if_tt, if_ff, Nat.add_sub_cancel]
set_option maxRecDepth 100000 in
set_option maxHeartbeats 1000000 in
theorem f_149W {st : MS} {p : Nat} (h7 : mi st 7 = nI 1) (h5 : mi st 5 = nI p) : F_X12_sort_149 G (encM G b st h0) nx b = some (-10 - nI p, encM G b st h0, nx) := by
  unfold F_X12_sort_149 F_X12_sort_167
  have n0 : ¬ nI 1 = 0 := by decide
  simp (maxSteps := 3000000) (disch := omega) only [h7, h5, ma_msa_n, ma_msa_s, mi_msi_n, mi_msi_s, ml_msl_n, ml_msl_s, ma_msi, ma_msl, mi_msa, mi_msl, ml_msa, ml_msi, msa_msa, msi_msi, msl_msl, ck_m, gf_s, gf_image, gf_truths, gf_knownRow, gf_daysRow, gf_bests, gf_nots, gf_lookeds, gf_bestsAt, gf_worths, gf_keptKnown, gf_keptDays, gf_round, gf_sums, gf_bestRound, gf_bodies, gf_thrown, gf_hasImage, gf_act, gf_spot, gf_size, gf_isWrong, gf_open, gf_edgeThing, gf_edgeMore, gf_stamp, gf_whose, gf_wage, gf_roundMany, gf_bestSet, gf_ran, gf_kind, gf_who, gf_tellsV, pf_thrown, pf_hasImage, pf_act, pf_spot, pf_size, pf_isWrong, pf_open, pf_edgeThing, pf_edgeMore, pf_stamp, pf_whose, pf_wage, pf_roundMany, pf_bestSet, pf_ran, pf_kind, pf_who, pf_tellsV, al_s, as_s, al_image, as_image, al_truths, as_truths0, as_truths1, al_knownRow, as_knownRow, al_daysRow, as_daysRow, al_bests, as_bests, al_nots, as_nots, al_lookeds, as_lookeds, al_bestsAt, as_bestsAt, al_worths, as_worths, al_keptKnown, as_keptKnown, al_keptDays, as_keptDays, al_round, as_round, al_sums, as_sums, al_bestRound, as_bestRound, al_bodies, as_bodies, cl_some, nm_b, nn_some, qn_some, qn_none, zk_0, zk_1, zk_n0, zk_n1, nI_add, pk_mul, pk_sub, nI_leE, nI_ltE, nI_eqE, nI_lt0, nI_ge0, nI_eq0, nI_gt0, nI_le0, ilt_t, ilt_f, ile_t, ile_f, ieq_t, ieq_f, if_tt, if_ff, Nat.add_sub_cancel]
set_option maxRecDepth 100000 in
set_option maxHeartbeats 1000000 in
theorem f_sort6 (hs : ma S 1 0 = nI 6) : F_X12_sort G (encM G b S h0) nx b = some (-4, encM G b S h0, nx) := by
  unfold F_X12_sort
  simp (maxSteps := 3000000) (disch := omega) only [hs, ma_msa_n, ma_msa_s, mi_msi_n, mi_msi_s, ml_msl_n, ml_msl_s, ma_msi, ma_msl, mi_msa, mi_msl, ml_msa, ml_msi, msa_msa, msi_msi, msl_msl, ck_m, gf_s, gf_image, gf_truths, gf_knownRow, gf_daysRow, gf_bests, gf_nots, gf_lookeds, gf_bestsAt, gf_worths, gf_keptKnown, gf_keptDays, gf_round, gf_sums, gf_bestRound, gf_bodies, gf_thrown, gf_hasImage, gf_act, gf_spot, gf_size, gf_isWrong, gf_open, gf_edgeThing, gf_edgeMore, gf_stamp, gf_whose, gf_wage, gf_roundMany, gf_bestSet, gf_ran, gf_kind, gf_who, gf_tellsV, pf_thrown, pf_hasImage, pf_act, pf_spot, pf_size, pf_isWrong, pf_open, pf_edgeThing, pf_edgeMore, pf_stamp, pf_whose, pf_wage, pf_roundMany, pf_bestSet, pf_ran, pf_kind, pf_who, pf_tellsV, al_s, as_s, al_image, as_image, al_truths, as_truths0, as_truths1, al_knownRow, as_knownRow, al_daysRow, as_daysRow, al_bests, as_bests, al_nots, as_nots, al_lookeds, as_lookeds, al_bestsAt, as_bestsAt, al_worths, as_worths, al_keptKnown, as_keptKnown, al_keptDays, as_keptDays, al_round, as_round, al_sums, as_sums, al_bestRound, as_bestRound, al_bodies, as_bodies, cl_some, nm_b, nn_some, qn_some, qn_none, zk_0, zk_1, zk_n0, zk_n1, nI_add, pk_mul, pk_sub, nI_leE, nI_ltE, nI_eqE, nI_lt0, nI_ge0, nI_eq0, nI_gt0, nI_le0, ilt_t, ilt_f, ile_t, ile_f, ieq_t, ieq_f, if_tt, if_ff, Nat.add_sub_cancel]
set_option maxRecDepth 100000 in
set_option maxHeartbeats 1000000 in
theorem f_sort {a q : Nat} (hs : ma S 1 0 = nI a) (ha : a < 6) (h5 : ma S 1 5 = nI q) (hq : q ≤ 120) : ∃ S' : MS, F_X12_sort G (encM G b S h0) nx b = some (if (soT (ma S 1) a q).1 = true ∧ (soT (ma S 1) a q).2.1 = q then nI a else -10 - nI (soT (ma S 1) a q).2.1, encM G b S' h0, nx) ∧ FrM KSo S S' ∧ (soOk (ma S 1) a q → ma S' 1 = upK (soT (ma S 1) a q).2.2.2 0 (nI (a + 1))) ∧ (¬ soOk (ma S 1) a q → AgF a (upK (ma S 1) 5 (nI 0)) (ma S' 1)) := by
  -- the state ahead of the first clause
  generalize hX : soX (ma S 1) a = X
  let st0 : MS := msi (msi (msi (msi (msi (msa S 1 X) 4 (nI a)) 6 (nI q)) 5 (nI 0)) 7 (nI 0)) 8 (nI 0)
  have s1 : ma st0 1 = X := by
    show ma (msi (msi (msi (msi (msi (msa S 1 X) 4 (nI a)) 6 (nI q)) 5 (nI 0)) 7 (nI 0)) 8 (nI 0)) 1 = X
    simp only [ma_msi, ma_msa_s]
  have f0 : FrM KSo S st0 := ((((((FrM.msa (k := 1) (ks := KSo) (by decide)).trans (FrM.msi (k := 4) (ks := KSo) (by decide))).trans (FrM.msi (k := 6) (ks := KSo) (by decide))).trans (FrM.msi (k := 5) (ks := KSo) (by decide))).trans (FrM.msi (k := 7) (ks := KSo) (by decide))).trans (FrM.msi (k := 8) (ks := KSo) (by decide))).mono (by decide)
  have ag0 : AgF a (upK (ma S 1) 5 (nI 0)) X := by rw [← hX]; exact AgF.zv ha
  have x10 : ∀ i, i < 120 → X (10 + i) = ma S 1 (10 + i) := fun i hi => by
    rw [ag0 (10 + i) (by omega) (by omega) (by omega), upK_n (by omega)]
  have x130 : X (130 + a) = nI 0 := by
    rw [← hX]
    unfold soX
    rw [zv_n 4 (by omega) (by omega), upK_s]
  have x0 : X 0 = nI a := by rw [ag0 0 (by omega) (by omega) (by omega), upK_n (by omega)]; exact hs
  have hR : Rd st0 (fun i => ma S 1 (10 + i)) q 0 a 0 0 := by
    refine ⟨⟨?_, ?_, hq, by omega⟩, ?_, mi_msi_s, ?_, ha, by rw [s1]; exact x130, by omega, fun i hi => ?_⟩
    · show mi (msi (msi (msi (msi (msi (msa S 1 X) 4 (nI a)) 6 (nI q)) 5 (nI 0)) 7 (nI 0)) 8 (nI 0)) 5 = nI 0
      rw [mi_msi_n (by decide), mi_msi_n (by decide), mi_msi_s]
    · show mi (msi (msi (msi (msi (msi (msa S 1 X) 4 (nI a)) 6 (nI q)) 5 (nI 0)) 7 (nI 0)) 8 (nI 0)) 6 = nI q
      rw [mi_msi_n (by decide), mi_msi_n (by decide), mi_msi_n (by decide), mi_msi_s]
    · show mi (msi (msi (msi (msi (msi (msa S 1 X) 4 (nI a)) 6 (nI q)) 5 (nI 0)) 7 (nI 0)) 8 (nI 0)) 7 = nI 0
      rw [mi_msi_n (by decide), mi_msi_s]
    · show mi (msi (msi (msi (msi (msi (msa S 1 X) 4 (nI a)) 6 (nI q)) 5 (nI 0)) 7 (nI 0)) 8 (nI 0)) 4 = nI a
      rw [mi_msi_n (by decide), mi_msi_n (by decide), mi_msi_n (by decide), mi_msi_n (by decide), mi_msi_s]
    · unfold tpM
      rw [s1]
      exact x10 i hi
  -- the way to it
  have hzv := f_zv (G := G) (b := b) (nx := nx) (h0 := h0) (st := msi (msi S 4 (nI a)) 6 (nI q)) (a := a) (by rw [mi_msi_n (by decide), mi_msi_s]) ha (X := upK (upK (ma S 1) 5 (nI 0)) (130 + a) (nI 0)) 4 0 fuelL (by omega) (by unfold fuelL; omega)
  have e6 : ¬ nI a = nI 6 := fun z => by have := (nI_eq (by omega) (by omega)).mp z; omega
  have est : msi (msi (msi (msa (msi (msi S 4 (nI a)) 6 (nI q)) 1 X) 5 (nI 0)) 7 (nI 0)) 8 (nI 0) = st0 := rfl
  have e1 : ∀ cont : Rz Int32, (∀ (_ : F_X12_sort_57 G (fuelL - 4) (encM G b (msa (msi (msi S 4 (nI a)) 6 (nI q)) 1 X) h0) nx b (nI 4) = cont), F_X12_sort G (encM G b S h0) nx b = cont) := by
    intro cont hcont
    rw [show zvF (upK (upK (ma S 1) 5 (nI 0)) (130 + a) (nI 0)) a 4 = X from hX] at hzv
    rw [← hcont, ← hzv]
    unfold F_X12_sort
    simp (maxSteps := 3000000) (disch := omega) only [hs, h5, ma_msa_n, ma_msa_s, mi_msi_n, mi_msi_s, ml_msl_n, ml_msl_s, ma_msi, ma_msl, mi_msa, mi_msl, ml_msa, ml_msi, msa_msa, msi_msi, msl_msl, ck_m, gf_s, gf_image, gf_truths, gf_knownRow, gf_daysRow, gf_bests, gf_nots, gf_lookeds, gf_bestsAt, gf_worths, gf_keptKnown, gf_keptDays, gf_round, gf_sums, gf_bestRound, gf_bodies, gf_thrown, gf_hasImage, gf_act, gf_spot, gf_size, gf_isWrong, gf_open, gf_edgeThing, gf_edgeMore, gf_stamp, gf_whose, gf_wage, gf_roundMany, gf_bestSet, gf_ran, gf_kind, gf_who, gf_tellsV, pf_thrown, pf_hasImage, pf_act, pf_spot, pf_size, pf_isWrong, pf_open, pf_edgeThing, pf_edgeMore, pf_stamp, pf_whose, pf_wage, pf_roundMany, pf_bestSet, pf_ran, pf_kind, pf_who, pf_tellsV, al_s, as_s, al_image, as_image, al_truths, as_truths0, as_truths1, al_knownRow, as_knownRow, al_daysRow, as_daysRow, al_bests, as_bests, al_nots, as_nots, al_lookeds, as_lookeds, al_bestsAt, as_bestsAt, al_worths, as_worths, al_keptKnown, as_keptKnown, al_keptDays, as_keptDays, al_round, as_round, al_sums, as_sums, al_bestRound, as_bestRound, al_bodies, as_bodies, cl_some, nm_b, nn_some, qn_some, qn_none, zk_0, zk_1, zk_n0, zk_n1, nI_add, pk_mul, pk_sub, nI_leE, nI_ltE, nI_eqE, nI_lt0, nI_ge0, nI_eq0, nI_gt0, nI_le0, ilt_t, ilt_f, ile_t, ile_f, ieq_t, ieq_f, if_tt, if_ff, Nat.add_sub_cancel]
    rfl
  obtain ⟨st1, ec, rc⟩ := f_clause (G := G) (b := b) (nx := nx) (h0 := h0) hR
  have ok := clP_ok (tp := fun i => ma S 1 (10 + i)) (z := q) (p := 0) (by omega)
  have et : soT (ma S 1) a q = if (clP (fun i => ma S 1 (10 + i)) q 0).1 = true then soP (fun i => ma S 1 (10 + i)) q a 9 (clP (fun i => ma S 1 (10 + i)) q 0).2.1 (0 + (clP (fun i => ma S 1 (10 + i)) q 0).2.2.2.length) (emR (wrO X a (clP (fun i => ma S 1 (10 + i)) q 0).2.2.1) a 0 (clP (fun i => ma S 1 (10 + i)) q 0).2.2.2) else (false, (clP (fun i => ma S 1 (10 + i)) q 0).2.1, 0, X) := by
    unfold soT txP
    rw [hX]
  generalize hC : clP (fun i => ma S 1 (10 + i)) q 0 = C at *
  -- the step to the loop
  obtain ⟨m4, em4⟩ : ∃ w, fuelL - 4 = w + 1 := ⟨fuelL - 5, by unfold fuelL; omega⟩
  have e57 : F_X12_sort_57 G (fuelL - 4) (encM G b (msa (msi (msi S 4 (nI a)) 6 (nI q)) 1 X) h0) nx b (nI 4) = F_X12_sort_107 G fuelL (encM G b st1 h0) nx b (nI 1) := by
    rw [em4, F_X12_sort_57_s]
    simp (maxSteps := 3000000) (disch := omega) only [est, ec, ma_msa_n, ma_msa_s, mi_msi_n, mi_msi_s, ml_msl_n, ml_msl_s, ma_msi, ma_msl, mi_msa, mi_msl, ml_msa, ml_msi, msa_msa, msi_msi, msl_msl, ck_m, gf_s, gf_image, gf_truths, gf_knownRow, gf_daysRow, gf_bests, gf_nots, gf_lookeds, gf_bestsAt, gf_worths, gf_keptKnown, gf_keptDays, gf_round, gf_sums, gf_bestRound, gf_bodies, gf_thrown, gf_hasImage, gf_act, gf_spot, gf_size, gf_isWrong, gf_open, gf_edgeThing, gf_edgeMore, gf_stamp, gf_whose, gf_wage, gf_roundMany, gf_bestSet, gf_ran, gf_kind, gf_who, gf_tellsV, pf_thrown, pf_hasImage, pf_act, pf_spot, pf_size, pf_isWrong, pf_open, pf_edgeThing, pf_edgeMore, pf_stamp, pf_whose, pf_wage, pf_roundMany, pf_bestSet, pf_ran, pf_kind, pf_who, pf_tellsV, al_s, as_s, al_image, as_image, al_truths, as_truths0, as_truths1, al_knownRow, as_knownRow, al_daysRow, as_daysRow, al_bests, as_bests, al_nots, as_nots, al_lookeds, as_lookeds, al_bestsAt, as_bestsAt, al_worths, as_worths, al_keptKnown, as_keptKnown, al_keptDays, as_keptDays, al_round, as_round, al_sums, as_sums, al_bestRound, as_bestRound, al_bodies, as_bodies, cl_some, nm_b, nn_some, qn_some, qn_none, zk_0, zk_1, zk_n0, zk_n1, nI_add, pk_mul, pk_sub, nI_leE, nI_ltE, nI_eqE, nI_lt0, nI_ge0, nI_eq0, nI_gt0, nI_le0, ilt_t, ilt_f, ile_t, ile_f, ieq_t, ieq_f, if_tt, if_ff, Nat.add_sub_cancel]
  have e2 := e1 _ e57
  by_cases cr : C.1 = true
  · rw [if_pos cr] at et
    have ow : ∀ w v, C.2.2.1 = some (w, v) → w < 4 := fun w v hwv => by rw [← hC] at hwv; exact clP_w w v hwv
    obtain ⟨hR1, hs1, ag1⟩ := rc.rd hR cr ow (by have := ok.2.2 cr; omega) ok.2.1
    rw [s1] at hs1 ag1
    obtain ⟨st2, e3, k1, k2, k3, k4⟩ := f_sort107 (G := G) (b := b) (nx := nx) (h0 := h0) 9 1 fuelL C.2.1 (0 + C.2.2.2.length) st1 (by omega) (by unfold fuelL; omega) hR1
    rw [hs1] at k1 k2
    rw [← et] at k1 k2
    rw [e3] at e2
    have fS : FrM KSo S st2 := ((f0.trans (fr1578 (rc.1 cr).1)).trans k3).mono (by decide)
    have agS : AgF a (upK (ma S 1) 5 (nI 0)) (ma st2 1) := (ag0.trans ag1).trans k4
    by_cases cs : (soT (ma S 1) a q).1 = true
    · obtain ⟨hR2, hs2⟩ := k1 cs
      have z0 : ma st2 1 0 = nI a := by rw [agS 0 (by omega) (by omega) (by omega), upK_n (by omega)]; exact hs
      rw [f_149 hR2 z0] at e2
      by_cases cq : (soT (ma S 1) a q).2.1 = q
      · rw [if_pos cq, if_pos cq] at e2
        refine ⟨msa st2 1 (upK (ma st2 1) 0 (nI (a + 1))), e2.trans ?_, (fS.trans (FrM.msa (k := 1) (ks := KSo) (by decide))).mono (by decide), fun z => by rw [ma_msa_s, hs2], fun z => absurd ⟨cs, cq⟩ z⟩
        rw [if_pos (show (soT (ma S 1) a q).1 = true ∧ (soT (ma S 1) a q).2.1 = q from ⟨cs, cq⟩)]
      · rw [if_neg cq, if_neg cq] at e2
        refine ⟨st2, e2.trans ?_, fS, fun z => absurd z.2 cq, fun _ => agS⟩
        rw [if_neg (show ¬ ((soT (ma S 1) a q).1 = true ∧ (soT (ma S 1) a q).2.1 = q) from fun w => cq w.2)]
    · have cs' : (soT (ma S 1) a q).1 = false := by cases hb : (soT (ma S 1) a q).1; rfl; exact absurd hb cs
      obtain ⟨w7, w5⟩ := k2 cs'
      rw [f_149W w7 w5] at e2
      refine ⟨st2, e2.trans ?_, fS, fun z => absurd z.1 cs, fun _ => agS⟩
      rw [if_neg (fun w => cs w.1)]
  · rw [if_neg cr] at et
    have cr' : C.1 = false := by cases hb : C.1; rfl; exact absurd hb cr
    obtain ⟨Xx, fx, p5, p8, _, pw⟩ := rc.2 cr'
    obtain ⟨w7, agx⟩ := pw rfl
    have p5 : mi st1 5 = nI C.2.1 := p5
    have sx : ma st1 1 = Xx := by rw [fx.ofa 1 (by decide), ma_msa_s]
    have e107 : F_X12_sort_107 G fuelL (encM G b st1 h0) nx b (nI 1) = some (-10 - nI C.2.1, encM G b st1 h0, nx) := by
      obtain ⟨m5, em5⟩ : ∃ w, fuelL = w + 1 := ⟨2047, rfl⟩
      rw [em5, F_X12_sort_107_s]
      have e149 := f_149W (G := G) (b := b) (nx := nx) (h0 := h0) w7 p5
      simp (maxSteps := 3000000) (disch := omega) only [w7, e149, ma_msa_n, ma_msa_s, mi_msi_n, mi_msi_s, ml_msl_n, ml_msl_s, ma_msi, ma_msl, mi_msa, mi_msl, ml_msa, ml_msi, msa_msa, msi_msi, msl_msl, ck_m, gf_s, gf_image, gf_truths, gf_knownRow, gf_daysRow, gf_bests, gf_nots, gf_lookeds, gf_bestsAt, gf_worths, gf_keptKnown, gf_keptDays, gf_round, gf_sums, gf_bestRound, gf_bodies, gf_thrown, gf_hasImage, gf_act, gf_spot, gf_size, gf_isWrong, gf_open, gf_edgeThing, gf_edgeMore, gf_stamp, gf_whose, gf_wage, gf_roundMany, gf_bestSet, gf_ran, gf_kind, gf_who, gf_tellsV, pf_thrown, pf_hasImage, pf_act, pf_spot, pf_size, pf_isWrong, pf_open, pf_edgeThing, pf_edgeMore, pf_stamp, pf_whose, pf_wage, pf_roundMany, pf_bestSet, pf_ran, pf_kind, pf_who, pf_tellsV, al_s, as_s, al_image, as_image, al_truths, as_truths0, as_truths1, al_knownRow, as_knownRow, al_daysRow, as_daysRow, al_bests, as_bests, al_nots, as_nots, al_lookeds, as_lookeds, al_bestsAt, as_bestsAt, al_worths, as_worths, al_keptKnown, as_keptKnown, al_keptDays, as_keptDays, al_round, as_round, al_sums, as_sums, al_bestRound, as_bestRound, al_bodies, as_bodies, cl_some, nm_b, nn_some, qn_some, qn_none, zk_0, zk_1, zk_n0, zk_n1, nI_add, pk_mul, pk_sub, nI_leE, nI_ltE, nI_eqE, nI_lt0, nI_ge0, nI_eq0, nI_gt0, nI_le0, ilt_t, ilt_f, ile_t, ile_f, ieq_t, ieq_f, if_tt, if_ff, Nat.add_sub_cancel]
    rw [e107] at e2
    have c1 : ¬ (soT (ma S 1) a q).1 = true := by rw [et]; exact ffF
    refine ⟨st1, e2.trans ?_, (f0.trans (fr1578 fx)).mono (by decide), fun z => absurd z.1 c1, fun _ => ?_⟩
    · rw [if_neg (fun w => c1 w.1), et]
    · rw [s1] at agx
      rw [sx]
      exact ag0.trans agx
end FSO
