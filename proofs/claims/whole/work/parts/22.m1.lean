/-! THE REFERENCE, first: tests, sums, chances, a day -/
section M0
variable {α β : Type}
theorem ilt_t {a b : Nat} {x y : α} (h : a < b) : (if a < b then x else y) = x := if_pos h
theorem ilt_f {a b : Nat} {x y : α} (h : ¬ a < b) : (if a < b then x else y) = y := if_neg h
theorem ile_t {a b : Nat} {x y : α} (h : a ≤ b) : (if a ≤ b then x else y) = x := if_pos h
theorem ile_f {a b : Nat} {x y : α} (h : ¬ a ≤ b) : (if a ≤ b then x else y) = y := if_neg h
theorem ieq_t {a b : Nat} {x y : α} (h : a = b) : (if a = b then x else y) = x := if_pos h
theorem ieq_f {a b : Nat} {x y : α} (h : ¬ a = b) : (if a = b then x else y) = y := if_neg h
theorem if_tt {x y : α} : (if True then x else y) = x := if_pos trivial
theorem if_ff {x y : α} : (if False then x else y) = y := if_neg (fun q => q)
theorem ma_msi {st : MS} {k j : Nat} {x : Int32} : ma (msi st k x) j = ma st j := id rfl
theorem ma_msl {st : MS} {k j : Nat} {f : Nat → Int64} : ma (msl st k f) j = ma st j := id rfl
theorem mi_msa {st : MS} {k j : Nat} {f : Nat → Int32} : mi (msa st k f) j = mi st j := id rfl
theorem mi_msl {st : MS} {k j : Nat} {f : Nat → Int64} : mi (msl st k f) j = mi st j := id rfl
theorem ml_msa {st : MS} {k j : Nat} {f : Nat → Int32} : ml (msa st k f) j = ml st j := id rfl
theorem ml_msi {st : MS} {k j : Nat} {x : Int32} : ml (msi st k x) j = ml st j := id rfl
theorem msi_msi {st : MS} {k : Nat} {x y : Int32} : msi (msi st k x) k y = msi st k y := by
  unfold msi
  rw [upK_upK]
theorem msl_msl {st : MS} {k : Nat} {f g : Nat → Int64} : msl (msl st k f) k g = msl st k g := by
  unfold msl
  rw [upK_upK]
end M0
section M1
variable {G : Gx} {b : Nat} {st : MS} {h0 : Hp} {nx : Nat}
theorem f_in {h : Hp} {v lo hi : Int32} : F_X12_in G h nx v lo hi = some (bIn v lo hi, h, nx) := by
  unfold F_X12_in F_X12_in_14 F_X12_in_15 bIn
  by_cases c1 : v < lo
  · rw [if_pos c1, if_neg (fun q => Int32.not_lt.mpr q.1 c1)]
    rfl
  · by_cases c2 : hi < v
    · rw [if_neg c1, if_pos c2, if_neg (fun q => Int32.not_lt.mpr q.2 c2)]
      rfl
    · rw [if_neg c1, if_neg c2, if_pos ⟨Int32.not_lt.mp c1, Int32.not_lt.mp c2⟩]
      rfl
theorem f_isSort {k : Int32} : F_X12_isSort G (encM G b st h0) nx b k = some (bIn k (nI 0) (ma st 1 0 - nI 1), encM G b st h0, nx) := by
  unfold F_X12_isSort
  simp (maxSteps := 3000000) (disch := omega) only [f_in, ma_msa_n, ma_msa_s, mi_msi_n, mi_msi_s, ml_msl_n, ml_msl_s, ma_msi, ma_msl, mi_msa, mi_msl, ml_msa, ml_msi, msa_msa, msi_msi, msl_msl, ck_m, gf_s, gf_image, gf_truths, gf_knownRow, gf_daysRow, gf_bests, gf_nots, gf_lookeds, gf_bestsAt, gf_worths, gf_keptKnown, gf_keptDays, gf_round, gf_sums, gf_bestRound, gf_bodies, gf_thrown, gf_hasImage, gf_act, gf_spot, gf_size, gf_isWrong, gf_open, gf_edgeThing, gf_edgeMore, gf_stamp, gf_whose, gf_wage, gf_roundMany, gf_bestSet, gf_ran, gf_kind, gf_who, gf_tellsV, pf_thrown, pf_hasImage, pf_act, pf_spot, pf_size, pf_isWrong, pf_open, pf_edgeThing, pf_edgeMore, pf_stamp, pf_whose, pf_wage, pf_roundMany, pf_bestSet, pf_ran, pf_kind, pf_who, pf_tellsV, al_s, as_s, al_image, as_image, al_truths, as_truths0, as_truths1, al_knownRow, as_knownRow, al_daysRow, as_daysRow, al_bests, as_bests, al_nots, as_nots, al_lookeds, as_lookeds, al_bestsAt, as_bestsAt, al_worths, as_worths, al_keptKnown, as_keptKnown, al_keptDays, as_keptDays, al_round, as_round, al_sums, as_sums, al_bestRound, as_bestRound, al_bodies, as_bodies, cl_some, nm_b, nn_some, qn_some, qn_none, zk_0, zk_1, zk_n0, zk_n1, nI_add, pk_mul, pk_sub, nI_leE, nI_ltE, nI_eqE, nI_lt0, nI_ge0, nI_eq0, nI_gt0, nI_le0, ilt_t, ilt_f, ile_t, ile_f, ieq_t, ieq_f, if_tt, if_ff, Nat.add_sub_cancel]
  rw [zk_of (bIn_z _ _ _)]
theorem f_isThing {k : Int32} : F_X12_isThing G (encM G b st h0) nx b k = some (bIn k (nI 0) (ma st 1 1 - nI 1), encM G b st h0, nx) := by
  unfold F_X12_isThing
  simp (maxSteps := 3000000) (disch := omega) only [f_in, ma_msa_n, ma_msa_s, mi_msi_n, mi_msi_s, ml_msl_n, ml_msl_s, ma_msi, ma_msl, mi_msa, mi_msl, ml_msa, ml_msi, msa_msa, msi_msi, msl_msl, ck_m, gf_s, gf_image, gf_truths, gf_knownRow, gf_daysRow, gf_bests, gf_nots, gf_lookeds, gf_bestsAt, gf_worths, gf_keptKnown, gf_keptDays, gf_round, gf_sums, gf_bestRound, gf_bodies, gf_thrown, gf_hasImage, gf_act, gf_spot, gf_size, gf_isWrong, gf_open, gf_edgeThing, gf_edgeMore, gf_stamp, gf_whose, gf_wage, gf_roundMany, gf_bestSet, gf_ran, gf_kind, gf_who, gf_tellsV, pf_thrown, pf_hasImage, pf_act, pf_spot, pf_size, pf_isWrong, pf_open, pf_edgeThing, pf_edgeMore, pf_stamp, pf_whose, pf_wage, pf_roundMany, pf_bestSet, pf_ran, pf_kind, pf_who, pf_tellsV, al_s, as_s, al_image, as_image, al_truths, as_truths0, as_truths1, al_knownRow, as_knownRow, al_daysRow, as_daysRow, al_bests, as_bests, al_nots, as_nots, al_lookeds, as_lookeds, al_bestsAt, as_bestsAt, al_worths, as_worths, al_keptKnown, as_keptKnown, al_keptDays, as_keptDays, al_round, as_round, al_sums, as_sums, al_bestRound, as_bestRound, al_bodies, as_bodies, cl_some, nm_b, nn_some, qn_some, qn_none, zk_0, zk_1, zk_n0, zk_n1, nI_add, pk_mul, pk_sub, nI_leE, nI_ltE, nI_eqE, nI_lt0, nI_ge0, nI_eq0, nI_gt0, nI_le0, ilt_t, ilt_f, ile_t, ile_f, ieq_t, ieq_f, if_tt, if_ff, Nat.add_sub_cancel]
  rw [zk_of (bIn_z _ _ _)]
theorem f_isPlan {k : Int32} : F_X12_isPlan G (encM G b st h0) nx b k = some (bIn k (nI 0) (ma st 1 2 - nI 1), encM G b st h0, nx) := by
  unfold F_X12_isPlan
  simp (maxSteps := 3000000) (disch := omega) only [f_in, ma_msa_n, ma_msa_s, mi_msi_n, mi_msi_s, ml_msl_n, ml_msl_s, ma_msi, ma_msl, mi_msa, mi_msl, ml_msa, ml_msi, msa_msa, msi_msi, msl_msl, ck_m, gf_s, gf_image, gf_truths, gf_knownRow, gf_daysRow, gf_bests, gf_nots, gf_lookeds, gf_bestsAt, gf_worths, gf_keptKnown, gf_keptDays, gf_round, gf_sums, gf_bestRound, gf_bodies, gf_thrown, gf_hasImage, gf_act, gf_spot, gf_size, gf_isWrong, gf_open, gf_edgeThing, gf_edgeMore, gf_stamp, gf_whose, gf_wage, gf_roundMany, gf_bestSet, gf_ran, gf_kind, gf_who, gf_tellsV, pf_thrown, pf_hasImage, pf_act, pf_spot, pf_size, pf_isWrong, pf_open, pf_edgeThing, pf_edgeMore, pf_stamp, pf_whose, pf_wage, pf_roundMany, pf_bestSet, pf_ran, pf_kind, pf_who, pf_tellsV, al_s, as_s, al_image, as_image, al_truths, as_truths0, as_truths1, al_knownRow, as_knownRow, al_daysRow, as_daysRow, al_bests, as_bests, al_nots, as_nots, al_lookeds, as_lookeds, al_bestsAt, as_bestsAt, al_worths, as_worths, al_keptKnown, as_keptKnown, al_keptDays, as_keptDays, al_round, as_round, al_sums, as_sums, al_bestRound, as_bestRound, al_bodies, as_bodies, cl_some, nm_b, nn_some, qn_some, qn_none, zk_0, zk_1, zk_n0, zk_n1, nI_add, pk_mul, pk_sub, nI_leE, nI_ltE, nI_eqE, nI_lt0, nI_ge0, nI_eq0, nI_gt0, nI_le0, ilt_t, ilt_f, ile_t, ile_f, ieq_t, ieq_f, if_tt, if_ff, Nat.add_sub_cancel]
  rw [zk_of (bIn_z _ _ _)]
theorem f_later {h : Hp} {x : Int32} : F_X12_later G h nx x = some (laterF x, h, nx) := by
  unfold F_X12_later F_X12_later_16 laterF
  by_cases c : nI 999 ≤ x
  · rw [if_pos c, if_neg (Int32.not_lt.mpr c)]
  · rw [if_neg c, if_pos (Int32.not_le.mp c)]
set_option maxRecDepth 100000 in
set_option maxHeartbeats 4000000 in
theorem f_push {a : Nat} {w dd k sum l7 : Int32} {t i : Nat} {tr : Nat → Int32} {kk : Hp → Nat → Nat → Int32 → Int32 → Int32 → Int32 → Int32 → Int32 → Int32 → Int32 → Rz Int32} {s : Int32} (ht : t < 64) : F_X12_summed_66 G kk (encM G b (msa st 9 tr) h0) nx (isM s dd k) b (nI a) w dd k (nI t) sum l7 (nI i) s = kk (encM G b (msa st 9 (upK tr t (b2i (tsM s dd k)))) h0) nx b (nI a) w dd k (nI (t + 1)) sum l7 (nI (i + 1)) := by
  unfold F_X12_summed_66 F_X12_summed_144 F_X12_summed_312
  simp (maxSteps := 3000000) (disch := omega) only [ma_msa_n, ma_msa_s, mi_msi_n, mi_msi_s, ml_msl_n, ml_msl_s, ma_msi, ma_msl, mi_msa, mi_msl, ml_msa, ml_msi, msa_msa, msi_msi, msl_msl, ck_m, gf_s, gf_image, gf_truths, gf_knownRow, gf_daysRow, gf_bests, gf_nots, gf_lookeds, gf_bestsAt, gf_worths, gf_keptKnown, gf_keptDays, gf_round, gf_sums, gf_bestRound, gf_bodies, gf_thrown, gf_hasImage, gf_act, gf_spot, gf_size, gf_isWrong, gf_open, gf_edgeThing, gf_edgeMore, gf_stamp, gf_whose, gf_wage, gf_roundMany, gf_bestSet, gf_ran, gf_kind, gf_who, gf_tellsV, pf_thrown, pf_hasImage, pf_act, pf_spot, pf_size, pf_isWrong, pf_open, pf_edgeThing, pf_edgeMore, pf_stamp, pf_whose, pf_wage, pf_roundMany, pf_bestSet, pf_ran, pf_kind, pf_who, pf_tellsV, al_s, as_s, al_image, as_image, al_truths, as_truths0, as_truths1, al_knownRow, as_knownRow, al_daysRow, as_daysRow, al_bests, as_bests, al_nots, as_nots, al_lookeds, as_lookeds, al_bestsAt, as_bestsAt, al_worths, as_worths, al_keptKnown, as_keptKnown, al_keptDays, as_keptDays, al_round, as_round, al_sums, as_sums, al_bestRound, as_bestRound, al_bodies, as_bodies, cl_some, nm_b, nn_some, qn_some, qn_none, zk_0, zk_1, zk_n0, zk_n1, nI_add, pk_mul, pk_sub, nI_leE, nI_ltE, nI_eqE, nI_lt0, nI_ge0, nI_eq0, nI_gt0, nI_le0, ilt_t, ilt_f, ile_t, ile_f, ieq_t, ieq_f, if_tt, if_ff, Nat.add_sub_cancel]
  have z0 : nI 0 = (0 : Int32) := rfl
  by_cases c1 : s / nI 2 - s / nI 2 / nI 4 * nI 4 = 0
  · rw [if_pos c1]
    by_cases c2 : s / nI 8 ≤ isM s dd k
    · rw [if_pos c2]
      rw [show tsM s dd k = false by unfold tsM; rw [if_pos c1]; exact decide_eq_false (Int32.not_lt.mpr c2)]
      rfl
    · rw [if_neg c2]
      rw [show tsM s dd k = true by unfold tsM; rw [if_pos c1]; exact decide_eq_true (Int32.not_le.mp c2)]
      rfl
  · rw [if_neg c1]
    by_cases c2 : s / nI 2 - s / nI 2 / nI 4 * nI 4 = nI 1
    · rw [if_pos c2]
      by_cases c3 : isM s dd k = s / nI 8
      · rw [if_pos c3]
        rw [show tsM s dd k = true by unfold tsM; rw [if_neg c1, if_pos c2]; exact decide_eq_true c3]
        rfl
      · rw [if_neg c3]
        rw [show tsM s dd k = false by unfold tsM; rw [if_neg c1, if_pos c2]; exact decide_eq_false c3]
        rfl
    · rw [if_neg c2]
      by_cases c3 : isM s dd k ≤ s / nI 8
      · rw [if_pos c3]
        rw [show tsM s dd k = false by unfold tsM; rw [if_neg c1, if_neg c2]; exact decide_eq_false (Int32.not_lt.mpr c3)]
        rfl
      · rw [if_neg c3]
        rw [show tsM s dd k = true by unfold tsM; rw [if_neg c1, if_neg c2]; exact decide_eq_true (Int32.not_le.mp c3)]
        rfl
set_option maxRecDepth 100000 in
set_option maxHeartbeats 4000000 in
theorem f_summed_loop {a len : Nat} {w dd k : Int32} (ha : a < 6) (hlen : ma st 1 (130 + a) = nI len) (hl : len ≤ 140) : ∀ (rem : List Int32) (i : Nat) (tk : List Bool) (sum : Int32) (tr : Nat → Int32) (m : Nat), i + rem.length = len → (∀ j : Nat, j < rem.length → ma st 1 (170 + 140 * a + (i + j)) = rem.getD j 0) → okC rem tk.length → tk.length ≤ 14 → SR tr tk → rem.length < m →
    ∃ tr' : Nat → Int32, F_X12_summed_21 G m (encM G b (msa st 9 tr) h0) nx b (nI a) w dd k (nI tk.length) sum (nI (170 + 140 * a)) (nI (170 + 140 * a + i)) = some (capC (runC w dd k rem tk sum), encM G b (msa st 9 tr') h0, nx) := by
  intro rem
  induction rem with
  | nil =>
    intro i tk sum tr m hi hc ho ht hs hm
    obtain ⟨m, rfl⟩ : ∃ q, m = q + 1 := ⟨m - 1, by simp at hm; omega⟩
    have hi : i = len := by simpa using hi
    subst hi
    refine ⟨tr, ?_⟩
    rw [F_X12_summed_21_s]
    unfold F_X12_summed_334
    simp (maxSteps := 3000000) (disch := omega) only [hlen, ma_msa_n, ma_msa_s, mi_msi_n, mi_msi_s, ml_msl_n, ml_msl_s, ma_msi, ma_msl, mi_msa, mi_msl, ml_msa, ml_msi, msa_msa, msi_msi, msl_msl, ck_m, gf_s, gf_image, gf_truths, gf_knownRow, gf_daysRow, gf_bests, gf_nots, gf_lookeds, gf_bestsAt, gf_worths, gf_keptKnown, gf_keptDays, gf_round, gf_sums, gf_bestRound, gf_bodies, gf_thrown, gf_hasImage, gf_act, gf_spot, gf_size, gf_isWrong, gf_open, gf_edgeThing, gf_edgeMore, gf_stamp, gf_whose, gf_wage, gf_roundMany, gf_bestSet, gf_ran, gf_kind, gf_who, gf_tellsV, pf_thrown, pf_hasImage, pf_act, pf_spot, pf_size, pf_isWrong, pf_open, pf_edgeThing, pf_edgeMore, pf_stamp, pf_whose, pf_wage, pf_roundMany, pf_bestSet, pf_ran, pf_kind, pf_who, pf_tellsV, al_s, as_s, al_image, as_image, al_truths, as_truths0, as_truths1, al_knownRow, as_knownRow, al_daysRow, as_daysRow, al_bests, as_bests, al_nots, as_nots, al_lookeds, as_lookeds, al_bestsAt, as_bestsAt, al_worths, as_worths, al_keptKnown, as_keptKnown, al_keptDays, as_keptDays, al_round, as_round, al_sums, as_sums, al_bestRound, as_bestRound, al_bodies, as_bodies, cl_some, nm_b, nn_some, qn_some, qn_none, zk_0, zk_1, zk_n0, zk_n1, nI_add, pk_mul, pk_sub, nI_leE, nI_ltE, nI_eqE, nI_lt0, nI_ge0, nI_eq0, nI_gt0, nI_le0, ilt_t, ilt_f, ile_t, ile_f, ieq_t, ieq_f, if_tt, if_ff, Nat.add_sub_cancel]
    unfold runC capC
    by_cases c : sum ≤ nI 1000
    · rw [if_pos c, if_neg (Int32.not_lt.mpr c)]
    · rw [if_neg c, if_pos (Int32.not_le.mp c)]
  | cons s rem ih =>
    intro i tk sum tr m hi hc ho ht hs hm
    obtain ⟨m, rfl⟩ : ∃ q, m = q + 1 := ⟨m - 1, by omega⟩
    have hi1 : (i + 1) + rem.length = len := by simp at hi; omega
    have hm1 : rem.length < m := by simp at hm; omega
    have hil : i < len := by omega
    have hcs : ma st 1 (170 + 140 * a + i) = s := hc 0 (by simp)
    have hc1 : ∀ j : Nat, j < rem.length → ma st 1 (170 + 140 * a + (i + 1 + j)) = rem.getD j 0 := fun j hj => by
      have := hc (j + 1) (by simp; omega)
      rw [show i + 1 + j = i + (j + 1) by omega]
      exact this
    rw [F_X12_summed_21_s]
    simp (maxSteps := 3000000) (disch := omega) only [hlen, hcs, ma_msa_n, ma_msa_s, mi_msi_n, mi_msi_s, ml_msl_n, ml_msl_s, ma_msi, ma_msl, mi_msa, mi_msl, ml_msa, ml_msi, msa_msa, msi_msi, msl_msl, ck_m, gf_s, gf_image, gf_truths, gf_knownRow, gf_daysRow, gf_bests, gf_nots, gf_lookeds, gf_bestsAt, gf_worths, gf_keptKnown, gf_keptDays, gf_round, gf_sums, gf_bestRound, gf_bodies, gf_thrown, gf_hasImage, gf_act, gf_spot, gf_size, gf_isWrong, gf_open, gf_edgeThing, gf_edgeMore, gf_stamp, gf_whose, gf_wage, gf_roundMany, gf_bestSet, gf_ran, gf_kind, gf_who, gf_tellsV, pf_thrown, pf_hasImage, pf_act, pf_spot, pf_size, pf_isWrong, pf_open, pf_edgeThing, pf_edgeMore, pf_stamp, pf_whose, pf_wage, pf_roundMany, pf_bestSet, pf_ran, pf_kind, pf_who, pf_tellsV, al_s, as_s, al_image, as_image, al_truths, as_truths0, as_truths1, al_knownRow, as_knownRow, al_daysRow, as_daysRow, al_bests, as_bests, al_nots, as_nots, al_lookeds, as_lookeds, al_bestsAt, as_bestsAt, al_worths, as_worths, al_keptKnown, as_keptKnown, al_keptDays, as_keptDays, al_round, as_round, al_sums, as_sums, al_bestRound, as_bestRound, al_bodies, as_bodies, cl_some, nm_b, nn_some, qn_some, qn_none, zk_0, zk_1, zk_n0, zk_n1, nI_add, pk_mul, pk_sub, nI_leE, nI_ltE, nI_eqE, nI_lt0, nI_ge0, nI_eq0, nI_gt0, nI_le0, ilt_t, ilt_f, ile_t, ile_f, ieq_t, ieq_f, if_tt, if_ff, Nat.add_sub_cancel]
    show ∃ tr', _ = some (capC (runC w dd k rem (stpC w dd k s tk sum).1 (stpC w dd k s tk sum).2), _, _)
    rcases ho with ⟨c0, ht1, ho⟩ | ⟨rfl, ht1, ho⟩ | ⟨c3, ht1, ho⟩ | ⟨c9, ht1, ho⟩
    · rw [if_neg c0]
      have e1 : stpC w dd k s tk sum = (tsM s dd k :: tk, sum) := by unfold stpC; rw [if_neg c0]
      have e2 : (if s - s / nI 2 * nI 2 = 0 then F_X12_summed_66 G (F_X12_summed_21 G m) (encM G b (msa st 9 tr) h0) nx dd b (nI a) w dd k (nI tk.length) sum (nI (170 + 140 * a)) (nI (170 + 140 * a + i)) s else F_X12_summed_66 G (F_X12_summed_21 G m) (encM G b (msa st 9 tr) h0) nx k b (nI a) w dd k (nI tk.length) sum (nI (170 + 140 * a)) (nI (170 + 140 * a + i)) s) = F_X12_summed_66 G (F_X12_summed_21 G m) (encM G b (msa st 9 tr) h0) nx (isM s dd k) b (nI a) w dd k (nI tk.length) sum (nI (170 + 140 * a)) (nI (170 + 140 * a + i)) s := by
        unfold isM
        split <;> rfl
      rw [e1, e2, f_push (by omega)]
      exact ih (i + 1) (tsM s dd k :: tk) sum _ m hi1 hc1 ho (by simp; omega) ⟨upK_s, SR_up hs (Nat.le_refl _)⟩ hm1
    · cases tk with
      | nil => simp at ht1
      | cons x t =>
        have hx : tr t.length = b2i x := hs.1
        rw [if_pos (by decide), if_pos rfl]
        rw [show nI (x :: t).length - nI 1 = nI t.length from pk_sub (by simp)]
        have htl : t.length < 64 := by simp at ht; omega
        simp (maxSteps := 3000000) (disch := omega) only [F_X12_summed_182, F_X12_summed_312, hx, ma_msa_n, ma_msa_s, mi_msi_n, mi_msi_s, ml_msl_n, ml_msl_s, ma_msi, ma_msl, mi_msa, mi_msl, ml_msa, ml_msi, msa_msa, msi_msi, msl_msl, ck_m, gf_s, gf_image, gf_truths, gf_knownRow, gf_daysRow, gf_bests, gf_nots, gf_lookeds, gf_bestsAt, gf_worths, gf_keptKnown, gf_keptDays, gf_round, gf_sums, gf_bestRound, gf_bodies, gf_thrown, gf_hasImage, gf_act, gf_spot, gf_size, gf_isWrong, gf_open, gf_edgeThing, gf_edgeMore, gf_stamp, gf_whose, gf_wage, gf_roundMany, gf_bestSet, gf_ran, gf_kind, gf_who, gf_tellsV, pf_thrown, pf_hasImage, pf_act, pf_spot, pf_size, pf_isWrong, pf_open, pf_edgeThing, pf_edgeMore, pf_stamp, pf_whose, pf_wage, pf_roundMany, pf_bestSet, pf_ran, pf_kind, pf_who, pf_tellsV, al_s, as_s, al_image, as_image, al_truths, as_truths0, as_truths1, al_knownRow, as_knownRow, al_daysRow, as_daysRow, al_bests, as_bests, al_nots, as_nots, al_lookeds, as_lookeds, al_bestsAt, as_bestsAt, al_worths, as_worths, al_keptKnown, as_keptKnown, al_keptDays, as_keptDays, al_round, as_round, al_sums, as_sums, al_bestRound, as_bestRound, al_bodies, as_bodies, cl_some, nm_b, nn_some, qn_some, qn_none, zk_0, zk_1, zk_n0, zk_n1, nI_add, pk_mul, pk_sub, nI_leE, nI_ltE, nI_eqE, nI_lt0, nI_ge0, nI_eq0, nI_gt0, nI_le0, ilt_t, ilt_f, ile_t, ile_f, ieq_t, ieq_f, if_tt, if_ff, Nat.add_sub_cancel]
        have e1 : stpC w dd k (-1) (x :: t) sum = ((!x) :: t, sum) := rfl
        rw [e1]
        have fin : ∃ tr', F_X12_summed_21 G m (encM G b (msa st 9 (upK tr t.length (b2i (!x)))) h0) nx b (nI a) w dd k (nI (x :: t).length) sum (nI (170 + 140 * a)) (nI (170 + 140 * a + i + 1)) = some (capC (runC w dd k rem ((!x) :: t) sum), encM G b (msa st 9 tr') h0, nx) := ih (i + 1) ((!x) :: t) sum _ m hi1 hc1 ho ht ⟨upK_s, SR_up hs.2 (Nat.le_refl _)⟩ hm1
        cases x with
        | true =>
          rw [if_neg (show ¬ b2i true = 0 by decide)]
          exact fin
        | false =>
          rw [if_pos (show b2i false = 0 by decide)]
          exact fin
    · match tk, hs, ht, ht1, ho with
      | x :: y :: t, hs, ht, ht1, ho =>
        have hx : tr (t.length + 1) = b2i x := hs.1
        have hy : tr t.length = b2i y := hs.2.1
        have htl : t.length + 1 < 64 := by simp at ht; omega
        have hln : (x :: y :: t).length = t.length + 2 := rfl
        have hn1 : ¬ s = -1 := by rcases c3 with rfl | rfl <;> decide
        have hn9 : ¬ s ≤ -10 := by rcases c3 with rfl | rfl <;> decide
        rw [if_pos (show s < 0 by rcases c3 with rfl | rfl <;> decide), if_neg hn1, if_neg hn9, hln]
        rw [show nI (t.length + 2) + (-1) = nI (t.length + 1) from pk_m1 _]
        have ho : okC rem (t.length + 1) := ho
        have fin : ∀ z : Bool, ∃ tr', F_X12_summed_21 G m (encM G b (msa st 9 (upK tr t.length (b2i z))) h0) nx b (nI a) w dd k (nI (t.length + 1)) sum (nI (170 + 140 * a)) (nI (170 + 140 * a + i + 1)) = some (capC (runC w dd k rem (z :: t) sum), encM G b (msa st 9 tr') h0, nx) := fun z => ih (i + 1) (z :: t) sum _ m hi1 hc1 ho (by simp at ht ⊢; omega) ⟨upK_s, SR_up hs.2.2 (Nat.le_refl _)⟩ hm1
        simp (maxSteps := 3000000) (disch := omega) only [F_X12_summed_268, F_X12_summed_263, F_X12_summed_237, F_X12_summed_312, hx, hy, show (t.length + 1 - 1) = t.length from rfl, ma_msa_n, ma_msa_s, mi_msi_n, mi_msi_s, ml_msl_n, ml_msl_s, ma_msi, ma_msl, mi_msa, mi_msl, ml_msa, ml_msi, msa_msa, msi_msi, msl_msl, ck_m, gf_s, gf_image, gf_truths, gf_knownRow, gf_daysRow, gf_bests, gf_nots, gf_lookeds, gf_bestsAt, gf_worths, gf_keptKnown, gf_keptDays, gf_round, gf_sums, gf_bestRound, gf_bodies, gf_thrown, gf_hasImage, gf_act, gf_spot, gf_size, gf_isWrong, gf_open, gf_edgeThing, gf_edgeMore, gf_stamp, gf_whose, gf_wage, gf_roundMany, gf_bestSet, gf_ran, gf_kind, gf_who, gf_tellsV, pf_thrown, pf_hasImage, pf_act, pf_spot, pf_size, pf_isWrong, pf_open, pf_edgeThing, pf_edgeMore, pf_stamp, pf_whose, pf_wage, pf_roundMany, pf_bestSet, pf_ran, pf_kind, pf_who, pf_tellsV, al_s, as_s, al_image, as_image, al_truths, as_truths0, as_truths1, al_knownRow, as_knownRow, al_daysRow, as_daysRow, al_bests, as_bests, al_nots, as_nots, al_lookeds, as_lookeds, al_bestsAt, as_bestsAt, al_worths, as_worths, al_keptKnown, as_keptKnown, al_keptDays, as_keptDays, al_round, as_round, al_sums, as_sums, al_bestRound, as_bestRound, al_bodies, as_bodies, cl_some, nm_b, nn_some, qn_some, qn_none, zk_0, zk_1, zk_n0, zk_n1, nI_add, pk_mul, pk_sub, nI_leE, nI_ltE, nI_eqE, nI_lt0, nI_ge0, nI_eq0, nI_gt0, nI_le0, ilt_t, ilt_f, ile_t, ile_f, ieq_t, ieq_f, if_tt, if_ff, Nat.add_sub_cancel]
        have e1 : stpC w dd k s (x :: y :: t) sum = ((if s = -2 then (y && x) else (y || x)) :: t, sum) := by
          unfold stpC
          rw [if_pos (show s < 0 by rcases c3 with rfl | rfl <;> decide), if_neg hn1, if_neg hn9]
        rw [e1]
        by_cases c2 : s = -2
        · rw [if_pos c2, if_pos c2]
          cases y with
          | false => rw [if_pos (show b2i false = 0 from rfl)]; exact fin false
          | true =>
            rw [if_neg (show ¬ b2i true = 0 by decide)]
            cases x with
            | false => rw [if_pos (show b2i false = 0 from rfl)]; exact fin false
            | true => rw [if_neg (show ¬ b2i true = 0 by decide)]; exact fin true
        · rw [if_neg c2, if_neg c2]
          cases y with
          | true => rw [if_neg (show ¬ b2i true = 0 by decide)]; exact fin true
          | false =>
            rw [if_pos (show b2i false = 0 from rfl)]
            cases x with
            | false => rw [if_pos (show b2i false = 0 from rfl)]; exact fin false
            | true => rw [if_neg (show ¬ b2i true = 0 by decide)]; exact fin true
      | [x], _, _, ht1, _ => simp at ht1
      | [], _, _, ht1, _ => simp at ht1
    · match tk, hs, ht1 with
      | [x], hs, _ =>
        have hx : tr 0 = b2i x := hs.1
        have c0 : s < 0 := Int32.lt_of_le_of_lt c9 (by decide)
        have hn1 : ¬ s = -1 := fun q => by rw [q] at c9; exact absurd c9 (by decide)
        rw [if_pos c0, if_neg hn1, if_pos c9]
        have e1 : stpC w dd k s [x] sum = ([], sum + (if x = true ∧ (-10 - s) - (-10 - s) / nI 2 * nI 2 = w then (-10 - s) / nI 2 else 0)) := by
          unfold stpC
          rw [if_pos c0, if_neg hn1, if_pos c9]
          simp
        rw [e1]
        simp (maxSteps := 3000000) (disch := omega) only [F_X12_summed_308, F_X12_summed_309, F_X12_summed_312, hx, ma_msa_n, ma_msa_s, mi_msi_n, mi_msi_s, ml_msl_n, ml_msl_s, ma_msi, ma_msl, mi_msa, mi_msl, ml_msa, ml_msi, msa_msa, msi_msi, msl_msl, ck_m, gf_s, gf_image, gf_truths, gf_knownRow, gf_daysRow, gf_bests, gf_nots, gf_lookeds, gf_bestsAt, gf_worths, gf_keptKnown, gf_keptDays, gf_round, gf_sums, gf_bestRound, gf_bodies, gf_thrown, gf_hasImage, gf_act, gf_spot, gf_size, gf_isWrong, gf_open, gf_edgeThing, gf_edgeMore, gf_stamp, gf_whose, gf_wage, gf_roundMany, gf_bestSet, gf_ran, gf_kind, gf_who, gf_tellsV, pf_thrown, pf_hasImage, pf_act, pf_spot, pf_size, pf_isWrong, pf_open, pf_edgeThing, pf_edgeMore, pf_stamp, pf_whose, pf_wage, pf_roundMany, pf_bestSet, pf_ran, pf_kind, pf_who, pf_tellsV, al_s, as_s, al_image, as_image, al_truths, as_truths0, as_truths1, al_knownRow, as_knownRow, al_daysRow, as_daysRow, al_bests, as_bests, al_nots, as_nots, al_lookeds, as_lookeds, al_bestsAt, as_bestsAt, al_worths, as_worths, al_keptKnown, as_keptKnown, al_keptDays, as_keptDays, al_round, as_round, al_sums, as_sums, al_bestRound, as_bestRound, al_bodies, as_bodies, cl_some, nm_b, nn_some, qn_some, qn_none, zk_0, zk_1, zk_n0, zk_n1, nI_add, pk_mul, pk_sub, nI_leE, nI_ltE, nI_eqE, nI_lt0, nI_ge0, nI_eq0, nI_gt0, nI_le0, ilt_t, ilt_f, ile_t, ile_f, ieq_t, ieq_f, if_tt, if_ff, Nat.add_sub_cancel]
        have fin : ∀ z : Int32, ∃ tr', F_X12_summed_21 G m (encM G b (msa st 9 tr) h0) nx b (nI a) w dd k (nI 0) z (nI (170 + 140 * a)) (nI (170 + 140 * a + i + 1)) = some (capC (runC w dd k rem [] z), encM G b (msa st 9 tr') h0, nx) := fun z => ih (i + 1) [] z _ m hi1 hc1 ho (by simp) trivial hm1
        cases x with
        | false =>
          rw [if_pos (show b2i false = 0 from rfl), if_neg (fun q => by cases q.1)]
          exact fin _
        | true =>
          rw [if_neg (show ¬ b2i true = 0 by decide)]
          by_cases cw : (-10 - s) - (-10 - s) / nI 2 * nI 2 = w
          · rw [if_pos cw, if_pos ⟨rfl, cw⟩]
            exact fin _
          · rw [if_neg cw, if_neg (fun q => cw q.2)]
            exact fin _
      | [], _, h => simp at h
      | _ :: _ :: _, _, h => simp at h
theorem f_summed {a : Nat} {w dd k : Int32} (ha : a < 6) (hc : CodeOk (ma st 1) a) : ∃ tr' : Nat → Int32, F_X12_summed G (encM G b st h0) nx b (nI a) w dd k = some (sumF (ma st 1) a w dd k, encM G b (msa st 9 tr') h0, nx) := by
  obtain ⟨h1, h2, h3⟩ := hc
  unfold F_X12_summed
  simp (maxSteps := 3000000) (disch := omega) only [ma_msa_n, ma_msa_s, mi_msi_n, mi_msi_s, ml_msl_n, ml_msl_s, ma_msi, ma_msl, mi_msa, mi_msl, ml_msa, ml_msi, msa_msa, msi_msi, msl_msl, ck_m, gf_s, gf_image, gf_truths, gf_knownRow, gf_daysRow, gf_bests, gf_nots, gf_lookeds, gf_bestsAt, gf_worths, gf_keptKnown, gf_keptDays, gf_round, gf_sums, gf_bestRound, gf_bodies, gf_thrown, gf_hasImage, gf_act, gf_spot, gf_size, gf_isWrong, gf_open, gf_edgeThing, gf_edgeMore, gf_stamp, gf_whose, gf_wage, gf_roundMany, gf_bestSet, gf_ran, gf_kind, gf_who, gf_tellsV, pf_thrown, pf_hasImage, pf_act, pf_spot, pf_size, pf_isWrong, pf_open, pf_edgeThing, pf_edgeMore, pf_stamp, pf_whose, pf_wage, pf_roundMany, pf_bestSet, pf_ran, pf_kind, pf_who, pf_tellsV, al_s, as_s, al_image, as_image, al_truths, as_truths0, as_truths1, al_knownRow, as_knownRow, al_daysRow, as_daysRow, al_bests, as_bests, al_nots, as_nots, al_lookeds, as_lookeds, al_bestsAt, as_bestsAt, al_worths, as_worths, al_keptKnown, as_keptKnown, al_keptDays, as_keptDays, al_round, as_round, al_sums, as_sums, al_bestRound, as_bestRound, al_bodies, as_bodies, cl_some, nm_b, nn_some, qn_some, qn_none, zk_0, zk_1, zk_n0, zk_n1, nI_add, pk_mul, pk_sub, nI_leE, nI_ltE, nI_eqE, nI_lt0, nI_ge0, nI_eq0, nI_gt0, nI_le0, ilt_t, ilt_f, ile_t, ile_f, ieq_t, ieq_f, if_tt, if_ff, Nat.add_sub_cancel]
  have e := f_summed_loop (G := G) (b := b) (st := st) (h0 := h0) (nx := nx) (w := w) (dd := dd) (k := k) ha h1 h2 (codeL (ma st 1) a) 0 [] 0 (ma st 9) fuelL (by simp [codeL]) (fun j hj => by
    have hj : j < sN (ma st 1) (130 + a) := by simpa [codeL] using hj
    simp [codeL, List.getD, hj]) h3 (by simp) trivial (by simp [codeL, fuelL]; omega)
  rw [msa_self] at e
  exact e
end M1
