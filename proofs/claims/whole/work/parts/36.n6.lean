/-! THE REFERENCE: the acts on the book -/
def SOk (st : MS) (ns : Nat) : Prop := ma st 1 0 = nI ns ∧ ns ≤ 6 ∧ ∀ a, a < ns → CodeOk (ma st 1) a
def asF (S : MS) (p u : Int32) : Int32 := if bIn p (nI 0) (ma S 1 2 - nI 1) = 0 then -1 else if bIn u (nI 0) (nI 6) = 0 then -1 else if unF (ma S 1 (1070 + p.toNatClampNeg)) u = 0 then -6 else ma S 1 (1082 + p.toNatClampNeg)
/-- the first k from one, the others from another -/
def cpF (k : Nat) (f g : Nat → Int32) (i : Nat) : Int32 := if i < k then f i else g i
theorem cpF_0 {f g : Nat → Int32} : cpF 0 f g = g := funext fun i => if_neg (by omega)
theorem cpF_s {k : Nat} {f g : Nat → Int32} : upK (cpF k f g) k (f k) = cpF (k + 1) f g := funext fun i => by
  unfold upK cpF
  by_cases c : i = k
  · subst c
    rw [if_pos rfl, if_pos (by omega)]
  · rw [if_neg c]
    by_cases c2 : i < k
    · rw [if_pos c2, if_pos (by omega)]
    · rw [if_neg c2, if_neg (by omega)]
section N6
variable {G : Gx} {b : Nat} {h0 : Hp} {nx : Nat}
set_option maxRecDepth 100000 in
set_option maxHeartbeats 4000000 in
theorem f_as {st : MS} {nt np lk td : Nat} (hB : BOk st nt np lk td) (p u : Int32) : F_X12_as G (encM G b st h0) nx b p u = some (asF st p u, encM G b st h0, nx) := by
  obtain ⟨hL, hl3, ht, h2, hnp, hp, h3, htd⟩ := hB
  unfold F_X12_as F_X12_as_18 F_X12_as_52 asF
  simp (maxSteps := 3000000) (disch := omega) only [f_isPlan, f_in, ma_msa_n, ma_msa_s, mi_msi_n, mi_msi_s, ml_msl_n, ml_msl_s, ma_msi, ma_msl, mi_msa, mi_msl, ml_msa, ml_msi, msa_msa, msi_msi, msl_msl, ck_m, gf_s, gf_image, gf_truths, gf_knownRow, gf_daysRow, gf_bests, gf_nots, gf_lookeds, gf_bestsAt, gf_worths, gf_keptKnown, gf_keptDays, gf_round, gf_sums, gf_bestRound, gf_bodies, gf_thrown, gf_hasImage, gf_act, gf_spot, gf_size, gf_isWrong, gf_open, gf_edgeThing, gf_edgeMore, gf_stamp, gf_whose, gf_wage, gf_roundMany, gf_bestSet, gf_ran, gf_kind, gf_who, gf_tellsV, pf_thrown, pf_hasImage, pf_act, pf_spot, pf_size, pf_isWrong, pf_open, pf_edgeThing, pf_edgeMore, pf_stamp, pf_whose, pf_wage, pf_roundMany, pf_bestSet, pf_ran, pf_kind, pf_who, pf_tellsV, al_s, as_s, al_image, as_image, al_truths, as_truths0, as_truths1, al_knownRow, as_knownRow, al_daysRow, as_daysRow, al_bests, as_bests, al_nots, as_nots, al_lookeds, as_lookeds, al_bestsAt, as_bestsAt, al_worths, as_worths, al_keptKnown, as_keptKnown, al_keptDays, as_keptDays, al_round, as_round, al_sums, as_sums, al_bestRound, as_bestRound, al_bodies, as_bodies, cl_some, nm_b, nn_some, qn_some, qn_none, zk_0, zk_1, zk_n0, zk_n1, nI_add, pk_mul, pk_sub, nI_leE, nI_ltE, nI_eqE, nI_lt0, nI_ge0, nI_eq0, nI_gt0, nI_le0, ilt_t, ilt_f, ile_t, ile_f, ieq_t, ieq_f, if_tt, if_ff, Nat.add_sub_cancel]
  rw [h2]
  by_cases c1 : bIn p (nI 0) (nI np - nI 1) = 0
  · rw [if_pos c1, if_pos c1]
  · rw [if_neg c1, if_neg c1]
    by_cases c2 : bIn u (nI 0) (nI 6) = 0
    · rw [if_pos c2, if_pos c2]
    · rw [if_neg c2, if_neg c2]
      obtain ⟨p, hp1, rfl⟩ := bIn_nI (by omega) c1
      rw [nI_clamp (by omega)]
      simp (maxSteps := 3000000) (disch := omega) only [f_isUnder, ma_msa_n, ma_msa_s, mi_msi_n, mi_msi_s, ml_msl_n, ml_msl_s, ma_msi, ma_msl, mi_msa, mi_msl, ml_msa, ml_msi, msa_msa, msi_msi, msl_msl, ck_m, gf_s, gf_image, gf_truths, gf_knownRow, gf_daysRow, gf_bests, gf_nots, gf_lookeds, gf_bestsAt, gf_worths, gf_keptKnown, gf_keptDays, gf_round, gf_sums, gf_bestRound, gf_bodies, gf_thrown, gf_hasImage, gf_act, gf_spot, gf_size, gf_isWrong, gf_open, gf_edgeThing, gf_edgeMore, gf_stamp, gf_whose, gf_wage, gf_roundMany, gf_bestSet, gf_ran, gf_kind, gf_who, gf_tellsV, pf_thrown, pf_hasImage, pf_act, pf_spot, pf_size, pf_isWrong, pf_open, pf_edgeThing, pf_edgeMore, pf_stamp, pf_whose, pf_wage, pf_roundMany, pf_bestSet, pf_ran, pf_kind, pf_who, pf_tellsV, al_s, as_s, al_image, as_image, al_truths, as_truths0, as_truths1, al_knownRow, as_knownRow, al_daysRow, as_daysRow, al_bests, as_bests, al_nots, as_nots, al_lookeds, as_lookeds, al_bestsAt, as_bestsAt, al_worths, as_worths, al_keptKnown, as_keptKnown, al_keptDays, as_keptDays, al_round, as_round, al_sums, as_sums, al_bestRound, as_bestRound, al_bodies, as_bodies, cl_some, nm_b, nn_some, qn_some, qn_none, zk_0, zk_1, zk_n0, zk_n1, nI_add, pk_mul, pk_sub, nI_leE, nI_ltE, nI_eqE, nI_lt0, nI_ge0, nI_eq0, nI_gt0, nI_le0, ilt_t, ilt_f, ile_t, ile_f, ieq_t, ieq_f, if_tt, if_ff, Nat.add_sub_cancel]
      by_cases c3 : unF (ma st 1 (1070 + p)) u = 0
      · rw [if_pos c3, if_pos c3]
      · rw [if_neg c3, if_neg c3]
set_option maxRecDepth 100000 in
set_option maxHeartbeats 4000000 in
theorem f_image2 {st : MS} {g : Nat → Int32} : ∀ (r k m : Nat), k + r = 1240 → r < m → F_X12_image_2 G m (encM G b (msa st 2 (cpF k (ma st 1) g)) h0) nx b (nI k) = some (ma st 1 3, encM G b (msi (msa st 2 (cpF 1240 (ma st 1) g)) 3 (nI 1)) h0, nx) := by
  intro r
  induction r with
  | zero =>
    intro k m hk hm
    obtain ⟨m, rfl⟩ : ∃ q, m = q + 1 := ⟨m - 1, by omega⟩
    have hk : k = 1240 := by omega
    subst hk
    rw [F_X12_image_2_s]
    simp (maxSteps := 3000000) (disch := omega) only [ma_msa_n, ma_msa_s, mi_msi_n, mi_msi_s, ml_msl_n, ml_msl_s, ma_msi, ma_msl, mi_msa, mi_msl, ml_msa, ml_msi, msa_msa, msi_msi, msl_msl, ck_m, gf_s, gf_image, gf_truths, gf_knownRow, gf_daysRow, gf_bests, gf_nots, gf_lookeds, gf_bestsAt, gf_worths, gf_keptKnown, gf_keptDays, gf_round, gf_sums, gf_bestRound, gf_bodies, gf_thrown, gf_hasImage, gf_act, gf_spot, gf_size, gf_isWrong, gf_open, gf_edgeThing, gf_edgeMore, gf_stamp, gf_whose, gf_wage, gf_roundMany, gf_bestSet, gf_ran, gf_kind, gf_who, gf_tellsV, pf_thrown, pf_hasImage, pf_act, pf_spot, pf_size, pf_isWrong, pf_open, pf_edgeThing, pf_edgeMore, pf_stamp, pf_whose, pf_wage, pf_roundMany, pf_bestSet, pf_ran, pf_kind, pf_who, pf_tellsV, al_s, as_s, al_image, as_image, al_truths, as_truths0, as_truths1, al_knownRow, as_knownRow, al_daysRow, as_daysRow, al_bests, as_bests, al_nots, as_nots, al_lookeds, as_lookeds, al_bestsAt, as_bestsAt, al_worths, as_worths, al_keptKnown, as_keptKnown, al_keptDays, as_keptDays, al_round, as_round, al_sums, as_sums, al_bestRound, as_bestRound, al_bodies, as_bodies, cl_some, nm_b, nn_some, qn_some, qn_none, zk_0, zk_1, zk_n0, zk_n1, nI_add, pk_mul, pk_sub, nI_leE, nI_ltE, nI_eqE, nI_lt0, nI_ge0, nI_eq0, nI_gt0, nI_le0, ilt_t, ilt_f, ile_t, ile_f, ieq_t, ieq_f, if_tt, if_ff, Nat.add_sub_cancel]
  | succ r ih =>
    intro k m hk hm
    obtain ⟨m, rfl⟩ : ∃ q, m = q + 1 := ⟨m - 1, by omega⟩
    have go := ih (k + 1) m (by omega) (by omega)
    rw [← cpF_s] at go
    rw [F_X12_image_2_s]
    simp (maxSteps := 3000000) (disch := omega) only [ma_msa_n, ma_msa_s, mi_msi_n, mi_msi_s, ml_msl_n, ml_msl_s, ma_msi, ma_msl, mi_msa, mi_msl, ml_msa, ml_msi, msa_msa, msi_msi, msl_msl, ck_m, gf_s, gf_image, gf_truths, gf_knownRow, gf_daysRow, gf_bests, gf_nots, gf_lookeds, gf_bestsAt, gf_worths, gf_keptKnown, gf_keptDays, gf_round, gf_sums, gf_bestRound, gf_bodies, gf_thrown, gf_hasImage, gf_act, gf_spot, gf_size, gf_isWrong, gf_open, gf_edgeThing, gf_edgeMore, gf_stamp, gf_whose, gf_wage, gf_roundMany, gf_bestSet, gf_ran, gf_kind, gf_who, gf_tellsV, pf_thrown, pf_hasImage, pf_act, pf_spot, pf_size, pf_isWrong, pf_open, pf_edgeThing, pf_edgeMore, pf_stamp, pf_whose, pf_wage, pf_roundMany, pf_bestSet, pf_ran, pf_kind, pf_who, pf_tellsV, al_s, as_s, al_image, as_image, al_truths, as_truths0, as_truths1, al_knownRow, as_knownRow, al_daysRow, as_daysRow, al_bests, as_bests, al_nots, as_nots, al_lookeds, as_lookeds, al_bestsAt, as_bestsAt, al_worths, as_worths, al_keptKnown, as_keptKnown, al_keptDays, as_keptDays, al_round, as_round, al_sums, as_sums, al_bestRound, as_bestRound, al_bodies, as_bodies, cl_some, nm_b, nn_some, qn_some, qn_none, zk_0, zk_1, zk_n0, zk_n1, nI_add, pk_mul, pk_sub, nI_leE, nI_ltE, nI_eqE, nI_lt0, nI_ge0, nI_eq0, nI_gt0, nI_le0, ilt_t, ilt_f, ile_t, ile_f, ieq_t, ieq_f, if_tt, if_ff, Nat.add_sub_cancel]
    exact go
theorem f_image {st : MS} : F_X12_image G (encM G b st h0) nx b = some (ma st 1 3, encM G b (msi (msa st 2 (cpF 1240 (ma st 1) (ma st 2))) 3 (nI 1)) h0, nx) := by
  have e := f_image2 (G := G) (b := b) (h0 := h0) (nx := nx) (st := st) (g := ma st 2) 1240 0 fuelL (by omega) (by unfold fuelL; omega)
  rw [cpF_0, msa_self] at e
  exact e
set_option maxRecDepth 100000 in
set_option maxHeartbeats 4000000 in
theorem f_undo12 {st : MS} {g : Nat → Int32} : ∀ (r k m : Nat), k + r = 1240 → r < m → F_X12_undo_12 G m (encM G b (msa st 1 (cpF k (ma st 2) g)) h0) nx b (nI k) = some (ma st 2 3, encM G b (msa st 1 (cpF 1240 (ma st 2) g)) h0, nx) := by
  intro r
  induction r with
  | zero =>
    intro k m hk hm
    obtain ⟨m, rfl⟩ : ∃ q, m = q + 1 := ⟨m - 1, by omega⟩
    have hk : k = 1240 := by omega
    subst hk
    have e3 : cpF 1240 (ma st 2) g 3 = ma st 2 3 := if_pos (by omega)
    rw [F_X12_undo_12_s]
    simp (maxSteps := 3000000) (disch := omega) only [e3, ma_msa_n, ma_msa_s, mi_msi_n, mi_msi_s, ml_msl_n, ml_msl_s, ma_msi, ma_msl, mi_msa, mi_msl, ml_msa, ml_msi, msa_msa, msi_msi, msl_msl, ck_m, gf_s, gf_image, gf_truths, gf_knownRow, gf_daysRow, gf_bests, gf_nots, gf_lookeds, gf_bestsAt, gf_worths, gf_keptKnown, gf_keptDays, gf_round, gf_sums, gf_bestRound, gf_bodies, gf_thrown, gf_hasImage, gf_act, gf_spot, gf_size, gf_isWrong, gf_open, gf_edgeThing, gf_edgeMore, gf_stamp, gf_whose, gf_wage, gf_roundMany, gf_bestSet, gf_ran, gf_kind, gf_who, gf_tellsV, pf_thrown, pf_hasImage, pf_act, pf_spot, pf_size, pf_isWrong, pf_open, pf_edgeThing, pf_edgeMore, pf_stamp, pf_whose, pf_wage, pf_roundMany, pf_bestSet, pf_ran, pf_kind, pf_who, pf_tellsV, al_s, as_s, al_image, as_image, al_truths, as_truths0, as_truths1, al_knownRow, as_knownRow, al_daysRow, as_daysRow, al_bests, as_bests, al_nots, as_nots, al_lookeds, as_lookeds, al_bestsAt, as_bestsAt, al_worths, as_worths, al_keptKnown, as_keptKnown, al_keptDays, as_keptDays, al_round, as_round, al_sums, as_sums, al_bestRound, as_bestRound, al_bodies, as_bodies, cl_some, nm_b, nn_some, qn_some, qn_none, zk_0, zk_1, zk_n0, zk_n1, nI_add, pk_mul, pk_sub, nI_leE, nI_ltE, nI_eqE, nI_lt0, nI_ge0, nI_eq0, nI_gt0, nI_le0, ilt_t, ilt_f, ile_t, ile_f, ieq_t, ieq_f, if_tt, if_ff, Nat.add_sub_cancel]
  | succ r ih =>
    intro k m hk hm
    obtain ⟨m, rfl⟩ : ∃ q, m = q + 1 := ⟨m - 1, by omega⟩
    have go := ih (k + 1) m (by omega) (by omega)
    rw [← cpF_s] at go
    rw [F_X12_undo_12_s]
    simp (maxSteps := 3000000) (disch := omega) only [ma_msa_n, ma_msa_s, mi_msi_n, mi_msi_s, ml_msl_n, ml_msl_s, ma_msi, ma_msl, mi_msa, mi_msl, ml_msa, ml_msi, msa_msa, msi_msi, msl_msl, ck_m, gf_s, gf_image, gf_truths, gf_knownRow, gf_daysRow, gf_bests, gf_nots, gf_lookeds, gf_bestsAt, gf_worths, gf_keptKnown, gf_keptDays, gf_round, gf_sums, gf_bestRound, gf_bodies, gf_thrown, gf_hasImage, gf_act, gf_spot, gf_size, gf_isWrong, gf_open, gf_edgeThing, gf_edgeMore, gf_stamp, gf_whose, gf_wage, gf_roundMany, gf_bestSet, gf_ran, gf_kind, gf_who, gf_tellsV, pf_thrown, pf_hasImage, pf_act, pf_spot, pf_size, pf_isWrong, pf_open, pf_edgeThing, pf_edgeMore, pf_stamp, pf_whose, pf_wage, pf_roundMany, pf_bestSet, pf_ran, pf_kind, pf_who, pf_tellsV, al_s, as_s, al_image, as_image, al_truths, as_truths0, as_truths1, al_knownRow, as_knownRow, al_daysRow, as_daysRow, al_bests, as_bests, al_nots, as_nots, al_lookeds, as_lookeds, al_bestsAt, as_bestsAt, al_worths, as_worths, al_keptKnown, as_keptKnown, al_keptDays, as_keptDays, al_round, as_round, al_sums, as_sums, al_bestRound, as_bestRound, al_bodies, as_bodies, cl_some, nm_b, nn_some, qn_some, qn_none, zk_0, zk_1, zk_n0, zk_n1, nI_add, pk_mul, pk_sub, nI_leE, nI_ltE, nI_eqE, nI_lt0, nI_ge0, nI_eq0, nI_gt0, nI_le0, ilt_t, ilt_f, ile_t, ile_f, ieq_t, ieq_f, if_tt, if_ff, Nat.add_sub_cancel]
    exact go
def undoF (S : MS) : Int32 × (Nat → Int32) := if mi S 3 = 0 then (-3, ma S 1) else (ma S 2 3, cpF 1240 (ma S 2) (ma S 1))
theorem f_undo {st : MS} : F_X12_undo G (encM G b st h0) nx b = some ((undoF st).1, encM G b (msa st 1 (undoF st).2) h0, nx) := by
  have e := f_undo12 (G := G) (b := b) (h0 := h0) (nx := nx) (st := st) (g := ma st 1) 1240 0 fuelL (by omega) (by unfold fuelL; omega)
  rw [cpF_0, msa_self] at e
  unfold F_X12_undo undoF
  simp (maxSteps := 3000000) (disch := omega) only [e, ma_msa_n, ma_msa_s, mi_msi_n, mi_msi_s, ml_msl_n, ml_msl_s, ma_msi, ma_msl, mi_msa, mi_msl, ml_msa, ml_msi, msa_msa, msi_msi, msl_msl, ck_m, gf_s, gf_image, gf_truths, gf_knownRow, gf_daysRow, gf_bests, gf_nots, gf_lookeds, gf_bestsAt, gf_worths, gf_keptKnown, gf_keptDays, gf_round, gf_sums, gf_bestRound, gf_bodies, gf_thrown, gf_hasImage, gf_act, gf_spot, gf_size, gf_isWrong, gf_open, gf_edgeThing, gf_edgeMore, gf_stamp, gf_whose, gf_wage, gf_roundMany, gf_bestSet, gf_ran, gf_kind, gf_who, gf_tellsV, pf_thrown, pf_hasImage, pf_act, pf_spot, pf_size, pf_isWrong, pf_open, pf_edgeThing, pf_edgeMore, pf_stamp, pf_whose, pf_wage, pf_roundMany, pf_bestSet, pf_ran, pf_kind, pf_who, pf_tellsV, al_s, as_s, al_image, as_image, al_truths, as_truths0, as_truths1, al_knownRow, as_knownRow, al_daysRow, as_daysRow, al_bests, as_bests, al_nots, as_nots, al_lookeds, as_lookeds, al_bestsAt, as_bestsAt, al_worths, as_worths, al_keptKnown, as_keptKnown, al_keptDays, as_keptDays, al_round, as_round, al_sums, as_sums, al_bestRound, as_bestRound, al_bodies, as_bodies, cl_some, nm_b, nn_some, qn_some, qn_none, zk_0, zk_1, zk_n0, zk_n1, nI_add, pk_mul, pk_sub, nI_leE, nI_ltE, nI_eqE, nI_lt0, nI_ge0, nI_eq0, nI_gt0, nI_le0, ilt_t, ilt_f, ile_t, ile_f, ieq_t, ieq_f, if_tt, if_ff, Nat.add_sub_cancel]
  by_cases c : mi st 3 = 0
  · rw [if_pos c, if_pos c]
    show _ = some (_, encM G b (msa st 1 (ma st 1)) h0, nx)
    rw [msa_self]
  · rw [if_neg c, if_neg c]
def countF (S : MS) (w : Int32) : Int32 := if w = nI 0 then ma S 1 0 else if w = nI 1 then ma S 1 1 else if w = nI 2 then ma S 1 2 else if w = nI 3 then ma S 1 3 else if w = nI 4 then ma S 1 4 else if w = nI 5 then ma S 1 5 else if w = nI 6 then mi S 30 else -1
set_option maxRecDepth 100000 in
set_option maxHeartbeats 4000000 in
theorem f_count {st : MS} (w : Int32) : F_X12_count G (encM G b st h0) nx b w = some (countF st w, encM G b st h0, nx) := by
  unfold F_X12_count countF
  simp (maxSteps := 3000000) (disch := omega) only [ma_msa_n, ma_msa_s, mi_msi_n, mi_msi_s, ml_msl_n, ml_msl_s, ma_msi, ma_msl, mi_msa, mi_msl, ml_msa, ml_msi, msa_msa, msi_msi, msl_msl, ck_m, gf_s, gf_image, gf_truths, gf_knownRow, gf_daysRow, gf_bests, gf_nots, gf_lookeds, gf_bestsAt, gf_worths, gf_keptKnown, gf_keptDays, gf_round, gf_sums, gf_bestRound, gf_bodies, gf_thrown, gf_hasImage, gf_act, gf_spot, gf_size, gf_isWrong, gf_open, gf_edgeThing, gf_edgeMore, gf_stamp, gf_whose, gf_wage, gf_roundMany, gf_bestSet, gf_ran, gf_kind, gf_who, gf_tellsV, pf_thrown, pf_hasImage, pf_act, pf_spot, pf_size, pf_isWrong, pf_open, pf_edgeThing, pf_edgeMore, pf_stamp, pf_whose, pf_wage, pf_roundMany, pf_bestSet, pf_ran, pf_kind, pf_who, pf_tellsV, al_s, as_s, al_image, as_image, al_truths, as_truths0, as_truths1, al_knownRow, as_knownRow, al_daysRow, as_daysRow, al_bests, as_bests, al_nots, as_nots, al_lookeds, as_lookeds, al_bestsAt, as_bestsAt, al_worths, as_worths, al_keptKnown, as_keptKnown, al_keptDays, as_keptDays, al_round, as_round, al_sums, as_sums, al_bestRound, as_bestRound, al_bodies, as_bodies, cl_some, nm_b, nn_some, qn_some, qn_none, zk_0, zk_1, zk_n0, zk_n1, nI_add, pk_mul, pk_sub, nI_leE, nI_ltE, nI_eqE, nI_lt0, nI_ge0, nI_eq0, nI_gt0, nI_le0, ilt_t, ilt_f, ile_t, ile_f, ieq_t, ieq_f, if_tt, if_ff, Nat.add_sub_cancel]
  repeat' split
  all_goals rfl
def looksF (S : MS) (v : Int32) : Int32 × (Nat → Int32) := if bIn v (nI 1) (nI 3) = 0 then (-2, ma S 1) else (ma S 1 4, upK (ma S 1) 4 v)
set_option maxRecDepth 100000 in
set_option maxHeartbeats 4000000 in
theorem f_looksA {st : MS} (v : Int32) : F_X12_looks G (encM G b st h0) nx b v = some ((looksF st v).1, encM G b (msa st 1 (looksF st v).2) h0, nx) := by
  unfold F_X12_looks looksF
  simp (maxSteps := 3000000) (disch := omega) only [f_in, ma_msa_n, ma_msa_s, mi_msi_n, mi_msi_s, ml_msl_n, ml_msl_s, ma_msi, ma_msl, mi_msa, mi_msl, ml_msa, ml_msi, msa_msa, msi_msi, msl_msl, ck_m, gf_s, gf_image, gf_truths, gf_knownRow, gf_daysRow, gf_bests, gf_nots, gf_lookeds, gf_bestsAt, gf_worths, gf_keptKnown, gf_keptDays, gf_round, gf_sums, gf_bestRound, gf_bodies, gf_thrown, gf_hasImage, gf_act, gf_spot, gf_size, gf_isWrong, gf_open, gf_edgeThing, gf_edgeMore, gf_stamp, gf_whose, gf_wage, gf_roundMany, gf_bestSet, gf_ran, gf_kind, gf_who, gf_tellsV, pf_thrown, pf_hasImage, pf_act, pf_spot, pf_size, pf_isWrong, pf_open, pf_edgeThing, pf_edgeMore, pf_stamp, pf_whose, pf_wage, pf_roundMany, pf_bestSet, pf_ran, pf_kind, pf_who, pf_tellsV, al_s, as_s, al_image, as_image, al_truths, as_truths0, as_truths1, al_knownRow, as_knownRow, al_daysRow, as_daysRow, al_bests, as_bests, al_nots, as_nots, al_lookeds, as_lookeds, al_bestsAt, as_bestsAt, al_worths, as_worths, al_keptKnown, as_keptKnown, al_keptDays, as_keptDays, al_round, as_round, al_sums, as_sums, al_bestRound, as_bestRound, al_bodies, as_bodies, cl_some, nm_b, nn_some, qn_some, qn_none, zk_0, zk_1, zk_n0, zk_n1, nI_add, pk_mul, pk_sub, nI_leE, nI_ltE, nI_eqE, nI_lt0, nI_ge0, nI_eq0, nI_gt0, nI_le0, ilt_t, ilt_f, ile_t, ile_f, ieq_t, ieq_f, if_tt, if_ff, Nat.add_sub_cancel]
  by_cases c : bIn v (nI 1) (nI 3) = 0
  · rw [if_pos c, if_pos c]
    show _ = some (_, encM G b (msa st 1 (ma st 1)) h0, nx)
    rw [msa_self]
  · rw [if_neg c, if_neg c]
def planF (S : MS) (np : Nat) (k v : Int32) : Int32 × (Nat → Int32) := if bIn k (nI 0) (nI 6) = 0 then (-1, ma S 1) else if bIn v (nI 0) (nI 99) = 0 then (-2, ma S 1) else if np = 12 then (-4, ma S 1) else (nI np, upK (upK (upK (upK (ma S 1) (1070 + np) k) (1082 + np) v) (1094 + np) (nI 0)) 2 (nI (np + 1)))
set_option maxRecDepth 100000 in
set_option maxHeartbeats 4000000 in
theorem f_planA {st : MS} {np : Nat} (h2 : ma st 1 2 = nI np) (hnp : np ≤ 12) (k v : Int32) : F_X12_plan G (encM G b st h0) nx b k v = some ((planF st np k v).1, encM G b (msa st 1 (planF st np k v).2) h0, nx) := by
  unfold F_X12_plan planF
  simp (maxSteps := 3000000) (disch := omega) only [f_in, ma_msa_n, ma_msa_s, mi_msi_n, mi_msi_s, ml_msl_n, ml_msl_s, ma_msi, ma_msl, mi_msa, mi_msl, ml_msa, ml_msi, msa_msa, msi_msi, msl_msl, ck_m, gf_s, gf_image, gf_truths, gf_knownRow, gf_daysRow, gf_bests, gf_nots, gf_lookeds, gf_bestsAt, gf_worths, gf_keptKnown, gf_keptDays, gf_round, gf_sums, gf_bestRound, gf_bodies, gf_thrown, gf_hasImage, gf_act, gf_spot, gf_size, gf_isWrong, gf_open, gf_edgeThing, gf_edgeMore, gf_stamp, gf_whose, gf_wage, gf_roundMany, gf_bestSet, gf_ran, gf_kind, gf_who, gf_tellsV, pf_thrown, pf_hasImage, pf_act, pf_spot, pf_size, pf_isWrong, pf_open, pf_edgeThing, pf_edgeMore, pf_stamp, pf_whose, pf_wage, pf_roundMany, pf_bestSet, pf_ran, pf_kind, pf_who, pf_tellsV, al_s, as_s, al_image, as_image, al_truths, as_truths0, as_truths1, al_knownRow, as_knownRow, al_daysRow, as_daysRow, al_bests, as_bests, al_nots, as_nots, al_lookeds, as_lookeds, al_bestsAt, as_bestsAt, al_worths, as_worths, al_keptKnown, as_keptKnown, al_keptDays, as_keptDays, al_round, as_round, al_sums, as_sums, al_bestRound, as_bestRound, al_bodies, as_bodies, cl_some, nm_b, nn_some, qn_some, qn_none, zk_0, zk_1, zk_n0, zk_n1, nI_add, pk_mul, pk_sub, nI_leE, nI_ltE, nI_eqE, nI_lt0, nI_ge0, nI_eq0, nI_gt0, nI_le0, ilt_t, ilt_f, ile_t, ile_f, ieq_t, ieq_f, if_tt, if_ff, Nat.add_sub_cancel]
  by_cases c : bIn k (nI 0) (nI 6) = 0
  · rw [if_pos c, if_pos c]
    show _ = some (_, encM G b (msa st 1 (ma st 1)) h0, nx)
    rw [msa_self]
  · rw [if_neg c, if_neg c]
    by_cases c2 : bIn v (nI 0) (nI 99) = 0
    · rw [if_pos c2, if_pos c2]
      show _ = some (_, encM G b (msa st 1 (ma st 1)) h0, nx)
      rw [msa_self]
    · rw [if_neg c2, if_neg c2]
      by_cases c3 : np = 12
      · simp (maxSteps := 3000000) (disch := omega) only [h2, c3, ma_msa_n, ma_msa_s, mi_msi_n, mi_msi_s, ml_msl_n, ml_msl_s, ma_msi, ma_msl, mi_msa, mi_msl, ml_msa, ml_msi, msa_msa, msi_msi, msl_msl, ck_m, gf_s, gf_image, gf_truths, gf_knownRow, gf_daysRow, gf_bests, gf_nots, gf_lookeds, gf_bestsAt, gf_worths, gf_keptKnown, gf_keptDays, gf_round, gf_sums, gf_bestRound, gf_bodies, gf_thrown, gf_hasImage, gf_act, gf_spot, gf_size, gf_isWrong, gf_open, gf_edgeThing, gf_edgeMore, gf_stamp, gf_whose, gf_wage, gf_roundMany, gf_bestSet, gf_ran, gf_kind, gf_who, gf_tellsV, pf_thrown, pf_hasImage, pf_act, pf_spot, pf_size, pf_isWrong, pf_open, pf_edgeThing, pf_edgeMore, pf_stamp, pf_whose, pf_wage, pf_roundMany, pf_bestSet, pf_ran, pf_kind, pf_who, pf_tellsV, al_s, as_s, al_image, as_image, al_truths, as_truths0, as_truths1, al_knownRow, as_knownRow, al_daysRow, as_daysRow, al_bests, as_bests, al_nots, as_nots, al_lookeds, as_lookeds, al_bestsAt, as_bestsAt, al_worths, as_worths, al_keptKnown, as_keptKnown, al_keptDays, as_keptDays, al_round, as_round, al_sums, as_sums, al_bestRound, as_bestRound, al_bodies, as_bodies, cl_some, nm_b, nn_some, qn_some, qn_none, zk_0, zk_1, zk_n0, zk_n1, nI_add, pk_mul, pk_sub, nI_leE, nI_ltE, nI_eqE, nI_lt0, nI_ge0, nI_eq0, nI_gt0, nI_le0, ilt_t, ilt_f, ile_t, ile_f, ieq_t, ieq_f, if_tt, if_ff, Nat.add_sub_cancel]
        show _ = some (_, encM G b (msa st 1 (ma st 1)) h0, nx)
        rw [msa_self]
      · rw [if_neg c3]
        have q2 : ∀ (f : Nat → Int32) (x y z : Int32), upK (upK (upK f (1070 + np) x) (1082 + np) y) (1094 + np) z 2 = f 2 := fun f x y z => by
          rw [upK_n (by omega), upK_n (by omega), upK_n (by omega)]
        simp (maxSteps := 3000000) (disch := omega) only [h2, c3, q2, ma_msa_n, ma_msa_s, mi_msi_n, mi_msi_s, ml_msl_n, ml_msl_s, ma_msi, ma_msl, mi_msa, mi_msl, ml_msa, ml_msi, msa_msa, msi_msi, msl_msl, ck_m, gf_s, gf_image, gf_truths, gf_knownRow, gf_daysRow, gf_bests, gf_nots, gf_lookeds, gf_bestsAt, gf_worths, gf_keptKnown, gf_keptDays, gf_round, gf_sums, gf_bestRound, gf_bodies, gf_thrown, gf_hasImage, gf_act, gf_spot, gf_size, gf_isWrong, gf_open, gf_edgeThing, gf_edgeMore, gf_stamp, gf_whose, gf_wage, gf_roundMany, gf_bestSet, gf_ran, gf_kind, gf_who, gf_tellsV, pf_thrown, pf_hasImage, pf_act, pf_spot, pf_size, pf_isWrong, pf_open, pf_edgeThing, pf_edgeMore, pf_stamp, pf_whose, pf_wage, pf_roundMany, pf_bestSet, pf_ran, pf_kind, pf_who, pf_tellsV, al_s, as_s, al_image, as_image, al_truths, as_truths0, as_truths1, al_knownRow, as_knownRow, al_daysRow, as_daysRow, al_bests, as_bests, al_nots, as_nots, al_lookeds, as_lookeds, al_bestsAt, as_bestsAt, al_worths, as_worths, al_keptKnown, as_keptKnown, al_keptDays, as_keptDays, al_round, as_round, al_sums, as_sums, al_bestRound, as_bestRound, al_bodies, as_bodies, cl_some, nm_b, nn_some, qn_some, qn_none, zk_0, zk_1, zk_n0, zk_n1, nI_add, pk_mul, pk_sub, nI_leE, nI_ltE, nI_eqE, nI_lt0, nI_ge0, nI_eq0, nI_gt0, nI_le0, ilt_t, ilt_f, ile_t, ile_f, ieq_t, ieq_f, if_tt, if_ff, Nat.add_sub_cancel]
def rowF (S : MS) (nt : Nat) (p set : Int32) : Int32 × (Nat → Int32) :=
  if bIn p (nI 0) (ma S 1 2 - nI 1) = 0 then (-1, ma S 1) else if bIn set (nI 0) (nI (2 ^ nt) - nI 1) = 0 then (-2, ma S 1)
  else if ma S 1 (1070 + p.toNatClampNeg) = nI 6 then (if ma S 1 (1094 + p.toNatClampNeg) = nI 10 then (-4, ma S 1) else (ma S 1 (1094 + p.toNatClampNeg) + nI 1, upK (upK (ma S 1) (1110 + 10 * p.toNatClampNeg + sN (ma S 1) (1094 + p.toNatClampNeg)) set) (1094 + p.toNatClampNeg) (ma S 1 (1094 + p.toNatClampNeg) + nI 1)))
  else (-3, ma S 1)
set_option maxRecDepth 100000 in
set_option maxHeartbeats 4000000 in
theorem f_row {st : MS} {nt np lk td : Nat} (hB : BOk st nt np lk td) (p set : Int32) : F_X12_row G (encM G b st h0) nx b p set = some ((rowF st nt p set).1, encM G b (msa st 1 (rowF st nt p set).2) h0, nx) := by
  obtain ⟨hL, hl3, ht, h2, hnp, hp, h3, htd⟩ := hB
  have h1 := hL.1
  have hn := hL.2.1
  have sf : ∀ x : Int32, some (x, encM G b st h0, nx) = some (x, encM G b (msa st 1 (ma st 1)) h0, nx) := fun x => by rw [msa_self]
  unfold F_X12_row rowF
  simp (maxSteps := 3000000) (disch := omega) only [f_isPlan, f_in, h1, shl_n hn, ma_msa_n, ma_msa_s, mi_msi_n, mi_msi_s, ml_msl_n, ml_msl_s, ma_msi, ma_msl, mi_msa, mi_msl, ml_msa, ml_msi, msa_msa, msi_msi, msl_msl, ck_m, gf_s, gf_image, gf_truths, gf_knownRow, gf_daysRow, gf_bests, gf_nots, gf_lookeds, gf_bestsAt, gf_worths, gf_keptKnown, gf_keptDays, gf_round, gf_sums, gf_bestRound, gf_bodies, gf_thrown, gf_hasImage, gf_act, gf_spot, gf_size, gf_isWrong, gf_open, gf_edgeThing, gf_edgeMore, gf_stamp, gf_whose, gf_wage, gf_roundMany, gf_bestSet, gf_ran, gf_kind, gf_who, gf_tellsV, pf_thrown, pf_hasImage, pf_act, pf_spot, pf_size, pf_isWrong, pf_open, pf_edgeThing, pf_edgeMore, pf_stamp, pf_whose, pf_wage, pf_roundMany, pf_bestSet, pf_ran, pf_kind, pf_who, pf_tellsV, al_s, as_s, al_image, as_image, al_truths, as_truths0, as_truths1, al_knownRow, as_knownRow, al_daysRow, as_daysRow, al_bests, as_bests, al_nots, as_nots, al_lookeds, as_lookeds, al_bestsAt, as_bestsAt, al_worths, as_worths, al_keptKnown, as_keptKnown, al_keptDays, as_keptDays, al_round, as_round, al_sums, as_sums, al_bestRound, as_bestRound, al_bodies, as_bodies, cl_some, nm_b, nn_some, qn_some, qn_none, zk_0, zk_1, zk_n0, zk_n1, nI_add, pk_mul, pk_sub, nI_leE, nI_ltE, nI_eqE, nI_lt0, nI_ge0, nI_eq0, nI_gt0, nI_le0, ilt_t, ilt_f, ile_t, ile_f, ieq_t, ieq_f, if_tt, if_ff, Nat.add_sub_cancel]
  rw [h2]
  by_cases c1 : bIn p (nI 0) (nI np - nI 1) = 0
  · rw [if_pos c1, if_pos c1]
    exact sf _
  · rw [if_neg c1, if_neg c1]
    by_cases c2 : bIn set (nI 0) (nI (2 ^ nt) - nI 1) = 0
    · rw [if_pos c2, if_pos c2]
      exact sf _
    · rw [if_neg c2, if_neg c2]
      obtain ⟨p, hp1, rfl⟩ := bIn_nI (by omega) c1
      rw [nI_clamp (by omega)]
      obtain ⟨_, hc, hc10⟩ := hp p hp1
      simp (maxSteps := 3000000) (disch := omega) only [ma_msa_n, ma_msa_s, mi_msi_n, mi_msi_s, ml_msl_n, ml_msl_s, ma_msi, ma_msl, mi_msa, mi_msl, ml_msa, ml_msi, msa_msa, msi_msi, msl_msl, ck_m, gf_s, gf_image, gf_truths, gf_knownRow, gf_daysRow, gf_bests, gf_nots, gf_lookeds, gf_bestsAt, gf_worths, gf_keptKnown, gf_keptDays, gf_round, gf_sums, gf_bestRound, gf_bodies, gf_thrown, gf_hasImage, gf_act, gf_spot, gf_size, gf_isWrong, gf_open, gf_edgeThing, gf_edgeMore, gf_stamp, gf_whose, gf_wage, gf_roundMany, gf_bestSet, gf_ran, gf_kind, gf_who, gf_tellsV, pf_thrown, pf_hasImage, pf_act, pf_spot, pf_size, pf_isWrong, pf_open, pf_edgeThing, pf_edgeMore, pf_stamp, pf_whose, pf_wage, pf_roundMany, pf_bestSet, pf_ran, pf_kind, pf_who, pf_tellsV, al_s, as_s, al_image, as_image, al_truths, as_truths0, as_truths1, al_knownRow, as_knownRow, al_daysRow, as_daysRow, al_bests, as_bests, al_nots, as_nots, al_lookeds, as_lookeds, al_bestsAt, as_bestsAt, al_worths, as_worths, al_keptKnown, as_keptKnown, al_keptDays, as_keptDays, al_round, as_round, al_sums, as_sums, al_bestRound, as_bestRound, al_bodies, as_bodies, cl_some, nm_b, nn_some, qn_some, qn_none, zk_0, zk_1, zk_n0, zk_n1, nI_add, pk_mul, pk_sub, nI_leE, nI_ltE, nI_eqE, nI_lt0, nI_ge0, nI_eq0, nI_gt0, nI_le0, ilt_t, ilt_f, ile_t, ile_f, ieq_t, ieq_f, if_tt, if_ff, Nat.add_sub_cancel]
      by_cases c3 : ma st 1 (1070 + p) = nI 6
      · rw [if_pos c3, if_pos c3]
        by_cases c4 : ma st 1 (1094 + p) = nI 10
        · rw [if_pos c4, if_pos c4]
          exact sf _
        · rw [if_neg c4, if_neg c4]
          generalize hcc : sN (ma st 1) (1094 + p) = cc at hc hc10
          have c5 : cc ≠ 10 := fun q => c4 (by rw [hc, q])
          have q2 : ∀ (f : Nat → Int32) (x : Int32), upK f (1110 + 10 * p + cc) x (1094 + p) = f (1094 + p) := fun f x => upK_n (by omega)
          have q3 : ∀ (f : Nat → Int32) (x : Int32), upK f (1094 + p) x (1094 + p) = x := fun f x => upK_s
          simp (maxSteps := 3000000) (disch := omega) only [hc, q2, q3, ma_msa_n, ma_msa_s, mi_msi_n, mi_msi_s, ml_msl_n, ml_msl_s, ma_msi, ma_msl, mi_msa, mi_msl, ml_msa, ml_msi, msa_msa, msi_msi, msl_msl, ck_m, gf_s, gf_image, gf_truths, gf_knownRow, gf_daysRow, gf_bests, gf_nots, gf_lookeds, gf_bestsAt, gf_worths, gf_keptKnown, gf_keptDays, gf_round, gf_sums, gf_bestRound, gf_bodies, gf_thrown, gf_hasImage, gf_act, gf_spot, gf_size, gf_isWrong, gf_open, gf_edgeThing, gf_edgeMore, gf_stamp, gf_whose, gf_wage, gf_roundMany, gf_bestSet, gf_ran, gf_kind, gf_who, gf_tellsV, pf_thrown, pf_hasImage, pf_act, pf_spot, pf_size, pf_isWrong, pf_open, pf_edgeThing, pf_edgeMore, pf_stamp, pf_whose, pf_wage, pf_roundMany, pf_bestSet, pf_ran, pf_kind, pf_who, pf_tellsV, al_s, as_s, al_image, as_image, al_truths, as_truths0, as_truths1, al_knownRow, as_knownRow, al_daysRow, as_daysRow, al_bests, as_bests, al_nots, as_nots, al_lookeds, as_lookeds, al_bestsAt, as_bestsAt, al_worths, as_worths, al_keptKnown, as_keptKnown, al_keptDays, as_keptDays, al_round, as_round, al_sums, as_sums, al_bestRound, as_bestRound, al_bodies, as_bodies, cl_some, nm_b, nn_some, qn_some, qn_none, zk_0, zk_1, zk_n0, zk_n1, nI_add, pk_mul, pk_sub, nI_leE, nI_ltE, nI_eqE, nI_lt0, nI_ge0, nI_eq0, nI_gt0, nI_le0, ilt_t, ilt_f, ile_t, ile_f, ieq_t, ieq_f, if_tt, if_ff, Nat.add_sub_cancel]
      · rw [if_neg c3, if_neg c3]
        exact sf _
def thingF (S : MS) (nt : Nat) (k v : Int32) : Int32 × (Nat → Int32) := if bIn k (nI 0) (ma S 1 0 - nI 1) = 0 then (-1, ma S 1) else if bIn v (nI 0) (nI 99) = 0 then (-2, ma S 1) else if nt = 8 then (-4, ma S 1) else (nI nt, upK (upK (upK (upK (upK (upK (upK (upK (ma S 1) (1010 + nt) k) (1018 + nt) v) (1026 + nt) (nI 1)) (1034 + nt) (nI 1000000)) (1042 + nt) (nI 0)) (1050 + nt) (nI 0)) (1058 + nt) (nI 0)) 1 (nI (nt + 1)))
set_option maxRecDepth 100000 in
set_option maxHeartbeats 4000000 in
theorem f_thing {st : MS} {nt : Nat} (h1 : ma st 1 1 = nI nt) (hn : nt ≤ 8) (k v : Int32) : F_X12_thing G (encM G b st h0) nx b k v = some ((thingF st nt k v).1, encM G b (msa st 1 (thingF st nt k v).2) h0, nx) := by
  have sf : ∀ x : Int32, some (x, encM G b st h0, nx) = some (x, encM G b (msa st 1 (ma st 1)) h0, nx) := fun x => by rw [msa_self]
  unfold F_X12_thing thingF
  simp (maxSteps := 3000000) (disch := omega) only [f_in, f_isSort, ma_msa_n, ma_msa_s, mi_msi_n, mi_msi_s, ml_msl_n, ml_msl_s, ma_msi, ma_msl, mi_msa, mi_msl, ml_msa, ml_msi, msa_msa, msi_msi, msl_msl, ck_m, gf_s, gf_image, gf_truths, gf_knownRow, gf_daysRow, gf_bests, gf_nots, gf_lookeds, gf_bestsAt, gf_worths, gf_keptKnown, gf_keptDays, gf_round, gf_sums, gf_bestRound, gf_bodies, gf_thrown, gf_hasImage, gf_act, gf_spot, gf_size, gf_isWrong, gf_open, gf_edgeThing, gf_edgeMore, gf_stamp, gf_whose, gf_wage, gf_roundMany, gf_bestSet, gf_ran, gf_kind, gf_who, gf_tellsV, pf_thrown, pf_hasImage, pf_act, pf_spot, pf_size, pf_isWrong, pf_open, pf_edgeThing, pf_edgeMore, pf_stamp, pf_whose, pf_wage, pf_roundMany, pf_bestSet, pf_ran, pf_kind, pf_who, pf_tellsV, al_s, as_s, al_image, as_image, al_truths, as_truths0, as_truths1, al_knownRow, as_knownRow, al_daysRow, as_daysRow, al_bests, as_bests, al_nots, as_nots, al_lookeds, as_lookeds, al_bestsAt, as_bestsAt, al_worths, as_worths, al_keptKnown, as_keptKnown, al_keptDays, as_keptDays, al_round, as_round, al_sums, as_sums, al_bestRound, as_bestRound, al_bodies, as_bodies, cl_some, nm_b, nn_some, qn_some, qn_none, zk_0, zk_1, zk_n0, zk_n1, nI_add, pk_mul, pk_sub, nI_leE, nI_ltE, nI_eqE, nI_lt0, nI_ge0, nI_eq0, nI_gt0, nI_le0, ilt_t, ilt_f, ile_t, ile_f, ieq_t, ieq_f, if_tt, if_ff, Nat.add_sub_cancel]
  by_cases c : bIn k (nI 0) (ma st 1 0 - nI 1) = 0
  · rw [if_pos c, if_pos c]
    exact sf _
  · rw [if_neg c, if_neg c]
    by_cases c2 : bIn v (nI 0) (nI 99) = 0
    · rw [if_pos c2, if_pos c2]
      exact sf _
    · rw [if_neg c2, if_neg c2]
      by_cases c3 : nt = 8
      · simp (maxSteps := 3000000) (disch := omega) only [h1, c3, ma_msa_n, ma_msa_s, mi_msi_n, mi_msi_s, ml_msl_n, ml_msl_s, ma_msi, ma_msl, mi_msa, mi_msl, ml_msa, ml_msi, msa_msa, msi_msi, msl_msl, ck_m, gf_s, gf_image, gf_truths, gf_knownRow, gf_daysRow, gf_bests, gf_nots, gf_lookeds, gf_bestsAt, gf_worths, gf_keptKnown, gf_keptDays, gf_round, gf_sums, gf_bestRound, gf_bodies, gf_thrown, gf_hasImage, gf_act, gf_spot, gf_size, gf_isWrong, gf_open, gf_edgeThing, gf_edgeMore, gf_stamp, gf_whose, gf_wage, gf_roundMany, gf_bestSet, gf_ran, gf_kind, gf_who, gf_tellsV, pf_thrown, pf_hasImage, pf_act, pf_spot, pf_size, pf_isWrong, pf_open, pf_edgeThing, pf_edgeMore, pf_stamp, pf_whose, pf_wage, pf_roundMany, pf_bestSet, pf_ran, pf_kind, pf_who, pf_tellsV, al_s, as_s, al_image, as_image, al_truths, as_truths0, as_truths1, al_knownRow, as_knownRow, al_daysRow, as_daysRow, al_bests, as_bests, al_nots, as_nots, al_lookeds, as_lookeds, al_bestsAt, as_bestsAt, al_worths, as_worths, al_keptKnown, as_keptKnown, al_keptDays, as_keptDays, al_round, as_round, al_sums, as_sums, al_bestRound, as_bestRound, al_bodies, as_bodies, cl_some, nm_b, nn_some, qn_some, qn_none, zk_0, zk_1, zk_n0, zk_n1, nI_add, pk_mul, pk_sub, nI_leE, nI_ltE, nI_eqE, nI_lt0, nI_ge0, nI_eq0, nI_gt0, nI_le0, ilt_t, ilt_f, ile_t, ile_f, ieq_t, ieq_f, if_tt, if_ff, Nat.add_sub_cancel]
        exact sf _
      · rw [if_neg c3]
        have q2 : ∀ (f : Nat → Int32) (a b c d e g h : Int32), upK (upK (upK (upK (upK (upK (upK f (1010 + nt) a) (1018 + nt) b) (1026 + nt) c) (1034 + nt) d) (1042 + nt) e) (1050 + nt) g) (1058 + nt) h 1 = f 1 := fun f a b c d e g h => by
          rw [upK_n (by omega), upK_n (by omega), upK_n (by omega), upK_n (by omega), upK_n (by omega), upK_n (by omega), upK_n (by omega)]
        simp (maxSteps := 3000000) (disch := omega) only [h1, c3, q2, ma_msa_n, ma_msa_s, mi_msi_n, mi_msi_s, ml_msl_n, ml_msl_s, ma_msi, ma_msl, mi_msa, mi_msl, ml_msa, ml_msi, msa_msa, msi_msi, msl_msl, ck_m, gf_s, gf_image, gf_truths, gf_knownRow, gf_daysRow, gf_bests, gf_nots, gf_lookeds, gf_bestsAt, gf_worths, gf_keptKnown, gf_keptDays, gf_round, gf_sums, gf_bestRound, gf_bodies, gf_thrown, gf_hasImage, gf_act, gf_spot, gf_size, gf_isWrong, gf_open, gf_edgeThing, gf_edgeMore, gf_stamp, gf_whose, gf_wage, gf_roundMany, gf_bestSet, gf_ran, gf_kind, gf_who, gf_tellsV, pf_thrown, pf_hasImage, pf_act, pf_spot, pf_size, pf_isWrong, pf_open, pf_edgeThing, pf_edgeMore, pf_stamp, pf_whose, pf_wage, pf_roundMany, pf_bestSet, pf_ran, pf_kind, pf_who, pf_tellsV, al_s, as_s, al_image, as_image, al_truths, as_truths0, as_truths1, al_knownRow, as_knownRow, al_daysRow, as_daysRow, al_bests, as_bests, al_nots, as_nots, al_lookeds, as_lookeds, al_bestsAt, as_bestsAt, al_worths, as_worths, al_keptKnown, as_keptKnown, al_keptDays, as_keptDays, al_round, as_round, al_sums, as_sums, al_bestRound, as_bestRound, al_bodies, as_bodies, cl_some, nm_b, nn_some, qn_some, qn_none, zk_0, zk_1, zk_n0, zk_n1, nI_add, pk_mul, pk_sub, nI_leE, nI_ltE, nI_eqE, nI_lt0, nI_ge0, nI_eq0, nI_gt0, nI_le0, ilt_t, ilt_f, ile_t, ile_f, ieq_t, ieq_f, if_tt, if_ff, Nat.add_sub_cancel]
def ofF (S : MS) (t w : Int32) : Int32 := if bIn t (nI 0) (ma S 1 1 - nI 1) = 0 then -1 else if w = nI 0 then ma S 1 (1010 + t.toNatClampNeg) else if w = nI 1 then ma S 1 (1018 + t.toNatClampNeg) else if w = nI 2 then ma S 1 (1034 + t.toNatClampNeg) else if w = nI 3 then ma S 1 (1042 + t.toNatClampNeg) else if w = nI 4 then ma S 1 (1050 + t.toNatClampNeg) else if w = nI 5 then ma S 1 (1058 + t.toNatClampNeg) else -1
set_option maxRecDepth 100000 in
set_option maxHeartbeats 4000000 in
theorem f_of {st : MS} {nt : Nat} (h1 : ma st 1 1 = nI nt) (hn : nt ≤ 8) (t w : Int32) : F_X12_of G (encM G b st h0) nx b t w = some (ofF st t w, encM G b st h0, nx) := by
  unfold F_X12_of ofF
  simp (maxSteps := 3000000) (disch := omega) only [f_in, f_isThing, ma_msa_n, ma_msa_s, mi_msi_n, mi_msi_s, ml_msl_n, ml_msl_s, ma_msi, ma_msl, mi_msa, mi_msl, ml_msa, ml_msi, msa_msa, msi_msi, msl_msl, ck_m, gf_s, gf_image, gf_truths, gf_knownRow, gf_daysRow, gf_bests, gf_nots, gf_lookeds, gf_bestsAt, gf_worths, gf_keptKnown, gf_keptDays, gf_round, gf_sums, gf_bestRound, gf_bodies, gf_thrown, gf_hasImage, gf_act, gf_spot, gf_size, gf_isWrong, gf_open, gf_edgeThing, gf_edgeMore, gf_stamp, gf_whose, gf_wage, gf_roundMany, gf_bestSet, gf_ran, gf_kind, gf_who, gf_tellsV, pf_thrown, pf_hasImage, pf_act, pf_spot, pf_size, pf_isWrong, pf_open, pf_edgeThing, pf_edgeMore, pf_stamp, pf_whose, pf_wage, pf_roundMany, pf_bestSet, pf_ran, pf_kind, pf_who, pf_tellsV, al_s, as_s, al_image, as_image, al_truths, as_truths0, as_truths1, al_knownRow, as_knownRow, al_daysRow, as_daysRow, al_bests, as_bests, al_nots, as_nots, al_lookeds, as_lookeds, al_bestsAt, as_bestsAt, al_worths, as_worths, al_keptKnown, as_keptKnown, al_keptDays, as_keptDays, al_round, as_round, al_sums, as_sums, al_bestRound, as_bestRound, al_bodies, as_bodies, cl_some, nm_b, nn_some, qn_some, qn_none, zk_0, zk_1, zk_n0, zk_n1, nI_add, pk_mul, pk_sub, nI_leE, nI_ltE, nI_eqE, nI_lt0, nI_ge0, nI_eq0, nI_gt0, nI_le0, ilt_t, ilt_f, ile_t, ile_f, ieq_t, ieq_f, if_tt, if_ff, Nat.add_sub_cancel]
  rw [h1]
  by_cases c : bIn t (nI 0) (nI nt - nI 1) = 0
  · rw [if_pos c, if_pos c]
  · rw [if_neg c, if_neg c]
    obtain ⟨t, ht1, rfl⟩ := bIn_nI (by omega) c
    rw [nI_clamp (by omega)]
    simp (maxSteps := 3000000) (disch := omega) only [ma_msa_n, ma_msa_s, mi_msi_n, mi_msi_s, ml_msl_n, ml_msl_s, ma_msi, ma_msl, mi_msa, mi_msl, ml_msa, ml_msi, msa_msa, msi_msi, msl_msl, ck_m, gf_s, gf_image, gf_truths, gf_knownRow, gf_daysRow, gf_bests, gf_nots, gf_lookeds, gf_bestsAt, gf_worths, gf_keptKnown, gf_keptDays, gf_round, gf_sums, gf_bestRound, gf_bodies, gf_thrown, gf_hasImage, gf_act, gf_spot, gf_size, gf_isWrong, gf_open, gf_edgeThing, gf_edgeMore, gf_stamp, gf_whose, gf_wage, gf_roundMany, gf_bestSet, gf_ran, gf_kind, gf_who, gf_tellsV, pf_thrown, pf_hasImage, pf_act, pf_spot, pf_size, pf_isWrong, pf_open, pf_edgeThing, pf_edgeMore, pf_stamp, pf_whose, pf_wage, pf_roundMany, pf_bestSet, pf_ran, pf_kind, pf_who, pf_tellsV, al_s, as_s, al_image, as_image, al_truths, as_truths0, as_truths1, al_knownRow, as_knownRow, al_daysRow, as_daysRow, al_bests, as_bests, al_nots, as_nots, al_lookeds, as_lookeds, al_bestsAt, as_bestsAt, al_worths, as_worths, al_keptKnown, as_keptKnown, al_keptDays, as_keptDays, al_round, as_round, al_sums, as_sums, al_bestRound, as_bestRound, al_bodies, as_bodies, cl_some, nm_b, nn_some, qn_some, qn_none, zk_0, zk_1, zk_n0, zk_n1, nI_add, pk_mul, pk_sub, nI_leE, nI_ltE, nI_eqE, nI_lt0, nI_ge0, nI_eq0, nI_gt0, nI_le0, ilt_t, ilt_f, ile_t, ile_f, ieq_t, ieq_f, if_tt, if_ff, Nat.add_sub_cancel]
    repeat' split
    all_goals rfl
def seenF (S : MS) (t w : Int32) : Int32 × (Nat → Int32) := if bIn t (nI 0) (ma S 1 1 - nI 1) = 0 then (-1, ma S 1) else (ma S 1 (1034 + t.toNatClampNeg), upK (upK (upK (ma S 1) (1034 + t.toNatClampNeg) (if w = 0 then nI 0 else nI 1000000)) (1042 + t.toNatClampNeg) (nI 0)) (1026 + t.toNatClampNeg) (if w = 0 then nI 0 else nI 1))
set_option maxRecDepth 100000 in
set_option maxHeartbeats 4000000 in
theorem f_seen {st : MS} {nt : Nat} (h1 : ma st 1 1 = nI nt) (hn : nt ≤ 8) (t w : Int32) : F_X12_seen G (encM G b st h0) nx b t w = some ((seenF st t w).1, encM G b (msa st 1 (seenF st t w).2) h0, nx) := by
  unfold F_X12_seen F_X12_seen_40 F_X12_seen_70 seenF
  simp (maxSteps := 3000000) (disch := omega) only [f_in, f_isThing, ma_msa_n, ma_msa_s, mi_msi_n, mi_msi_s, ml_msl_n, ml_msl_s, ma_msi, ma_msl, mi_msa, mi_msl, ml_msa, ml_msi, msa_msa, msi_msi, msl_msl, ck_m, gf_s, gf_image, gf_truths, gf_knownRow, gf_daysRow, gf_bests, gf_nots, gf_lookeds, gf_bestsAt, gf_worths, gf_keptKnown, gf_keptDays, gf_round, gf_sums, gf_bestRound, gf_bodies, gf_thrown, gf_hasImage, gf_act, gf_spot, gf_size, gf_isWrong, gf_open, gf_edgeThing, gf_edgeMore, gf_stamp, gf_whose, gf_wage, gf_roundMany, gf_bestSet, gf_ran, gf_kind, gf_who, gf_tellsV, pf_thrown, pf_hasImage, pf_act, pf_spot, pf_size, pf_isWrong, pf_open, pf_edgeThing, pf_edgeMore, pf_stamp, pf_whose, pf_wage, pf_roundMany, pf_bestSet, pf_ran, pf_kind, pf_who, pf_tellsV, al_s, as_s, al_image, as_image, al_truths, as_truths0, as_truths1, al_knownRow, as_knownRow, al_daysRow, as_daysRow, al_bests, as_bests, al_nots, as_nots, al_lookeds, as_lookeds, al_bestsAt, as_bestsAt, al_worths, as_worths, al_keptKnown, as_keptKnown, al_keptDays, as_keptDays, al_round, as_round, al_sums, as_sums, al_bestRound, as_bestRound, al_bodies, as_bodies, cl_some, nm_b, nn_some, qn_some, qn_none, zk_0, zk_1, zk_n0, zk_n1, nI_add, pk_mul, pk_sub, nI_leE, nI_ltE, nI_eqE, nI_lt0, nI_ge0, nI_eq0, nI_gt0, nI_le0, ilt_t, ilt_f, ile_t, ile_f, ieq_t, ieq_f, if_tt, if_ff, Nat.add_sub_cancel]
  rw [h1]
  by_cases c : bIn t (nI 0) (nI nt - nI 1) = 0
  · rw [if_pos c, if_pos c]
    show _ = some (_, encM G b (msa st 1 (ma st 1)) h0, nx)
    rw [msa_self]
  · rw [if_neg c, if_neg c]
    obtain ⟨t, ht1, rfl⟩ := bIn_nI (by omega) c
    rw [nI_clamp (by omega)]
    simp (maxSteps := 3000000) (disch := omega) only [ma_msa_n, ma_msa_s, mi_msi_n, mi_msi_s, ml_msl_n, ml_msl_s, ma_msi, ma_msl, mi_msa, mi_msl, ml_msa, ml_msi, msa_msa, msi_msi, msl_msl, ck_m, gf_s, gf_image, gf_truths, gf_knownRow, gf_daysRow, gf_bests, gf_nots, gf_lookeds, gf_bestsAt, gf_worths, gf_keptKnown, gf_keptDays, gf_round, gf_sums, gf_bestRound, gf_bodies, gf_thrown, gf_hasImage, gf_act, gf_spot, gf_size, gf_isWrong, gf_open, gf_edgeThing, gf_edgeMore, gf_stamp, gf_whose, gf_wage, gf_roundMany, gf_bestSet, gf_ran, gf_kind, gf_who, gf_tellsV, pf_thrown, pf_hasImage, pf_act, pf_spot, pf_size, pf_isWrong, pf_open, pf_edgeThing, pf_edgeMore, pf_stamp, pf_whose, pf_wage, pf_roundMany, pf_bestSet, pf_ran, pf_kind, pf_who, pf_tellsV, al_s, as_s, al_image, as_image, al_truths, as_truths0, as_truths1, al_knownRow, as_knownRow, al_daysRow, as_daysRow, al_bests, as_bests, al_nots, as_nots, al_lookeds, as_lookeds, al_bestsAt, as_bestsAt, al_worths, as_worths, al_keptKnown, as_keptKnown, al_keptDays, as_keptDays, al_round, as_round, al_sums, as_sums, al_bestRound, as_bestRound, al_bodies, as_bodies, cl_some, nm_b, nn_some, qn_some, qn_none, zk_0, zk_1, zk_n0, zk_n1, nI_add, pk_mul, pk_sub, nI_leE, nI_ltE, nI_eqE, nI_lt0, nI_ge0, nI_eq0, nI_gt0, nI_le0, ilt_t, ilt_f, ile_t, ile_f, ieq_t, ieq_f, if_tt, if_ff, Nat.add_sub_cancel]
    by_cases c2 : w = 0
    · rw [if_pos c2, if_pos c2, if_pos c2, if_pos c2]
    · rw [if_neg c2, if_neg c2, if_neg c2, if_neg c2]
end N6
