/-! A TEXT READ: what a place holds, figures, tests, parts. Pure; for both sides -/
def hereP (tp : Nat → Int32) (z p : Nat) : Int32 := if z ≤ p then -1 else tp p
/-- figures from a place on: the number, the place behind -/
def fgL (tp : Nat → Int32) (z : Nat) : Nat → Int32 → Nat → Int32 × Nat
  | 0, v, p => (v, p)
  | r + 1, v, p => if ¬ bIn (hereP tp z p) (nI 48) (nI 57) = 0 ∧ (r = 2 ∨ ¬ v ≤ 0) then fgL tp z r (nI 10 * v + hereP tp z p - nI 48) (p + 1) else (v, p)
abbrev isFg (tp : Nat → Int32) (z p : Nat) : Prop := ¬ bIn (hereP tp z p) (nI 48) (nI 57) = 0
abbrev isOp (x : Int32) : Prop := x = nI 60 ∨ x = nI 61 ∨ x = nI 62
def opN (x : Int32) : Int32 := if x = nI 60 then nI 0 else if x = nI 61 then nI 1 else nI 2
/-- a test: is it one, the place behind or at fault, the step -/
def tsP (tp : Nat → Int32) (z p : Nat) : Bool × Nat × List Int32 :=
  if hereP tp z p = nI 100 ∨ hereP tp z p = nI 107 then
    (if isOp (hereP tp z (p + 1)) then
      (if isFg tp z (p + 2) then (true, (fgL tp z 3 (nI 0) (p + 2)).2, [(if hereP tp z p = nI 100 then nI 0 else nI 1) + nI 2 * opN (hereP tp z (p + 1)) + nI 8 * (fgL tp z 3 (nI 0) (p + 2)).1])
       else (false, p + 2, []))
     else (false, p + 1, []))
  else (false, p, [])
/-- parts (0), both (1), either (2), what follows a both (3), an either (4) -/
def pz (tp : Nat → Int32) (z : Nat) : Nat → Nat → Nat → Nat → Bool × Nat × List Int32
  | 0, _, _, p => (false, p, [])
  | n + 1, 0, d, p =>
    if d < 5 ∧ hereP tp z p = nI 33 then
      (if (pz tp z n 0 (d + 1) (p + 1)).1 = true then (true, (pz tp z n 0 (d + 1) (p + 1)).2.1, (pz tp z n 0 (d + 1) (p + 1)).2.2 ++ [-1]) else (false, (pz tp z n 0 (d + 1) (p + 1)).2.1, []))
    else if d < 5 ∧ hereP tp z p = nI 40 then
      (if (pz tp z n 2 (d + 1) (p + 1)).1 = true ∧ hereP tp z (pz tp z n 2 (d + 1) (p + 1)).2.1 = nI 41 then (true, (pz tp z n 2 (d + 1) (p + 1)).2.1 + 1, (pz tp z n 2 (d + 1) (p + 1)).2.2) else (false, (pz tp z n 2 (d + 1) (p + 1)).2.1, []))
    else tsP tp z p
  | n + 1, 1, d, p =>
    if (pz tp z n 0 d p).1 = true then ((pz tp z n 3 d (pz tp z n 0 d p).2.1).1, (pz tp z n 3 d (pz tp z n 0 d p).2.1).2.1, (pz tp z n 0 d p).2.2 ++ (pz tp z n 3 d (pz tp z n 0 d p).2.1).2.2) else (false, (pz tp z n 0 d p).2.1, [])
  | n + 1, 2, d, p =>
    if (pz tp z n 1 d p).1 = true then ((pz tp z n 4 d (pz tp z n 1 d p).2.1).1, (pz tp z n 4 d (pz tp z n 1 d p).2.1).2.1, (pz tp z n 1 d p).2.2 ++ (pz tp z n 4 d (pz tp z n 1 d p).2.1).2.2) else (false, (pz tp z n 1 d p).2.1, [])
  | n + 1, 3, d, p =>
    if hereP tp z p = nI 38 then
      (if (pz tp z n 0 d (p + 1)).1 = true then ((pz tp z n 3 d (pz tp z n 0 d (p + 1)).2.1).1, (pz tp z n 3 d (pz tp z n 0 d (p + 1)).2.1).2.1, (pz tp z n 0 d (p + 1)).2.2 ++ (-2 :: (pz tp z n 3 d (pz tp z n 0 d (p + 1)).2.1).2.2)) else (false, (pz tp z n 0 d (p + 1)).2.1, []))
    else (true, p, [])
  | n + 1, _, d, p =>
    if hereP tp z p = nI 124 then
      (if (pz tp z n 1 d (p + 1)).1 = true then ((pz tp z n 4 d (pz tp z n 1 d (p + 1)).2.1).1, (pz tp z n 4 d (pz tp z n 1 d (p + 1)).2.1).2.1, (pz tp z n 1 d (p + 1)).2.2 ++ (-3 :: (pz tp z n 4 d (pz tp z n 1 d (p + 1)).2.1).2.2)) else (false, (pz tp z n 1 d (p + 1)).2.1, []))
    else (true, p, [])
theorem here_in {tp : Nat → Int32} {z p : Nat} (h : ¬ hereP tp z p = -1) : p < z := by
  unfold hereP at h
  by_cases c : z ≤ p
  · rw [if_pos c] at h
    exact absurd rfl h
  · omega
theorem fg_in {tp : Nat → Int32} {z p : Nat} (h : isFg tp z p) : p < z := here_in (fun q => by
  unfold isFg at h
  rw [q] at h
  exact h (by decide))
theorem fgL_le {tp : Nat → Int32} {z : Nat} : ∀ (r : Nat) (v : Int32) (p : Nat), p ≤ (fgL tp z r v p).2 ∧ ((fgL tp z r v p).2 ≤ z ∨ (fgL tp z r v p).2 = p)
  | 0, _, _ => ⟨Nat.le_refl _, Or.inr rfl⟩
  | r + 1, v, p => by
    unfold fgL
    split
    · rename_i c
      have h1 := fg_in (tp := tp) (z := z) (p := p) c.1
      obtain ⟨h2, h3⟩ := fgL_le (tp := tp) (z := z) r (nI 10 * v + hereP tp z p - nI 48) (p + 1)
      exact ⟨by omega, Or.inl (by rcases h3 with q | q <;> omega)⟩
    · exact ⟨Nat.le_refl _, Or.inr rfl⟩
section P1
variable {G : Gx} {b : Nat} {h0 : Hp} {nx : Nat}
/-- the reference's tape -/
def tpM (st : MS) (i : Nat) : Int32 := ma st 1 (10 + i)
/-- the reader stands at p of z -/
def AtP (st : MS) (z p : Nat) : Prop := mi st 5 = nI p ∧ mi st 6 = nI z ∧ z ≤ 120 ∧ p ≤ z
set_option maxRecDepth 100000 in
set_option maxHeartbeats 4000000 in
theorem f_here {st : MS} {z p : Nat} (h : AtP st z p) : F_X12_here G (encM G b st h0) nx b = some (hereP (tpM st) z p, encM G b st h0, nx) := by
  obtain ⟨h5, h6, hz, hp⟩ := h
  unfold F_X12_here F_X12_here_27 hereP tpM
  by_cases c : z ≤ p
  · rw [if_pos c]
    simp (maxSteps := 3000000) (disch := omega) only [h5, h6, ma_msa_n, ma_msa_s, mi_msi_n, mi_msi_s, ml_msl_n, ml_msl_s, ma_msi, ma_msl, mi_msa, mi_msl, ml_msa, ml_msi, msa_msa, msi_msi, msl_msl, ck_m, gf_s, gf_image, gf_truths, gf_knownRow, gf_daysRow, gf_bests, gf_nots, gf_lookeds, gf_bestsAt, gf_worths, gf_keptKnown, gf_keptDays, gf_round, gf_sums, gf_bestRound, gf_bodies, gf_thrown, gf_hasImage, gf_act, gf_spot, gf_size, gf_isWrong, gf_open, gf_edgeThing, gf_edgeMore, gf_stamp, gf_whose, gf_wage, gf_roundMany, gf_bestSet, gf_ran, gf_kind, gf_who, gf_tellsV, pf_thrown, pf_hasImage, pf_act, pf_spot, pf_size, pf_isWrong, pf_open, pf_edgeThing, pf_edgeMore, pf_stamp, pf_whose, pf_wage, pf_roundMany, pf_bestSet, pf_ran, pf_kind, pf_who, pf_tellsV, al_s, as_s, al_image, as_image, al_truths, as_truths0, as_truths1, al_knownRow, as_knownRow, al_daysRow, as_daysRow, al_bests, as_bests, al_nots, as_nots, al_lookeds, as_lookeds, al_bestsAt, as_bestsAt, al_worths, as_worths, al_keptKnown, as_keptKnown, al_keptDays, as_keptDays, al_round, as_round, al_sums, as_sums, al_bestRound, as_bestRound, al_bodies, as_bodies, cl_some, nm_b, nn_some, qn_some, qn_none, zk_0, zk_1, zk_n0, zk_n1, nI_add, pk_mul, pk_sub, nI_leE, nI_ltE, nI_eqE, nI_lt0, nI_ge0, nI_eq0, nI_gt0, nI_le0, ilt_t, ilt_f, ile_t, ile_f, ieq_t, ieq_f, if_tt, if_ff, Nat.add_sub_cancel]
  · rw [if_neg c]
    simp (maxSteps := 3000000) (disch := omega) only [h5, h6, ma_msa_n, ma_msa_s, mi_msi_n, mi_msi_s, ml_msl_n, ml_msl_s, ma_msi, ma_msl, mi_msa, mi_msl, ml_msa, ml_msi, msa_msa, msi_msi, msl_msl, ck_m, gf_s, gf_image, gf_truths, gf_knownRow, gf_daysRow, gf_bests, gf_nots, gf_lookeds, gf_bestsAt, gf_worths, gf_keptKnown, gf_keptDays, gf_round, gf_sums, gf_bestRound, gf_bodies, gf_thrown, gf_hasImage, gf_act, gf_spot, gf_size, gf_isWrong, gf_open, gf_edgeThing, gf_edgeMore, gf_stamp, gf_whose, gf_wage, gf_roundMany, gf_bestSet, gf_ran, gf_kind, gf_who, gf_tellsV, pf_thrown, pf_hasImage, pf_act, pf_spot, pf_size, pf_isWrong, pf_open, pf_edgeThing, pf_edgeMore, pf_stamp, pf_whose, pf_wage, pf_roundMany, pf_bestSet, pf_ran, pf_kind, pf_who, pf_tellsV, al_s, as_s, al_image, as_image, al_truths, as_truths0, as_truths1, al_knownRow, as_knownRow, al_daysRow, as_daysRow, al_bests, as_bests, al_nots, as_nots, al_lookeds, as_lookeds, al_bestsAt, as_bestsAt, al_worths, as_worths, al_keptKnown, as_keptKnown, al_keptDays, as_keptDays, al_round, as_round, al_sums, as_sums, al_bestRound, as_bestRound, al_bodies, as_bodies, cl_some, nm_b, nn_some, qn_some, qn_none, zk_0, zk_1, zk_n0, zk_n1, nI_add, pk_mul, pk_sub, nI_leE, nI_ltE, nI_eqE, nI_lt0, nI_ge0, nI_eq0, nI_gt0, nI_le0, ilt_t, ilt_f, ile_t, ile_f, ieq_t, ieq_f, if_tt, if_ff, Nat.add_sub_cancel]
/-- place and fault -/
def spW (st : MS) (p : Nat) (w : Int32) : MS := msi (msi st 7 w) 5 (nI p)
set_option maxRecDepth 100000 in
set_option maxHeartbeats 4000000 in
theorem f_must {st : MS} {z p : Nat} (h : AtP st z p) (h7 : mi st 7 = nI 0) (x : Int32) : F_X12_must G (encM G b st h0) nx b x = some ((), encM G b (if hereP (tpM st) z p = x then spW st (p + 1) (nI 0) else spW st p (nI 1)) h0, nx) := by
  have e := f_here (G := G) (b := b) (h0 := h0) (nx := nx) h
  have h5 := h.1
  unfold F_X12_must F_X12_must_16 F_X12_must_21 F_X12_must_41
  simp (maxSteps := 3000000) (disch := omega) only [h7, e, ma_msa_n, ma_msa_s, mi_msi_n, mi_msi_s, ml_msl_n, ml_msl_s, ma_msi, ma_msl, mi_msa, mi_msl, ml_msa, ml_msi, msa_msa, msi_msi, msl_msl, ck_m, gf_s, gf_image, gf_truths, gf_knownRow, gf_daysRow, gf_bests, gf_nots, gf_lookeds, gf_bestsAt, gf_worths, gf_keptKnown, gf_keptDays, gf_round, gf_sums, gf_bestRound, gf_bodies, gf_thrown, gf_hasImage, gf_act, gf_spot, gf_size, gf_isWrong, gf_open, gf_edgeThing, gf_edgeMore, gf_stamp, gf_whose, gf_wage, gf_roundMany, gf_bestSet, gf_ran, gf_kind, gf_who, gf_tellsV, pf_thrown, pf_hasImage, pf_act, pf_spot, pf_size, pf_isWrong, pf_open, pf_edgeThing, pf_edgeMore, pf_stamp, pf_whose, pf_wage, pf_roundMany, pf_bestSet, pf_ran, pf_kind, pf_who, pf_tellsV, al_s, as_s, al_image, as_image, al_truths, as_truths0, as_truths1, al_knownRow, as_knownRow, al_daysRow, as_daysRow, al_bests, as_bests, al_nots, as_nots, al_lookeds, as_lookeds, al_bestsAt, as_bestsAt, al_worths, as_worths, al_keptKnown, as_keptKnown, al_keptDays, as_keptDays, al_round, as_round, al_sums, as_sums, al_bestRound, as_bestRound, al_bodies, as_bodies, cl_some, nm_b, nn_some, qn_some, qn_none, zk_0, zk_1, zk_n0, zk_n1, nI_add, pk_mul, pk_sub, nI_leE, nI_ltE, nI_eqE, nI_lt0, nI_ge0, nI_eq0, nI_gt0, nI_le0, ilt_t, ilt_f, ile_t, ile_f, ieq_t, ieq_f, if_tt, if_ff, Nat.add_sub_cancel]
  by_cases c : hereP (tpM st) z p = x
  · rw [if_pos c, if_pos c]
    unfold spW
    simp (maxSteps := 3000000) (disch := omega) only [h5, ma_msa_n, ma_msa_s, mi_msi_n, mi_msi_s, ml_msl_n, ml_msl_s, ma_msi, ma_msl, mi_msa, mi_msl, ml_msa, ml_msi, msa_msa, msi_msi, msl_msl, ck_m, gf_s, gf_image, gf_truths, gf_knownRow, gf_daysRow, gf_bests, gf_nots, gf_lookeds, gf_bestsAt, gf_worths, gf_keptKnown, gf_keptDays, gf_round, gf_sums, gf_bestRound, gf_bodies, gf_thrown, gf_hasImage, gf_act, gf_spot, gf_size, gf_isWrong, gf_open, gf_edgeThing, gf_edgeMore, gf_stamp, gf_whose, gf_wage, gf_roundMany, gf_bestSet, gf_ran, gf_kind, gf_who, gf_tellsV, pf_thrown, pf_hasImage, pf_act, pf_spot, pf_size, pf_isWrong, pf_open, pf_edgeThing, pf_edgeMore, pf_stamp, pf_whose, pf_wage, pf_roundMany, pf_bestSet, pf_ran, pf_kind, pf_who, pf_tellsV, al_s, as_s, al_image, as_image, al_truths, as_truths0, as_truths1, al_knownRow, as_knownRow, al_daysRow, as_daysRow, al_bests, as_bests, al_nots, as_nots, al_lookeds, as_lookeds, al_bestsAt, as_bestsAt, al_worths, as_worths, al_keptKnown, as_keptKnown, al_keptDays, as_keptDays, al_round, as_round, al_sums, as_sums, al_bestRound, as_bestRound, al_bodies, as_bodies, cl_some, nm_b, nn_some, qn_some, qn_none, zk_0, zk_1, zk_n0, zk_n1, nI_add, pk_mul, pk_sub, nI_leE, nI_ltE, nI_eqE, nI_lt0, nI_ge0, nI_eq0, nI_gt0, nI_le0, ilt_t, ilt_f, ile_t, ile_f, ieq_t, ieq_f, if_tt, if_ff, Nat.add_sub_cancel]
  · rw [if_neg c, if_neg c]
    unfold spW
    simp (maxSteps := 3000000) (disch := omega) only [h5, ma_msa_n, ma_msa_s, mi_msi_n, mi_msi_s, ml_msl_n, ml_msl_s, ma_msi, ma_msl, mi_msa, mi_msl, ml_msa, ml_msi, msa_msa, msi_msi, msl_msl, ck_m, gf_s, gf_image, gf_truths, gf_knownRow, gf_daysRow, gf_bests, gf_nots, gf_lookeds, gf_bestsAt, gf_worths, gf_keptKnown, gf_keptDays, gf_round, gf_sums, gf_bestRound, gf_bodies, gf_thrown, gf_hasImage, gf_act, gf_spot, gf_size, gf_isWrong, gf_open, gf_edgeThing, gf_edgeMore, gf_stamp, gf_whose, gf_wage, gf_roundMany, gf_bestSet, gf_ran, gf_kind, gf_who, gf_tellsV, pf_thrown, pf_hasImage, pf_act, pf_spot, pf_size, pf_isWrong, pf_open, pf_edgeThing, pf_edgeMore, pf_stamp, pf_whose, pf_wage, pf_roundMany, pf_bestSet, pf_ran, pf_kind, pf_who, pf_tellsV, al_s, as_s, al_image, as_image, al_truths, as_truths0, as_truths1, al_knownRow, as_knownRow, al_daysRow, as_daysRow, al_bests, as_bests, al_nots, as_nots, al_lookeds, as_lookeds, al_bestsAt, as_bestsAt, al_worths, as_worths, al_keptKnown, as_keptKnown, al_keptDays, as_keptDays, al_round, as_round, al_sums, as_sums, al_bestRound, as_bestRound, al_bodies, as_bodies, cl_some, nm_b, nn_some, qn_some, qn_none, zk_0, zk_1, zk_n0, zk_n1, nI_add, pk_mul, pk_sub, nI_leE, nI_ltE, nI_eqE, nI_lt0, nI_ge0, nI_eq0, nI_gt0, nI_le0, ilt_t, ilt_f, ile_t, ile_f, ieq_t, ieq_f, if_tt, if_ff, Nat.add_sub_cancel]
    rfl
set_option maxRecDepth 100000 in
set_option maxHeartbeats 4000000 in
theorem f_mustW {st : MS} {p : Nat} (h5 : mi st 5 = nI p) (h7 : mi st 7 = nI 1) (x : Int32) : F_X12_must G (encM G b st h0) nx b x = some ((), encM G b st h0, nx) := by
  have e : spW st p (nI 1) = st := by
    unfold spW
    rw [← h7, msi_self, ← h5, msi_self]
  unfold F_X12_must F_X12_must_16 F_X12_must_21 F_X12_must_41
  simp (maxSteps := 3000000) (disch := omega) only [h7, h5, ma_msa_n, ma_msa_s, mi_msi_n, mi_msi_s, ml_msl_n, ml_msl_s, ma_msi, ma_msl, mi_msa, mi_msl, ml_msa, ml_msi, msa_msa, msi_msi, msl_msl, ck_m, gf_s, gf_image, gf_truths, gf_knownRow, gf_daysRow, gf_bests, gf_nots, gf_lookeds, gf_bestsAt, gf_worths, gf_keptKnown, gf_keptDays, gf_round, gf_sums, gf_bestRound, gf_bodies, gf_thrown, gf_hasImage, gf_act, gf_spot, gf_size, gf_isWrong, gf_open, gf_edgeThing, gf_edgeMore, gf_stamp, gf_whose, gf_wage, gf_roundMany, gf_bestSet, gf_ran, gf_kind, gf_who, gf_tellsV, pf_thrown, pf_hasImage, pf_act, pf_spot, pf_size, pf_isWrong, pf_open, pf_edgeThing, pf_edgeMore, pf_stamp, pf_whose, pf_wage, pf_roundMany, pf_bestSet, pf_ran, pf_kind, pf_who, pf_tellsV, al_s, as_s, al_image, as_image, al_truths, as_truths0, as_truths1, al_knownRow, as_knownRow, al_daysRow, as_daysRow, al_bests, as_bests, al_nots, as_nots, al_lookeds, as_lookeds, al_bestsAt, as_bestsAt, al_worths, as_worths, al_keptKnown, as_keptKnown, al_keptDays, as_keptDays, al_round, as_round, al_sums, as_sums, al_bestRound, as_bestRound, al_bodies, as_bodies, cl_some, nm_b, nn_some, qn_some, qn_none, zk_0, zk_1, zk_n0, zk_n1, nI_add, pk_mul, pk_sub, nI_leE, nI_ltE, nI_eqE, nI_lt0, nI_ge0, nI_eq0, nI_gt0, nI_le0, ilt_t, ilt_f, ile_t, ile_f, ieq_t, ieq_f, if_tt, if_ff, Nat.add_sub_cancel]
  unfold spW at e
  rw [Nat.add_zero, e]
set_option maxRecDepth 100000 in
set_option maxHeartbeats 4000000 in
theorem f_emitsW {st : MS} (h7 : mi st 7 = nI 1) (x : Int32) : F_X12_emits G (encM G b st h0) nx b x = some ((), encM G b st h0, nx) := by
  unfold F_X12_emits F_X12_emits_56
  simp (maxSteps := 3000000) (disch := omega) only [h7, ma_msa_n, ma_msa_s, mi_msi_n, mi_msi_s, ml_msl_n, ml_msl_s, ma_msi, ma_msl, mi_msa, mi_msl, ml_msa, ml_msi, msa_msa, msi_msi, msl_msl, ck_m, gf_s, gf_image, gf_truths, gf_knownRow, gf_daysRow, gf_bests, gf_nots, gf_lookeds, gf_bestsAt, gf_worths, gf_keptKnown, gf_keptDays, gf_round, gf_sums, gf_bestRound, gf_bodies, gf_thrown, gf_hasImage, gf_act, gf_spot, gf_size, gf_isWrong, gf_open, gf_edgeThing, gf_edgeMore, gf_stamp, gf_whose, gf_wage, gf_roundMany, gf_bestSet, gf_ran, gf_kind, gf_who, gf_tellsV, pf_thrown, pf_hasImage, pf_act, pf_spot, pf_size, pf_isWrong, pf_open, pf_edgeThing, pf_edgeMore, pf_stamp, pf_whose, pf_wage, pf_roundMany, pf_bestSet, pf_ran, pf_kind, pf_who, pf_tellsV, al_s, as_s, al_image, as_image, al_truths, as_truths0, as_truths1, al_knownRow, as_knownRow, al_daysRow, as_daysRow, al_bests, as_bests, al_nots, as_nots, al_lookeds, as_lookeds, al_bestsAt, as_bestsAt, al_worths, as_worths, al_keptKnown, as_keptKnown, al_keptDays, as_keptDays, al_round, as_round, al_sums, as_sums, al_bestRound, as_bestRound, al_bodies, as_bodies, cl_some, nm_b, nn_some, qn_some, qn_none, zk_0, zk_1, zk_n0, zk_n1, nI_add, pk_mul, pk_sub, nI_leE, nI_ltE, nI_eqE, nI_lt0, nI_ge0, nI_eq0, nI_gt0, nI_le0, ilt_t, ilt_f, ile_t, ile_f, ieq_t, ieq_f, if_tt, if_ff, Nat.add_sub_cancel]
def emR (s : Nat → Int32) (a : Nat) : Nat → List Int32 → Nat → Int32
  | _, [] => s
  | c, x :: l => emR (upK (upK s (170 + 140 * a + c) x) (130 + a) (nI (c + 1))) a (c + 1) l
theorem emR_app {a : Nat} : ∀ (l1 l2 : List Int32) (s : Nat → Int32) (c : Nat), emR s a c (l1 ++ l2) = emR (emR s a c l1) a (c + l1.length) l2
  | [], _, _, _ => rfl
  | x :: l1, l2, s, c => by
    show emR _ a (c + 1) (l1 ++ l2) = emR (emR _ a (c + 1) l1) a (c + (l1.length + 1)) l2
    rw [emR_app l1 l2, show c + 1 + l1.length = c + (l1.length + 1) by omega]
/-- alike but for a sort's own numbers -/
def AgF (a : Nat) (s s' : Nat → Int32) : Prop := ∀ k : Nat, k ≠ 130 + a → (k < 140 + 4 * a ∨ 144 + 4 * a ≤ k) → (k < 170 + 140 * a ∨ 310 + 140 * a ≤ k) → s' k = s k
theorem AgF.rf {a : Nat} {s : Nat → Int32} : AgF a s s := fun _ _ _ _ => rfl
theorem AgF.trans {a : Nat} {x y w : Nat → Int32} (h1 : AgF a x y) (h2 : AgF a y w) : AgF a x w := fun k p q r => (h2 k p q r).trans (h1 k p q r)
theorem emR_ag {a : Nat} : ∀ (l : List Int32) (s : Nat → Int32) (c : Nat), a < 6 → c + l.length ≤ 140 → AgF a s (emR s a c l)
  | [], _, _, _, _ => AgF.rf
  | x :: l, s, c, ha, h => by
    have h' : c + (l.length + 1) ≤ 140 := h
    refine AgF.trans (fun k p q r => ?_) (emR_ag l _ (c + 1) ha (by omega))
    rw [upK_n p, upK_n (by omega)]
theorem emR_cn {a : Nat} : ∀ (l : List Int32) (s : Nat → Int32) (c : Nat), s (130 + a) = nI c → emR s a c l (130 + a) = nI (c + l.length)
  | [], _, _, h => h
  | x :: l, s, c, h => by
    show emR _ a (c + 1) l (130 + a) = nI (c + (l.length + 1))
    rw [emR_cn l _ (c + 1) upK_s, show c + 1 + l.length = c + (l.length + 1) by omega]
set_option maxRecDepth 100000 in
set_option maxHeartbeats 4000000 in
theorem f_emits {st : MS} {a c : Nat} (h7 : mi st 7 = nI 0) (h4 : mi st 4 = nI a) (ha : a < 6) (hc : ma st 1 (130 + a) = nI c) (hc1 : c < 140) (x : Int32) : F_X12_emits G (encM G b st h0) nx b x = some ((), encM G b (msa st 1 (emR (ma st 1) a c [x])) h0, nx) := by
  have q : ∀ (f : Nat → Int32) (y : Int32), upK f (170 + 140 * a + c) y (130 + a) = f (130 + a) := fun f y => upK_n (by omega)
  unfold F_X12_emits F_X12_emits_56 emR emR
  simp (maxSteps := 3000000) (disch := omega) only [h7, h4, hc, q, ma_msa_n, ma_msa_s, mi_msi_n, mi_msi_s, ml_msl_n, ml_msl_s, ma_msi, ma_msl, mi_msa, mi_msl, ml_msa, ml_msi, msa_msa, msi_msi, msl_msl, ck_m, gf_s, gf_image, gf_truths, gf_knownRow, gf_daysRow, gf_bests, gf_nots, gf_lookeds, gf_bestsAt, gf_worths, gf_keptKnown, gf_keptDays, gf_round, gf_sums, gf_bestRound, gf_bodies, gf_thrown, gf_hasImage, gf_act, gf_spot, gf_size, gf_isWrong, gf_open, gf_edgeThing, gf_edgeMore, gf_stamp, gf_whose, gf_wage, gf_roundMany, gf_bestSet, gf_ran, gf_kind, gf_who, gf_tellsV, pf_thrown, pf_hasImage, pf_act, pf_spot, pf_size, pf_isWrong, pf_open, pf_edgeThing, pf_edgeMore, pf_stamp, pf_whose, pf_wage, pf_roundMany, pf_bestSet, pf_ran, pf_kind, pf_who, pf_tellsV, al_s, as_s, al_image, as_image, al_truths, as_truths0, as_truths1, al_knownRow, as_knownRow, al_daysRow, as_daysRow, al_bests, as_bests, al_nots, as_nots, al_lookeds, as_lookeds, al_bestsAt, as_bestsAt, al_worths, as_worths, al_keptKnown, as_keptKnown, al_keptDays, as_keptDays, al_round, as_round, al_sums, as_sums, al_bestRound, as_bestRound, al_bodies, as_bodies, cl_some, nm_b, nn_some, qn_some, qn_none, zk_0, zk_1, zk_n0, zk_n1, nI_add, pk_mul, pk_sub, nI_leE, nI_ltE, nI_eqE, nI_lt0, nI_ge0, nI_eq0, nI_gt0, nI_le0, ilt_t, ilt_f, ile_t, ile_f, ieq_t, ieq_f, if_tt, if_ff, Nat.add_sub_cancel]
set_option maxRecDepth 100000 in
set_option maxHeartbeats 4000000 in
theorem f_fig34 {z : Nat} : ∀ (r m p : Nat) (v : Int32) (st : MS), r ≤ 3 → r < m → AtP st z p → mi st 7 = nI 0 → F_X12_figures_34 G m (encM G b st h0) nx b v (nI (3 - r)) = some ((fgL (tpM st) z r v p).1, encM G b (msi st 5 (nI (fgL (tpM st) z r v p).2)) h0, nx) := by
  intro r
  induction r with
  | zero =>
    intro m p v st hr hm h h7
    obtain ⟨m, rfl⟩ : ∃ q, m = q + 1 := ⟨m - 1, by omega⟩
    have e : msi st 5 (nI p) = st := by rw [← h.1, msi_self]
    rw [F_X12_figures_34_s]
    unfold F_X12_figures_97 fgL
    simp (maxSteps := 3000000) (disch := omega) only [ma_msa_n, ma_msa_s, mi_msi_n, mi_msi_s, ml_msl_n, ml_msl_s, ma_msi, ma_msl, mi_msa, mi_msl, ml_msa, ml_msi, msa_msa, msi_msi, msl_msl, ck_m, gf_s, gf_image, gf_truths, gf_knownRow, gf_daysRow, gf_bests, gf_nots, gf_lookeds, gf_bestsAt, gf_worths, gf_keptKnown, gf_keptDays, gf_round, gf_sums, gf_bestRound, gf_bodies, gf_thrown, gf_hasImage, gf_act, gf_spot, gf_size, gf_isWrong, gf_open, gf_edgeThing, gf_edgeMore, gf_stamp, gf_whose, gf_wage, gf_roundMany, gf_bestSet, gf_ran, gf_kind, gf_who, gf_tellsV, pf_thrown, pf_hasImage, pf_act, pf_spot, pf_size, pf_isWrong, pf_open, pf_edgeThing, pf_edgeMore, pf_stamp, pf_whose, pf_wage, pf_roundMany, pf_bestSet, pf_ran, pf_kind, pf_who, pf_tellsV, al_s, as_s, al_image, as_image, al_truths, as_truths0, as_truths1, al_knownRow, as_knownRow, al_daysRow, as_daysRow, al_bests, as_bests, al_nots, as_nots, al_lookeds, as_lookeds, al_bestsAt, as_bestsAt, al_worths, as_worths, al_keptKnown, as_keptKnown, al_keptDays, as_keptDays, al_round, as_round, al_sums, as_sums, al_bestRound, as_bestRound, al_bodies, as_bodies, cl_some, nm_b, nn_some, qn_some, qn_none, zk_0, zk_1, zk_n0, zk_n1, nI_add, pk_mul, pk_sub, nI_leE, nI_ltE, nI_eqE, nI_lt0, nI_ge0, nI_eq0, nI_gt0, nI_le0, ilt_t, ilt_f, ile_t, ile_f, ieq_t, ieq_f, if_tt, if_ff, Nat.add_sub_cancel]
    rw [e]
  | succ r ih =>
    intro m p v st hr hm h h7
    obtain ⟨m, rfl⟩ : ∃ q, m = q + 1 := ⟨m - 1, by omega⟩
    have e : msi st 5 (nI p) = st := by rw [← h.1, msi_self]
    have eh := f_here (G := G) (b := b) (h0 := h0) (nx := nx) h
    have h5 := h.1
    have es : fgL (tpM st) z (r + 1) v p = if ¬ bIn (hereP (tpM st) z p) (nI 48) (nI 57) = 0 ∧ (r = 2 ∨ ¬ v ≤ 0) then fgL (tpM st) z r (nI 10 * v + hereP (tpM st) z p - nI 48) (p + 1) else (v, p) := rfl
    rw [F_X12_figures_34_s, es]
    unfold F_X12_figures_97 F_X12_figures_68
    simp (maxSteps := 3000000) (disch := omega) only [h7, eh, f_in, ma_msa_n, ma_msa_s, mi_msi_n, mi_msi_s, ml_msl_n, ml_msl_s, ma_msi, ma_msl, mi_msa, mi_msl, ml_msa, ml_msi, msa_msa, msi_msi, msl_msl, ck_m, gf_s, gf_image, gf_truths, gf_knownRow, gf_daysRow, gf_bests, gf_nots, gf_lookeds, gf_bestsAt, gf_worths, gf_keptKnown, gf_keptDays, gf_round, gf_sums, gf_bestRound, gf_bodies, gf_thrown, gf_hasImage, gf_act, gf_spot, gf_size, gf_isWrong, gf_open, gf_edgeThing, gf_edgeMore, gf_stamp, gf_whose, gf_wage, gf_roundMany, gf_bestSet, gf_ran, gf_kind, gf_who, gf_tellsV, pf_thrown, pf_hasImage, pf_act, pf_spot, pf_size, pf_isWrong, pf_open, pf_edgeThing, pf_edgeMore, pf_stamp, pf_whose, pf_wage, pf_roundMany, pf_bestSet, pf_ran, pf_kind, pf_who, pf_tellsV, al_s, as_s, al_image, as_image, al_truths, as_truths0, as_truths1, al_knownRow, as_knownRow, al_daysRow, as_daysRow, al_bests, as_bests, al_nots, as_nots, al_lookeds, as_lookeds, al_bestsAt, as_bestsAt, al_worths, as_worths, al_keptKnown, as_keptKnown, al_keptDays, as_keptDays, al_round, as_round, al_sums, as_sums, al_bestRound, as_bestRound, al_bodies, as_bodies, cl_some, nm_b, nn_some, qn_some, qn_none, zk_0, zk_1, zk_n0, zk_n1, nI_add, pk_mul, pk_sub, nI_leE, nI_ltE, nI_eqE, nI_lt0, nI_ge0, nI_eq0, nI_gt0, nI_le0, ilt_t, ilt_f, ile_t, ile_f, ieq_t, ieq_f, if_tt, if_ff, Nat.add_sub_cancel]
    by_cases c1 : bIn (hereP (tpM st) z p) (nI 48) (nI 57) = 0
    · rw [if_pos c1, if_neg (fun q => q.1 c1)]
      simp only []
      rw [e]
    · rw [if_neg c1]
      have hin := fg_in (tp := tpM st) (z := z) (p := p) c1
      have go := ih m (p + 1) (nI 10 * v + hereP (tpM st) z p - nI 48) (msi st 5 (nI (p + 1))) (by omega) (by omega) ⟨mi_msi_s, by rw [mi_msi_n (by decide)]; exact h.2.1, h.2.2.1, by omega⟩ (by rw [mi_msi_n (by decide)]; exact h7)
      rw [show tpM (msi st 5 (nI (p + 1))) = tpM st from rfl, msi_msi, show 3 - r = 3 - (r + 1) + 1 by omega] at go
      by_cases c2 : 3 - (r + 1) = 0
      · rw [if_pos c2, if_pos ⟨c1, Or.inl (by omega)⟩]
        simp (maxSteps := 3000000) (disch := omega) only [h5, ma_msa_n, ma_msa_s, mi_msi_n, mi_msi_s, ml_msl_n, ml_msl_s, ma_msi, ma_msl, mi_msa, mi_msl, ml_msa, ml_msi, msa_msa, msi_msi, msl_msl, ck_m, gf_s, gf_image, gf_truths, gf_knownRow, gf_daysRow, gf_bests, gf_nots, gf_lookeds, gf_bestsAt, gf_worths, gf_keptKnown, gf_keptDays, gf_round, gf_sums, gf_bestRound, gf_bodies, gf_thrown, gf_hasImage, gf_act, gf_spot, gf_size, gf_isWrong, gf_open, gf_edgeThing, gf_edgeMore, gf_stamp, gf_whose, gf_wage, gf_roundMany, gf_bestSet, gf_ran, gf_kind, gf_who, gf_tellsV, pf_thrown, pf_hasImage, pf_act, pf_spot, pf_size, pf_isWrong, pf_open, pf_edgeThing, pf_edgeMore, pf_stamp, pf_whose, pf_wage, pf_roundMany, pf_bestSet, pf_ran, pf_kind, pf_who, pf_tellsV, al_s, as_s, al_image, as_image, al_truths, as_truths0, as_truths1, al_knownRow, as_knownRow, al_daysRow, as_daysRow, al_bests, as_bests, al_nots, as_nots, al_lookeds, as_lookeds, al_bestsAt, as_bestsAt, al_worths, as_worths, al_keptKnown, as_keptKnown, al_keptDays, as_keptDays, al_round, as_round, al_sums, as_sums, al_bestRound, as_bestRound, al_bodies, as_bodies, cl_some, nm_b, nn_some, qn_some, qn_none, zk_0, zk_1, zk_n0, zk_n1, nI_add, pk_mul, pk_sub, nI_leE, nI_ltE, nI_eqE, nI_lt0, nI_ge0, nI_eq0, nI_gt0, nI_le0, ilt_t, ilt_f, ile_t, ile_f, ieq_t, ieq_f, if_tt, if_ff, Nat.add_sub_cancel]
        exact go
      · rw [if_neg c2]
        by_cases c3 : v ≤ 0
        · rw [if_pos c3, if_neg (fun q => q.2.elim (fun z => c2 (by omega)) (fun z => z c3))]
          simp only []
          rw [e]
        · rw [if_neg c3, if_pos ⟨c1, Or.inr c3⟩]
          simp (maxSteps := 3000000) (disch := omega) only [h5, ma_msa_n, ma_msa_s, mi_msi_n, mi_msi_s, ml_msl_n, ml_msl_s, ma_msi, ma_msl, mi_msa, mi_msl, ml_msa, ml_msi, msa_msa, msi_msi, msl_msl, ck_m, gf_s, gf_image, gf_truths, gf_knownRow, gf_daysRow, gf_bests, gf_nots, gf_lookeds, gf_bestsAt, gf_worths, gf_keptKnown, gf_keptDays, gf_round, gf_sums, gf_bestRound, gf_bodies, gf_thrown, gf_hasImage, gf_act, gf_spot, gf_size, gf_isWrong, gf_open, gf_edgeThing, gf_edgeMore, gf_stamp, gf_whose, gf_wage, gf_roundMany, gf_bestSet, gf_ran, gf_kind, gf_who, gf_tellsV, pf_thrown, pf_hasImage, pf_act, pf_spot, pf_size, pf_isWrong, pf_open, pf_edgeThing, pf_edgeMore, pf_stamp, pf_whose, pf_wage, pf_roundMany, pf_bestSet, pf_ran, pf_kind, pf_who, pf_tellsV, al_s, as_s, al_image, as_image, al_truths, as_truths0, as_truths1, al_knownRow, as_knownRow, al_daysRow, as_daysRow, al_bests, as_bests, al_nots, as_nots, al_lookeds, as_lookeds, al_bestsAt, as_bestsAt, al_worths, as_worths, al_keptKnown, as_keptKnown, al_keptDays, as_keptDays, al_round, as_round, al_sums, as_sums, al_bestRound, as_bestRound, al_bodies, as_bodies, cl_some, nm_b, nn_some, qn_some, qn_none, zk_0, zk_1, zk_n0, zk_n1, nI_add, pk_mul, pk_sub, nI_leE, nI_ltE, nI_eqE, nI_lt0, nI_ge0, nI_eq0, nI_gt0, nI_le0, ilt_t, ilt_f, ile_t, ile_f, ieq_t, ieq_f, if_tt, if_ff, Nat.add_sub_cancel]
          exact go
set_option maxRecDepth 100000 in
set_option maxHeartbeats 4000000 in
theorem f_figures {st : MS} {z p : Nat} (h : AtP st z p) (h7 : mi st 7 = nI 0) : F_X12_figures G (encM G b st h0) nx b = if isFg (tpM st) z p then some ((fgL (tpM st) z 3 (nI 0) p).1, encM G b (msi st 5 (nI (fgL (tpM st) z 3 (nI 0) p).2)) h0, nx) else some (nI 0, encM G b (msi st 7 (nI 1)) h0, nx) := by
  have eh := f_here (G := G) (b := b) (h0 := h0) (nx := nx) h
  have e34 := f_fig34 (G := G) (b := b) (h0 := h0) (nx := nx) 3 fuelL p (nI 0) st (by omega) (by unfold fuelL; omega) h h7
  have e7 : msi st 7 (nI 0) = st := by rw [← h7, msi_self]
  unfold F_X12_figures F_X12_figures_22 F_X12_figures_27
  simp (maxSteps := 3000000) (disch := omega) only [h7, eh, f_in, ma_msa_n, ma_msa_s, mi_msi_n, mi_msi_s, ml_msl_n, ml_msl_s, ma_msi, ma_msl, mi_msa, mi_msl, ml_msa, ml_msi, msa_msa, msi_msi, msl_msl, ck_m, gf_s, gf_image, gf_truths, gf_knownRow, gf_daysRow, gf_bests, gf_nots, gf_lookeds, gf_bestsAt, gf_worths, gf_keptKnown, gf_keptDays, gf_round, gf_sums, gf_bestRound, gf_bodies, gf_thrown, gf_hasImage, gf_act, gf_spot, gf_size, gf_isWrong, gf_open, gf_edgeThing, gf_edgeMore, gf_stamp, gf_whose, gf_wage, gf_roundMany, gf_bestSet, gf_ran, gf_kind, gf_who, gf_tellsV, pf_thrown, pf_hasImage, pf_act, pf_spot, pf_size, pf_isWrong, pf_open, pf_edgeThing, pf_edgeMore, pf_stamp, pf_whose, pf_wage, pf_roundMany, pf_bestSet, pf_ran, pf_kind, pf_who, pf_tellsV, al_s, as_s, al_image, as_image, al_truths, as_truths0, as_truths1, al_knownRow, as_knownRow, al_daysRow, as_daysRow, al_bests, as_bests, al_nots, as_nots, al_lookeds, as_lookeds, al_bestsAt, as_bestsAt, al_worths, as_worths, al_keptKnown, as_keptKnown, al_keptDays, as_keptDays, al_round, as_round, al_sums, as_sums, al_bestRound, as_bestRound, al_bodies, as_bodies, cl_some, nm_b, nn_some, qn_some, qn_none, zk_0, zk_1, zk_n0, zk_n1, nI_add, pk_mul, pk_sub, nI_leE, nI_ltE, nI_eqE, nI_lt0, nI_ge0, nI_eq0, nI_gt0, nI_le0, ilt_t, ilt_f, ile_t, ile_f, ieq_t, ieq_f, if_tt, if_ff, Nat.add_sub_cancel]
  by_cases c1 : bIn (hereP (tpM st) z p) (nI 48) (nI 57) = 0
  · rw [if_pos c1, if_neg (show ¬ isFg (tpM st) z p from fun q => q c1), show fuelL = 2047 + 1 from rfl, F_X12_figures_34_s]
    unfold F_X12_figures_97
    simp (maxSteps := 3000000) (disch := omega) only [ma_msa_n, ma_msa_s, mi_msi_n, mi_msi_s, ml_msl_n, ml_msl_s, ma_msi, ma_msl, mi_msa, mi_msl, ml_msa, ml_msi, msa_msa, msi_msi, msl_msl, ck_m, gf_s, gf_image, gf_truths, gf_knownRow, gf_daysRow, gf_bests, gf_nots, gf_lookeds, gf_bestsAt, gf_worths, gf_keptKnown, gf_keptDays, gf_round, gf_sums, gf_bestRound, gf_bodies, gf_thrown, gf_hasImage, gf_act, gf_spot, gf_size, gf_isWrong, gf_open, gf_edgeThing, gf_edgeMore, gf_stamp, gf_whose, gf_wage, gf_roundMany, gf_bestSet, gf_ran, gf_kind, gf_who, gf_tellsV, pf_thrown, pf_hasImage, pf_act, pf_spot, pf_size, pf_isWrong, pf_open, pf_edgeThing, pf_edgeMore, pf_stamp, pf_whose, pf_wage, pf_roundMany, pf_bestSet, pf_ran, pf_kind, pf_who, pf_tellsV, al_s, as_s, al_image, as_image, al_truths, as_truths0, as_truths1, al_knownRow, as_knownRow, al_daysRow, as_daysRow, al_bests, as_bests, al_nots, as_nots, al_lookeds, as_lookeds, al_bestsAt, as_bestsAt, al_worths, as_worths, al_keptKnown, as_keptKnown, al_keptDays, as_keptDays, al_round, as_round, al_sums, as_sums, al_bestRound, as_bestRound, al_bodies, as_bodies, cl_some, nm_b, nn_some, qn_some, qn_none, zk_0, zk_1, zk_n0, zk_n1, nI_add, pk_mul, pk_sub, nI_leE, nI_ltE, nI_eqE, nI_lt0, nI_ge0, nI_eq0, nI_gt0, nI_le0, ilt_t, ilt_f, ile_t, ile_f, ieq_t, ieq_f, if_tt, if_ff, Nat.add_sub_cancel]
  · rw [if_neg c1, if_pos (show isFg (tpM st) z p from c1), e7]
    exact e34
set_option maxRecDepth 100000 in
set_option maxHeartbeats 4000000 in
theorem f_figW {st : MS} (h7 : mi st 7 = nI 1) : F_X12_figures G (encM G b st h0) nx b = some (nI 0, encM G b st h0, nx) := by
  have e7 : msi st 7 (nI 1) = st := by rw [← h7, msi_self]
  unfold F_X12_figures F_X12_figures_22 F_X12_figures_27
  simp (maxSteps := 3000000) (disch := omega) only [h7, ma_msa_n, ma_msa_s, mi_msi_n, mi_msi_s, ml_msl_n, ml_msl_s, ma_msi, ma_msl, mi_msa, mi_msl, ml_msa, ml_msi, msa_msa, msi_msi, msl_msl, ck_m, gf_s, gf_image, gf_truths, gf_knownRow, gf_daysRow, gf_bests, gf_nots, gf_lookeds, gf_bestsAt, gf_worths, gf_keptKnown, gf_keptDays, gf_round, gf_sums, gf_bestRound, gf_bodies, gf_thrown, gf_hasImage, gf_act, gf_spot, gf_size, gf_isWrong, gf_open, gf_edgeThing, gf_edgeMore, gf_stamp, gf_whose, gf_wage, gf_roundMany, gf_bestSet, gf_ran, gf_kind, gf_who, gf_tellsV, pf_thrown, pf_hasImage, pf_act, pf_spot, pf_size, pf_isWrong, pf_open, pf_edgeThing, pf_edgeMore, pf_stamp, pf_whose, pf_wage, pf_roundMany, pf_bestSet, pf_ran, pf_kind, pf_who, pf_tellsV, al_s, as_s, al_image, as_image, al_truths, as_truths0, as_truths1, al_knownRow, as_knownRow, al_daysRow, as_daysRow, al_bests, as_bests, al_nots, as_nots, al_lookeds, as_lookeds, al_bestsAt, as_bestsAt, al_worths, as_worths, al_keptKnown, as_keptKnown, al_keptDays, as_keptDays, al_round, as_round, al_sums, as_sums, al_bestRound, as_bestRound, al_bodies, as_bodies, cl_some, nm_b, nn_some, qn_some, qn_none, zk_0, zk_1, zk_n0, zk_n1, nI_add, pk_mul, pk_sub, nI_leE, nI_ltE, nI_eqE, nI_lt0, nI_ge0, nI_eq0, nI_gt0, nI_le0, ilt_t, ilt_f, ile_t, ile_f, ieq_t, ieq_f, if_tt, if_ff, Nat.add_sub_cancel]
  rw [show fuelL = 2047 + 1 from rfl, F_X12_figures_34_s, e7]
  unfold F_X12_figures_97
  simp (maxSteps := 3000000) (disch := omega) only [h7, ma_msa_n, ma_msa_s, mi_msi_n, mi_msi_s, ml_msl_n, ml_msl_s, ma_msi, ma_msl, mi_msa, mi_msl, ml_msa, ml_msi, msa_msa, msi_msi, msl_msl, ck_m, gf_s, gf_image, gf_truths, gf_knownRow, gf_daysRow, gf_bests, gf_nots, gf_lookeds, gf_bestsAt, gf_worths, gf_keptKnown, gf_keptDays, gf_round, gf_sums, gf_bestRound, gf_bodies, gf_thrown, gf_hasImage, gf_act, gf_spot, gf_size, gf_isWrong, gf_open, gf_edgeThing, gf_edgeMore, gf_stamp, gf_whose, gf_wage, gf_roundMany, gf_bestSet, gf_ran, gf_kind, gf_who, gf_tellsV, pf_thrown, pf_hasImage, pf_act, pf_spot, pf_size, pf_isWrong, pf_open, pf_edgeThing, pf_edgeMore, pf_stamp, pf_whose, pf_wage, pf_roundMany, pf_bestSet, pf_ran, pf_kind, pf_who, pf_tellsV, al_s, as_s, al_image, as_image, al_truths, as_truths0, as_truths1, al_knownRow, as_knownRow, al_daysRow, as_daysRow, al_bests, as_bests, al_nots, as_nots, al_lookeds, as_lookeds, al_bestsAt, as_bestsAt, al_worths, as_worths, al_keptKnown, as_keptKnown, al_keptDays, as_keptDays, al_round, as_round, al_sums, as_sums, al_bestRound, as_bestRound, al_bodies, as_bodies, cl_some, nm_b, nn_some, qn_some, qn_none, zk_0, zk_1, zk_n0, zk_n1, nI_add, pk_mul, pk_sub, nI_leE, nI_ltE, nI_eqE, nI_lt0, nI_ge0, nI_eq0, nI_gt0, nI_le0, ilt_t, ilt_f, ile_t, ile_f, ieq_t, ieq_f, if_tt, if_ff, Nat.add_sub_cancel]
end P1
