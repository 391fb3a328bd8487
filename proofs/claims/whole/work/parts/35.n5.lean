/-! THE REFERENCE: a plan's act, and its trace -/
def unF (k u : Int32) : Int32 := if u = 0 then 1 else if u = k then 1 else if u = nI 2 ∧ k = nI 4 then 1 else if u = nI 3 ∧ k = nI 5 then 1 else 0
/-- bodies that run, noted from place r on -/
def wrB (st : MS) : Nat → List Int32 → MS
  | _, [] => st
  | r, x :: l => wrB (msi (msa st 29 (upK (ma st 29) r x)) 30 (nI (r + 1))) (r + 1) l
theorem wrB_app : ∀ (l1 l2 : List Int32) (st : MS) (r : Nat), wrB st r (l1 ++ l2) = wrB (wrB st r l1) (r + l1.length) l2
  | [], _, _, _ => rfl
  | x :: l1, l2, st, r => by
    show wrB _ (r + 1) (l1 ++ l2) = _
    rw [wrB_app l1 l2]
    show _ = wrB (wrB _ (r + 1) l1) (r + (l1.length + 1)) l2
    rw [show r + 1 + l1.length = r + (l1.length + 1) by omega]
theorem wrB_fr : ∀ (l : List Int32) (st : MS) (r : Nat), FrM [29, 30] st (wrB st r l)
  | [], _, _ => FrM.rf
  | x :: l, st, r => (((FrM.msa (k := 29) (ks := [29, 30]) (by decide)).trans (FrM.msi (k := 30) (ks := [29, 30]) (by decide))).trans (wrB_fr l _ (r + 1))).mono (by decide)
theorem wrB_ran : ∀ (l : List Int32) (st : MS) (r : Nat), mi st 30 = nI r → mi (wrB st r l) 30 = nI (r + l.length)
  | [], _, _, h => h
  | x :: l, st, r, _ => by
    show mi (wrB _ (r + 1) l) 30 = _
    rw [wrB_ran l _ (r + 1) mi_msi_s]
    show nI (r + 1 + l.length) = nI (r + (l.length + 1))
    rw [show r + 1 + l.length = r + (l.length + 1) by omega]
def meA (k p v x : Int32) : Int32 := if k = nI 1 then x * nI 3 + p else if k = nI 6 then x + p + v else x + p
def meL (k : Int32) : List Int32 := if k = nI 1 then [nI 11, nI 1] else if k = nI 6 then [nI 61, nI 1] else [nI 1]
def roA (k p v x : Int32) : Int32 := if k = nI 5 then (meA k p v x - v) ^^^ p else if unF k (nI 2) = 0 then meA k p v x - v else (meA k p v x - v) ^^^ nI 5
def roL (k : Int32) : List Int32 := if k = nI 5 then nI 51 :: nI 2 :: meL k else if unF k (nI 2) = 0 then nI 2 :: meL k else nI 21 :: nI 2 :: meL k
def peA (k p v x : Int32) : Int32 := roA k p v x * nI 2
def peL (k : Int32) : List Int32 := nI 3 :: roL k
def enA (k p v x : Int32) : Int32 := if k = nI 4 then peA k p v (x + nI 1) + meA k p v (nI 2) else if unF k (nI 3) = 0 then peA k p v x else -peA k p v x
def enL (k : Int32) : List Int32 := if k = nI 4 then nI 41 :: (peL k ++ meL k) else if unF k (nI 3) = 0 then peL k else nI 31 :: peL k
/-- the act under way -/
def ActAt (st : MS) (k p v : Int32) (r : Nat) : Prop := mi st 31 = k ∧ mi st 32 = p ∧ mi st 33 = v ∧ mi st 30 = nI r
theorem ActAt.wr {st : MS} {k p v : Int32} {r : Nat} (h : ActAt st k p v r) (l : List Int32) : ActAt (wrB st r l) k p v (r + l.length) := by
  obtain ⟨h1, h2, h3, h4⟩ := h
  have hf := wrB_fr l st r
  exact ⟨(hf.of1 31 (by decide)).trans h1, (hf.of1 32 (by decide)).trans h2, (hf.of1 33 (by decide)).trans h3, wrB_ran l st r h4⟩
theorem meL_len (k : Int32) : (meL k).length ≤ 2 := by
  unfold meL
  split
  · decide
  · split <;> decide
theorem roL_len (k : Int32) : (roL k).length ≤ 4 := by
  have := meL_len k
  unfold roL
  split
  · simp only [List.length_cons]; omega
  · split <;> simp only [List.length_cons] <;> omega
theorem enL_len (k : Int32) : (enL k).length ≤ 8 := by
  have := meL_len k
  have := roL_len k
  unfold enL peL
  split
  · simp only [List.length_cons, List.length_append]; omega
  · split <;> simp only [List.length_cons] <;> omega
section N5
variable {G : Gx} {b : Nat} {h0 : Hp} {nx : Nat}
set_option maxRecDepth 100000 in
set_option maxHeartbeats 4000000 in
theorem f_isUnder {k u : Int32} {h : Hp} : F_X12_isUnder G h nx k u = some (unF k u, h, nx) := by
  unfold F_X12_isUnder F_X12_isUnder_19 F_X12_isUnder_29 F_X12_isUnder_33 F_X12_isUnder_34 unF
  simp (maxSteps := 3000000) (disch := omega) only [ma_msa_n, ma_msa_s, mi_msi_n, mi_msi_s, ml_msl_n, ml_msl_s, ma_msi, ma_msl, mi_msa, mi_msl, ml_msa, ml_msi, msa_msa, msi_msi, msl_msl, ck_m, gf_s, gf_image, gf_truths, gf_knownRow, gf_daysRow, gf_bests, gf_nots, gf_lookeds, gf_bestsAt, gf_worths, gf_keptKnown, gf_keptDays, gf_round, gf_sums, gf_bestRound, gf_bodies, gf_thrown, gf_hasImage, gf_act, gf_spot, gf_size, gf_isWrong, gf_open, gf_edgeThing, gf_edgeMore, gf_stamp, gf_whose, gf_wage, gf_roundMany, gf_bestSet, gf_ran, gf_kind, gf_who, gf_tellsV, pf_thrown, pf_hasImage, pf_act, pf_spot, pf_size, pf_isWrong, pf_open, pf_edgeThing, pf_edgeMore, pf_stamp, pf_whose, pf_wage, pf_roundMany, pf_bestSet, pf_ran, pf_kind, pf_who, pf_tellsV, al_s, as_s, al_image, as_image, al_truths, as_truths0, as_truths1, al_knownRow, as_knownRow, al_daysRow, as_daysRow, al_bests, as_bests, al_nots, as_nots, al_lookeds, as_lookeds, al_bestsAt, as_bestsAt, al_worths, as_worths, al_keptKnown, as_keptKnown, al_keptDays, as_keptDays, al_round, as_round, al_sums, as_sums, al_bestRound, as_bestRound, al_bodies, as_bodies, cl_some, nm_b, nn_some, qn_some, qn_none, zk_0, zk_1, zk_n0, zk_n1, nI_add, pk_mul, pk_sub, nI_leE, nI_ltE, nI_eqE, nI_lt0, nI_ge0, nI_eq0, nI_gt0, nI_le0, ilt_t, ilt_f, ile_t, ile_f, ieq_t, ieq_f, if_tt, if_ff, Nat.add_sub_cancel]
  by_cases c1 : u = 0
  · rw [if_pos c1, if_pos c1]
    rfl
  · rw [if_neg c1, if_neg c1]
    by_cases c2 : u = k
    · rw [if_pos c2, if_pos c2]
      rfl
    · rw [if_neg c2, if_neg c2]
      by_cases c3 : u = nI 2
      · rw [if_pos c3]
        by_cases c4 : k = nI 4
        · rw [if_pos c4, if_pos ⟨c3, c4⟩]
          rfl
        · have c5 : ¬ u = nI 3 := by rw [c3]; decide
          rw [if_neg c4, if_neg c5, if_neg (fun q => c4 q.2), if_neg (fun q => c5 q.1)]
          rfl
      · rw [if_neg c3, if_neg (show ¬ (u = nI 2 ∧ k = nI 4) from fun q => c3 q.1)]
        by_cases c5 : u = nI 3
        · rw [if_pos c5]
          by_cases c6 : k = nI 5
          · rw [if_pos c6, if_pos ⟨c5, c6⟩]
            rfl
          · rw [if_neg c6, if_neg (show ¬ (u = nI 3 ∧ k = nI 5) from fun q => c6 q.2)]
            rfl
        · rw [if_neg c5, if_neg (show ¬ (u = nI 3 ∧ k = nI 5) from fun q => c5 q.1)]
          rfl
set_option maxRecDepth 100000 in
set_option maxHeartbeats 4000000 in
theorem f_runs {st : MS} {r : Nat} {x : Int32} (h : mi st 30 = nI r) (hr : r < 20) : F_X12_runs G (encM G b st h0) nx b x = some ((), encM G b (wrB st r [x]) h0, nx) := by
  unfold F_X12_runs F_X12_runs_19 wrB wrB
  simp (maxSteps := 3000000) (disch := omega) only [h, ma_msa_n, ma_msa_s, mi_msi_n, mi_msi_s, ml_msl_n, ml_msl_s, ma_msi, ma_msl, mi_msa, mi_msl, ml_msa, ml_msi, msa_msa, msi_msi, msl_msl, ck_m, gf_s, gf_image, gf_truths, gf_knownRow, gf_daysRow, gf_bests, gf_nots, gf_lookeds, gf_bestsAt, gf_worths, gf_keptKnown, gf_keptDays, gf_round, gf_sums, gf_bestRound, gf_bodies, gf_thrown, gf_hasImage, gf_act, gf_spot, gf_size, gf_isWrong, gf_open, gf_edgeThing, gf_edgeMore, gf_stamp, gf_whose, gf_wage, gf_roundMany, gf_bestSet, gf_ran, gf_kind, gf_who, gf_tellsV, pf_thrown, pf_hasImage, pf_act, pf_spot, pf_size, pf_isWrong, pf_open, pf_edgeThing, pf_edgeMore, pf_stamp, pf_whose, pf_wage, pf_roundMany, pf_bestSet, pf_ran, pf_kind, pf_who, pf_tellsV, al_s, as_s, al_image, as_image, al_truths, as_truths0, as_truths1, al_knownRow, as_knownRow, al_daysRow, as_daysRow, al_bests, as_bests, al_nots, as_nots, al_lookeds, as_lookeds, al_bestsAt, as_bestsAt, al_worths, as_worths, al_keptKnown, as_keptKnown, al_keptDays, as_keptDays, al_round, as_round, al_sums, as_sums, al_bestRound, as_bestRound, al_bodies, as_bodies, cl_some, nm_b, nn_some, qn_some, qn_none, zk_0, zk_1, zk_n0, zk_n1, nI_add, pk_mul, pk_sub, nI_leE, nI_ltE, nI_eqE, nI_lt0, nI_ge0, nI_eq0, nI_gt0, nI_le0, ilt_t, ilt_f, ile_t, ile_f, ieq_t, ieq_f, if_tt, if_ff, Nat.add_sub_cancel]
set_option maxRecDepth 100000 in
set_option maxHeartbeats 4000000 in
theorem f_plainMeans {st : MS} {k p v x : Int32} {r : Nat} (h : ActAt st k p v r) (hr : r < 20) : F_X12_plainMeans G (encM G b st h0) nx b x = some (x + p, encM G b (wrB st r [nI 1]) h0, nx) := by
  have e := f_runs (G := G) (b := b) (h0 := h0) (nx := nx) (x := nI 1) h.2.2.2 hr
  have h2 := (h.wr [nI 1]).2.1
  unfold F_X12_plainMeans
  simp (maxSteps := 3000000) (disch := omega) only [e, h2, ma_msa_n, ma_msa_s, mi_msi_n, mi_msi_s, ml_msl_n, ml_msl_s, ma_msi, ma_msl, mi_msa, mi_msl, ml_msa, ml_msi, msa_msa, msi_msi, msl_msl, ck_m, gf_s, gf_image, gf_truths, gf_knownRow, gf_daysRow, gf_bests, gf_nots, gf_lookeds, gf_bestsAt, gf_worths, gf_keptKnown, gf_keptDays, gf_round, gf_sums, gf_bestRound, gf_bodies, gf_thrown, gf_hasImage, gf_act, gf_spot, gf_size, gf_isWrong, gf_open, gf_edgeThing, gf_edgeMore, gf_stamp, gf_whose, gf_wage, gf_roundMany, gf_bestSet, gf_ran, gf_kind, gf_who, gf_tellsV, pf_thrown, pf_hasImage, pf_act, pf_spot, pf_size, pf_isWrong, pf_open, pf_edgeThing, pf_edgeMore, pf_stamp, pf_whose, pf_wage, pf_roundMany, pf_bestSet, pf_ran, pf_kind, pf_who, pf_tellsV, al_s, as_s, al_image, as_image, al_truths, as_truths0, as_truths1, al_knownRow, as_knownRow, al_daysRow, as_daysRow, al_bests, as_bests, al_nots, as_nots, al_lookeds, as_lookeds, al_bestsAt, as_bestsAt, al_worths, as_worths, al_keptKnown, as_keptKnown, al_keptDays, as_keptDays, al_round, as_round, al_sums, as_sums, al_bestRound, as_bestRound, al_bodies, as_bodies, cl_some, nm_b, nn_some, qn_some, qn_none, zk_0, zk_1, zk_n0, zk_n1, nI_add, pk_mul, pk_sub, nI_leE, nI_ltE, nI_eqE, nI_lt0, nI_ge0, nI_eq0, nI_gt0, nI_le0, ilt_t, ilt_f, ile_t, ile_f, ieq_t, ieq_f, if_tt, if_ff, Nat.add_sub_cancel]
set_option maxRecDepth 100000 in
set_option maxHeartbeats 4000000 in
theorem f_meansActs {st : MS} {k p v x : Int32} {r : Nat} (h : ActAt st k p v r) (hr : r < 18) : F_X12_meansActs G (encM G b st h0) nx b x = some (meA k p v x, encM G b (wrB st r (meL k)) h0, nx) := by
  have h1 := h.1
  unfold F_X12_meansActs meA meL
  simp (maxSteps := 3000000) (disch := omega) only [h1, ma_msa_n, ma_msa_s, mi_msi_n, mi_msi_s, ml_msl_n, ml_msl_s, ma_msi, ma_msl, mi_msa, mi_msl, ml_msa, ml_msi, msa_msa, msi_msi, msl_msl, ck_m, gf_s, gf_image, gf_truths, gf_knownRow, gf_daysRow, gf_bests, gf_nots, gf_lookeds, gf_bestsAt, gf_worths, gf_keptKnown, gf_keptDays, gf_round, gf_sums, gf_bestRound, gf_bodies, gf_thrown, gf_hasImage, gf_act, gf_spot, gf_size, gf_isWrong, gf_open, gf_edgeThing, gf_edgeMore, gf_stamp, gf_whose, gf_wage, gf_roundMany, gf_bestSet, gf_ran, gf_kind, gf_who, gf_tellsV, pf_thrown, pf_hasImage, pf_act, pf_spot, pf_size, pf_isWrong, pf_open, pf_edgeThing, pf_edgeMore, pf_stamp, pf_whose, pf_wage, pf_roundMany, pf_bestSet, pf_ran, pf_kind, pf_who, pf_tellsV, al_s, as_s, al_image, as_image, al_truths, as_truths0, as_truths1, al_knownRow, as_knownRow, al_daysRow, as_daysRow, al_bests, as_bests, al_nots, as_nots, al_lookeds, as_lookeds, al_bestsAt, as_bestsAt, al_worths, as_worths, al_keptKnown, as_keptKnown, al_keptDays, as_keptDays, al_round, as_round, al_sums, as_sums, al_bestRound, as_bestRound, al_bodies, as_bodies, cl_some, nm_b, nn_some, qn_some, qn_none, zk_0, zk_1, zk_n0, zk_n1, nI_add, pk_mul, pk_sub, nI_leE, nI_ltE, nI_eqE, nI_lt0, nI_ge0, nI_eq0, nI_gt0, nI_le0, ilt_t, ilt_f, ile_t, ile_f, ieq_t, ieq_f, if_tt, if_ff, Nat.add_sub_cancel]
  by_cases c : k = nI 1
  · rw [if_pos c, if_pos c, if_pos c]
    have e := f_runs (G := G) (b := b) (h0 := h0) (nx := nx) (x := nI 11) h.2.2.2 (by omega)
    have e2 := f_plainMeans (G := G) (b := b) (h0 := h0) (nx := nx) (x := x * nI 3) (h.wr [nI 11]) (by show r + 1 < 20; omega)
    rw [← wrB_app] at e2
    simp (maxSteps := 3000000) (disch := omega) only [e, e2, ma_msa_n, ma_msa_s, mi_msi_n, mi_msi_s, ml_msl_n, ml_msl_s, ma_msi, ma_msl, mi_msa, mi_msl, ml_msa, ml_msi, msa_msa, msi_msi, msl_msl, ck_m, gf_s, gf_image, gf_truths, gf_knownRow, gf_daysRow, gf_bests, gf_nots, gf_lookeds, gf_bestsAt, gf_worths, gf_keptKnown, gf_keptDays, gf_round, gf_sums, gf_bestRound, gf_bodies, gf_thrown, gf_hasImage, gf_act, gf_spot, gf_size, gf_isWrong, gf_open, gf_edgeThing, gf_edgeMore, gf_stamp, gf_whose, gf_wage, gf_roundMany, gf_bestSet, gf_ran, gf_kind, gf_who, gf_tellsV, pf_thrown, pf_hasImage, pf_act, pf_spot, pf_size, pf_isWrong, pf_open, pf_edgeThing, pf_edgeMore, pf_stamp, pf_whose, pf_wage, pf_roundMany, pf_bestSet, pf_ran, pf_kind, pf_who, pf_tellsV, al_s, as_s, al_image, as_image, al_truths, as_truths0, as_truths1, al_knownRow, as_knownRow, al_daysRow, as_daysRow, al_bests, as_bests, al_nots, as_nots, al_lookeds, as_lookeds, al_bestsAt, as_bestsAt, al_worths, as_worths, al_keptKnown, as_keptKnown, al_keptDays, as_keptDays, al_round, as_round, al_sums, as_sums, al_bestRound, as_bestRound, al_bodies, as_bodies, cl_some, nm_b, nn_some, qn_some, qn_none, zk_0, zk_1, zk_n0, zk_n1, nI_add, pk_mul, pk_sub, nI_leE, nI_ltE, nI_eqE, nI_lt0, nI_ge0, nI_eq0, nI_gt0, nI_le0, ilt_t, ilt_f, ile_t, ile_f, ieq_t, ieq_f, if_tt, if_ff, Nat.add_sub_cancel]
    rfl
  · rw [if_neg c, if_neg c, if_neg c]
    by_cases c2 : k = nI 6
    · rw [if_pos c2, if_pos c2, if_pos c2]
      have e := f_runs (G := G) (b := b) (h0 := h0) (nx := nx) (x := nI 61) h.2.2.2 (by omega)
      have e2 := f_plainMeans (G := G) (b := b) (h0 := h0) (nx := nx) (x := x) (h.wr [nI 61]) (by show r + 1 < 20; omega)
      rw [← wrB_app] at e2
      have h3 := (h.wr ([nI 61] ++ [nI 1])).2.2.1
      simp (maxSteps := 3000000) (disch := omega) only [e, e2, h3, ma_msa_n, ma_msa_s, mi_msi_n, mi_msi_s, ml_msl_n, ml_msl_s, ma_msi, ma_msl, mi_msa, mi_msl, ml_msa, ml_msi, msa_msa, msi_msi, msl_msl, ck_m, gf_s, gf_image, gf_truths, gf_knownRow, gf_daysRow, gf_bests, gf_nots, gf_lookeds, gf_bestsAt, gf_worths, gf_keptKnown, gf_keptDays, gf_round, gf_sums, gf_bestRound, gf_bodies, gf_thrown, gf_hasImage, gf_act, gf_spot, gf_size, gf_isWrong, gf_open, gf_edgeThing, gf_edgeMore, gf_stamp, gf_whose, gf_wage, gf_roundMany, gf_bestSet, gf_ran, gf_kind, gf_who, gf_tellsV, pf_thrown, pf_hasImage, pf_act, pf_spot, pf_size, pf_isWrong, pf_open, pf_edgeThing, pf_edgeMore, pf_stamp, pf_whose, pf_wage, pf_roundMany, pf_bestSet, pf_ran, pf_kind, pf_who, pf_tellsV, al_s, as_s, al_image, as_image, al_truths, as_truths0, as_truths1, al_knownRow, as_knownRow, al_daysRow, as_daysRow, al_bests, as_bests, al_nots, as_nots, al_lookeds, as_lookeds, al_bestsAt, as_bestsAt, al_worths, as_worths, al_keptKnown, as_keptKnown, al_keptDays, as_keptDays, al_round, as_round, al_sums, as_sums, al_bestRound, as_bestRound, al_bodies, as_bodies, cl_some, nm_b, nn_some, qn_some, qn_none, zk_0, zk_1, zk_n0, zk_n1, nI_add, pk_mul, pk_sub, nI_leE, nI_ltE, nI_eqE, nI_lt0, nI_ge0, nI_eq0, nI_gt0, nI_le0, ilt_t, ilt_f, ile_t, ile_f, ieq_t, ieq_f, if_tt, if_ff, Nat.add_sub_cancel]
      rfl
    · rw [if_neg c2, if_neg c2, if_neg c2]
      have e2 := f_plainMeans (G := G) (b := b) (h0 := h0) (nx := nx) (x := x) h (by omega)
      simp (maxSteps := 3000000) (disch := omega) only [e2, ma_msa_n, ma_msa_s, mi_msi_n, mi_msi_s, ml_msl_n, ml_msl_s, ma_msi, ma_msl, mi_msa, mi_msl, ml_msa, ml_msi, msa_msa, msi_msi, msl_msl, ck_m, gf_s, gf_image, gf_truths, gf_knownRow, gf_daysRow, gf_bests, gf_nots, gf_lookeds, gf_bestsAt, gf_worths, gf_keptKnown, gf_keptDays, gf_round, gf_sums, gf_bestRound, gf_bodies, gf_thrown, gf_hasImage, gf_act, gf_spot, gf_size, gf_isWrong, gf_open, gf_edgeThing, gf_edgeMore, gf_stamp, gf_whose, gf_wage, gf_roundMany, gf_bestSet, gf_ran, gf_kind, gf_who, gf_tellsV, pf_thrown, pf_hasImage, pf_act, pf_spot, pf_size, pf_isWrong, pf_open, pf_edgeThing, pf_edgeMore, pf_stamp, pf_whose, pf_wage, pf_roundMany, pf_bestSet, pf_ran, pf_kind, pf_who, pf_tellsV, al_s, as_s, al_image, as_image, al_truths, as_truths0, as_truths1, al_knownRow, as_knownRow, al_daysRow, as_daysRow, al_bests, as_bests, al_nots, as_nots, al_lookeds, as_lookeds, al_bestsAt, as_bestsAt, al_worths, as_worths, al_keptKnown, as_keptKnown, al_keptDays, as_keptDays, al_round, as_round, al_sums, as_sums, al_bestRound, as_bestRound, al_bodies, as_bodies, cl_some, nm_b, nn_some, qn_some, qn_none, zk_0, zk_1, zk_n0, zk_n1, nI_add, pk_mul, pk_sub, nI_leE, nI_ltE, nI_eqE, nI_lt0, nI_ge0, nI_eq0, nI_gt0, nI_le0, ilt_t, ilt_f, ile_t, ile_f, ieq_t, ieq_f, if_tt, if_ff, Nat.add_sub_cancel]
set_option maxRecDepth 100000 in
set_option maxHeartbeats 4000000 in
theorem f_plainRows {st : MS} {k p v x : Int32} {r : Nat} (h : ActAt st k p v r) (hr : r < 17) : F_X12_plainRows G (encM G b st h0) nx b x = some (meA k p v x - v, encM G b (wrB st r (nI 2 :: meL k)) h0, nx) := by
  have e := f_runs (G := G) (b := b) (h0 := h0) (nx := nx) (x := nI 2) h.2.2.2 (by omega)
  have e2 := f_meansActs (G := G) (b := b) (h0 := h0) (nx := nx) (x := x) (h.wr [nI 2]) (by show r + 1 < 18; omega)
  rw [← wrB_app] at e2
  have h3 := (h.wr ([nI 2] ++ meL k)).2.2.1
  unfold F_X12_plainRows
  simp (maxSteps := 3000000) (disch := omega) only [e, e2, h3, ma_msa_n, ma_msa_s, mi_msi_n, mi_msi_s, ml_msl_n, ml_msl_s, ma_msi, ma_msl, mi_msa, mi_msl, ml_msa, ml_msi, msa_msa, msi_msi, msl_msl, ck_m, gf_s, gf_image, gf_truths, gf_knownRow, gf_daysRow, gf_bests, gf_nots, gf_lookeds, gf_bestsAt, gf_worths, gf_keptKnown, gf_keptDays, gf_round, gf_sums, gf_bestRound, gf_bodies, gf_thrown, gf_hasImage, gf_act, gf_spot, gf_size, gf_isWrong, gf_open, gf_edgeThing, gf_edgeMore, gf_stamp, gf_whose, gf_wage, gf_roundMany, gf_bestSet, gf_ran, gf_kind, gf_who, gf_tellsV, pf_thrown, pf_hasImage, pf_act, pf_spot, pf_size, pf_isWrong, pf_open, pf_edgeThing, pf_edgeMore, pf_stamp, pf_whose, pf_wage, pf_roundMany, pf_bestSet, pf_ran, pf_kind, pf_who, pf_tellsV, al_s, as_s, al_image, as_image, al_truths, as_truths0, as_truths1, al_knownRow, as_knownRow, al_daysRow, as_daysRow, al_bests, as_bests, al_nots, as_nots, al_lookeds, as_lookeds, al_bestsAt, as_bestsAt, al_worths, as_worths, al_keptKnown, as_keptKnown, al_keptDays, as_keptDays, al_round, as_round, al_sums, as_sums, al_bestRound, as_bestRound, al_bodies, as_bodies, cl_some, nm_b, nn_some, qn_some, qn_none, zk_0, zk_1, zk_n0, zk_n1, nI_add, pk_mul, pk_sub, nI_leE, nI_ltE, nI_eqE, nI_lt0, nI_ge0, nI_eq0, nI_gt0, nI_le0, ilt_t, ilt_f, ile_t, ile_f, ieq_t, ieq_f, if_tt, if_ff, Nat.add_sub_cancel]
  rfl
set_option maxRecDepth 100000 in
set_option maxHeartbeats 4000000 in
theorem f_rowsActs {st : MS} {k p v x : Int32} {r : Nat} (h : ActAt st k p v r) (hr : r < 16) : F_X12_rowsActs G (encM G b st h0) nx b x = some (roA k p v x, encM G b (wrB st r (roL k)) h0, nx) := by
  have h1 := h.1
  unfold F_X12_rowsActs roA roL
  simp (maxSteps := 3000000) (disch := omega) only [h1, f_isUnder, ma_msa_n, ma_msa_s, mi_msi_n, mi_msi_s, ml_msl_n, ml_msl_s, ma_msi, ma_msl, mi_msa, mi_msl, ml_msa, ml_msi, msa_msa, msi_msi, msl_msl, ck_m, gf_s, gf_image, gf_truths, gf_knownRow, gf_daysRow, gf_bests, gf_nots, gf_lookeds, gf_bestsAt, gf_worths, gf_keptKnown, gf_keptDays, gf_round, gf_sums, gf_bestRound, gf_bodies, gf_thrown, gf_hasImage, gf_act, gf_spot, gf_size, gf_isWrong, gf_open, gf_edgeThing, gf_edgeMore, gf_stamp, gf_whose, gf_wage, gf_roundMany, gf_bestSet, gf_ran, gf_kind, gf_who, gf_tellsV, pf_thrown, pf_hasImage, pf_act, pf_spot, pf_size, pf_isWrong, pf_open, pf_edgeThing, pf_edgeMore, pf_stamp, pf_whose, pf_wage, pf_roundMany, pf_bestSet, pf_ran, pf_kind, pf_who, pf_tellsV, al_s, as_s, al_image, as_image, al_truths, as_truths0, as_truths1, al_knownRow, as_knownRow, al_daysRow, as_daysRow, al_bests, as_bests, al_nots, as_nots, al_lookeds, as_lookeds, al_bestsAt, as_bestsAt, al_worths, as_worths, al_keptKnown, as_keptKnown, al_keptDays, as_keptDays, al_round, as_round, al_sums, as_sums, al_bestRound, as_bestRound, al_bodies, as_bodies, cl_some, nm_b, nn_some, qn_some, qn_none, zk_0, zk_1, zk_n0, zk_n1, nI_add, pk_mul, pk_sub, nI_leE, nI_ltE, nI_eqE, nI_lt0, nI_ge0, nI_eq0, nI_gt0, nI_le0, ilt_t, ilt_f, ile_t, ile_f, ieq_t, ieq_f, if_tt, if_ff, Nat.add_sub_cancel]
  by_cases c : k = nI 5
  · rw [if_pos c, if_pos c, if_pos c]
    have e := f_runs (G := G) (b := b) (h0 := h0) (nx := nx) (x := nI 51) h.2.2.2 (by omega)
    have e2 := f_plainRows (G := G) (b := b) (h0 := h0) (nx := nx) (x := x) (h.wr [nI 51]) (by show r + 1 < 17; omega)
    rw [← wrB_app] at e2
    have h3 := (h.wr ([nI 51] ++ nI 2 :: meL k)).2.1
    simp (maxSteps := 3000000) (disch := omega) only [e, e2, h3, ma_msa_n, ma_msa_s, mi_msi_n, mi_msi_s, ml_msl_n, ml_msl_s, ma_msi, ma_msl, mi_msa, mi_msl, ml_msa, ml_msi, msa_msa, msi_msi, msl_msl, ck_m, gf_s, gf_image, gf_truths, gf_knownRow, gf_daysRow, gf_bests, gf_nots, gf_lookeds, gf_bestsAt, gf_worths, gf_keptKnown, gf_keptDays, gf_round, gf_sums, gf_bestRound, gf_bodies, gf_thrown, gf_hasImage, gf_act, gf_spot, gf_size, gf_isWrong, gf_open, gf_edgeThing, gf_edgeMore, gf_stamp, gf_whose, gf_wage, gf_roundMany, gf_bestSet, gf_ran, gf_kind, gf_who, gf_tellsV, pf_thrown, pf_hasImage, pf_act, pf_spot, pf_size, pf_isWrong, pf_open, pf_edgeThing, pf_edgeMore, pf_stamp, pf_whose, pf_wage, pf_roundMany, pf_bestSet, pf_ran, pf_kind, pf_who, pf_tellsV, al_s, as_s, al_image, as_image, al_truths, as_truths0, as_truths1, al_knownRow, as_knownRow, al_daysRow, as_daysRow, al_bests, as_bests, al_nots, as_nots, al_lookeds, as_lookeds, al_bestsAt, as_bestsAt, al_worths, as_worths, al_keptKnown, as_keptKnown, al_keptDays, as_keptDays, al_round, as_round, al_sums, as_sums, al_bestRound, as_bestRound, al_bodies, as_bodies, cl_some, nm_b, nn_some, qn_some, qn_none, zk_0, zk_1, zk_n0, zk_n1, nI_add, pk_mul, pk_sub, nI_leE, nI_ltE, nI_eqE, nI_lt0, nI_ge0, nI_eq0, nI_gt0, nI_le0, ilt_t, ilt_f, ile_t, ile_f, ieq_t, ieq_f, if_tt, if_ff, Nat.add_sub_cancel]
    rfl
  · rw [if_neg c, if_neg c, if_neg c]
    by_cases c2 : unF k (nI 2) = 0
    · rw [if_pos c2, if_pos c2, if_pos c2]
      have e2 := f_plainRows (G := G) (b := b) (h0 := h0) (nx := nx) (x := x) h (by omega)
      simp (maxSteps := 3000000) (disch := omega) only [e2, ma_msa_n, ma_msa_s, mi_msi_n, mi_msi_s, ml_msl_n, ml_msl_s, ma_msi, ma_msl, mi_msa, mi_msl, ml_msa, ml_msi, msa_msa, msi_msi, msl_msl, ck_m, gf_s, gf_image, gf_truths, gf_knownRow, gf_daysRow, gf_bests, gf_nots, gf_lookeds, gf_bestsAt, gf_worths, gf_keptKnown, gf_keptDays, gf_round, gf_sums, gf_bestRound, gf_bodies, gf_thrown, gf_hasImage, gf_act, gf_spot, gf_size, gf_isWrong, gf_open, gf_edgeThing, gf_edgeMore, gf_stamp, gf_whose, gf_wage, gf_roundMany, gf_bestSet, gf_ran, gf_kind, gf_who, gf_tellsV, pf_thrown, pf_hasImage, pf_act, pf_spot, pf_size, pf_isWrong, pf_open, pf_edgeThing, pf_edgeMore, pf_stamp, pf_whose, pf_wage, pf_roundMany, pf_bestSet, pf_ran, pf_kind, pf_who, pf_tellsV, al_s, as_s, al_image, as_image, al_truths, as_truths0, as_truths1, al_knownRow, as_knownRow, al_daysRow, as_daysRow, al_bests, as_bests, al_nots, as_nots, al_lookeds, as_lookeds, al_bestsAt, as_bestsAt, al_worths, as_worths, al_keptKnown, as_keptKnown, al_keptDays, as_keptDays, al_round, as_round, al_sums, as_sums, al_bestRound, as_bestRound, al_bodies, as_bodies, cl_some, nm_b, nn_some, qn_some, qn_none, zk_0, zk_1, zk_n0, zk_n1, nI_add, pk_mul, pk_sub, nI_leE, nI_ltE, nI_eqE, nI_lt0, nI_ge0, nI_eq0, nI_gt0, nI_le0, ilt_t, ilt_f, ile_t, ile_f, ieq_t, ieq_f, if_tt, if_ff, Nat.add_sub_cancel]
    · rw [if_neg c2, if_neg c2, if_neg c2]
      have e := f_runs (G := G) (b := b) (h0 := h0) (nx := nx) (x := nI 21) h.2.2.2 (by omega)
      have e2 := f_plainRows (G := G) (b := b) (h0 := h0) (nx := nx) (x := x) (h.wr [nI 21]) (by show r + 1 < 17; omega)
      rw [← wrB_app] at e2
      simp (maxSteps := 3000000) (disch := omega) only [e, e2, ma_msa_n, ma_msa_s, mi_msi_n, mi_msi_s, ml_msl_n, ml_msl_s, ma_msi, ma_msl, mi_msa, mi_msl, ml_msa, ml_msi, msa_msa, msi_msi, msl_msl, ck_m, gf_s, gf_image, gf_truths, gf_knownRow, gf_daysRow, gf_bests, gf_nots, gf_lookeds, gf_bestsAt, gf_worths, gf_keptKnown, gf_keptDays, gf_round, gf_sums, gf_bestRound, gf_bodies, gf_thrown, gf_hasImage, gf_act, gf_spot, gf_size, gf_isWrong, gf_open, gf_edgeThing, gf_edgeMore, gf_stamp, gf_whose, gf_wage, gf_roundMany, gf_bestSet, gf_ran, gf_kind, gf_who, gf_tellsV, pf_thrown, pf_hasImage, pf_act, pf_spot, pf_size, pf_isWrong, pf_open, pf_edgeThing, pf_edgeMore, pf_stamp, pf_whose, pf_wage, pf_roundMany, pf_bestSet, pf_ran, pf_kind, pf_who, pf_tellsV, al_s, as_s, al_image, as_image, al_truths, as_truths0, as_truths1, al_knownRow, as_knownRow, al_daysRow, as_daysRow, al_bests, as_bests, al_nots, as_nots, al_lookeds, as_lookeds, al_bestsAt, as_bestsAt, al_worths, as_worths, al_keptKnown, as_keptKnown, al_keptDays, as_keptDays, al_round, as_round, al_sums, as_sums, al_bestRound, as_bestRound, al_bodies, as_bodies, cl_some, nm_b, nn_some, qn_some, qn_none, zk_0, zk_1, zk_n0, zk_n1, nI_add, pk_mul, pk_sub, nI_leE, nI_ltE, nI_eqE, nI_lt0, nI_ge0, nI_eq0, nI_gt0, nI_le0, ilt_t, ilt_f, ile_t, ile_f, ieq_t, ieq_f, if_tt, if_ff, Nat.add_sub_cancel]
      rfl
set_option maxRecDepth 100000 in
set_option maxHeartbeats 4000000 in
theorem f_plainEnds {st : MS} {k p v x : Int32} {r : Nat} (h : ActAt st k p v r) (hr : r < 15) : F_X12_plainEnds G (encM G b st h0) nx b x = some (peA k p v x, encM G b (wrB st r (peL k)) h0, nx) := by
  have e := f_runs (G := G) (b := b) (h0 := h0) (nx := nx) (x := nI 3) h.2.2.2 (by omega)
  have e2 := f_rowsActs (G := G) (b := b) (h0 := h0) (nx := nx) (x := x) (h.wr [nI 3]) (by show r + 1 < 16; omega)
  rw [← wrB_app] at e2
  unfold F_X12_plainEnds
  simp (maxSteps := 3000000) (disch := omega) only [e, e2, ma_msa_n, ma_msa_s, mi_msi_n, mi_msi_s, ml_msl_n, ml_msl_s, ma_msi, ma_msl, mi_msa, mi_msl, ml_msa, ml_msi, msa_msa, msi_msi, msl_msl, ck_m, gf_s, gf_image, gf_truths, gf_knownRow, gf_daysRow, gf_bests, gf_nots, gf_lookeds, gf_bestsAt, gf_worths, gf_keptKnown, gf_keptDays, gf_round, gf_sums, gf_bestRound, gf_bodies, gf_thrown, gf_hasImage, gf_act, gf_spot, gf_size, gf_isWrong, gf_open, gf_edgeThing, gf_edgeMore, gf_stamp, gf_whose, gf_wage, gf_roundMany, gf_bestSet, gf_ran, gf_kind, gf_who, gf_tellsV, pf_thrown, pf_hasImage, pf_act, pf_spot, pf_size, pf_isWrong, pf_open, pf_edgeThing, pf_edgeMore, pf_stamp, pf_whose, pf_wage, pf_roundMany, pf_bestSet, pf_ran, pf_kind, pf_who, pf_tellsV, al_s, as_s, al_image, as_image, al_truths, as_truths0, as_truths1, al_knownRow, as_knownRow, al_daysRow, as_daysRow, al_bests, as_bests, al_nots, as_nots, al_lookeds, as_lookeds, al_bestsAt, as_bestsAt, al_worths, as_worths, al_keptKnown, as_keptKnown, al_keptDays, as_keptDays, al_round, as_round, al_sums, as_sums, al_bestRound, as_bestRound, al_bodies, as_bodies, cl_some, nm_b, nn_some, qn_some, qn_none, zk_0, zk_1, zk_n0, zk_n1, nI_add, pk_mul, pk_sub, nI_leE, nI_ltE, nI_eqE, nI_lt0, nI_ge0, nI_eq0, nI_gt0, nI_le0, ilt_t, ilt_f, ile_t, ile_f, ieq_t, ieq_f, if_tt, if_ff, Nat.add_sub_cancel]
  rfl
set_option maxRecDepth 100000 in
set_option maxHeartbeats 4000000 in
theorem f_endsActs {st : MS} {k p v x : Int32} {r : Nat} (h : ActAt st k p v r) (hr : r < 8) : F_X12_endsActs G (encM G b st h0) nx b x = some (enA k p v x, encM G b (wrB st r (enL k)) h0, nx) := by
  have h1 := h.1
  unfold F_X12_endsActs enA enL
  simp (maxSteps := 3000000) (disch := omega) only [h1, f_isUnder, ma_msa_n, ma_msa_s, mi_msi_n, mi_msi_s, ml_msl_n, ml_msl_s, ma_msi, ma_msl, mi_msa, mi_msl, ml_msa, ml_msi, msa_msa, msi_msi, msl_msl, ck_m, gf_s, gf_image, gf_truths, gf_knownRow, gf_daysRow, gf_bests, gf_nots, gf_lookeds, gf_bestsAt, gf_worths, gf_keptKnown, gf_keptDays, gf_round, gf_sums, gf_bestRound, gf_bodies, gf_thrown, gf_hasImage, gf_act, gf_spot, gf_size, gf_isWrong, gf_open, gf_edgeThing, gf_edgeMore, gf_stamp, gf_whose, gf_wage, gf_roundMany, gf_bestSet, gf_ran, gf_kind, gf_who, gf_tellsV, pf_thrown, pf_hasImage, pf_act, pf_spot, pf_size, pf_isWrong, pf_open, pf_edgeThing, pf_edgeMore, pf_stamp, pf_whose, pf_wage, pf_roundMany, pf_bestSet, pf_ran, pf_kind, pf_who, pf_tellsV, al_s, as_s, al_image, as_image, al_truths, as_truths0, as_truths1, al_knownRow, as_knownRow, al_daysRow, as_daysRow, al_bests, as_bests, al_nots, as_nots, al_lookeds, as_lookeds, al_bestsAt, as_bestsAt, al_worths, as_worths, al_keptKnown, as_keptKnown, al_keptDays, as_keptDays, al_round, as_round, al_sums, as_sums, al_bestRound, as_bestRound, al_bodies, as_bodies, cl_some, nm_b, nn_some, qn_some, qn_none, zk_0, zk_1, zk_n0, zk_n1, nI_add, pk_mul, pk_sub, nI_leE, nI_ltE, nI_eqE, nI_lt0, nI_ge0, nI_eq0, nI_gt0, nI_le0, ilt_t, ilt_f, ile_t, ile_f, ieq_t, ieq_f, if_tt, if_ff, Nat.add_sub_cancel]
  by_cases c : k = nI 4
  · rw [if_pos c, if_pos c, if_pos c]
    have hl := roL_len k
    have e := f_runs (G := G) (b := b) (h0 := h0) (nx := nx) (x := nI 41) h.2.2.2 (by omega)
    have e2 := f_plainEnds (G := G) (b := b) (h0 := h0) (nx := nx) (x := x + nI 1) (h.wr [nI 41]) (by show r + 1 < 15; omega)
    rw [← wrB_app] at e2
    have e3 := f_meansActs (G := G) (b := b) (h0 := h0) (nx := nx) (x := nI 2) (h.wr ([nI 41] ++ peL k)) (by show r + (nI 41 :: nI 3 :: roL k).length < 18; simp only [List.length_cons]; omega)
    rw [← wrB_app] at e3
    simp (maxSteps := 3000000) (disch := omega) only [e, e2, e3, ma_msa_n, ma_msa_s, mi_msi_n, mi_msi_s, ml_msl_n, ml_msl_s, ma_msi, ma_msl, mi_msa, mi_msl, ml_msa, ml_msi, msa_msa, msi_msi, msl_msl, ck_m, gf_s, gf_image, gf_truths, gf_knownRow, gf_daysRow, gf_bests, gf_nots, gf_lookeds, gf_bestsAt, gf_worths, gf_keptKnown, gf_keptDays, gf_round, gf_sums, gf_bestRound, gf_bodies, gf_thrown, gf_hasImage, gf_act, gf_spot, gf_size, gf_isWrong, gf_open, gf_edgeThing, gf_edgeMore, gf_stamp, gf_whose, gf_wage, gf_roundMany, gf_bestSet, gf_ran, gf_kind, gf_who, gf_tellsV, pf_thrown, pf_hasImage, pf_act, pf_spot, pf_size, pf_isWrong, pf_open, pf_edgeThing, pf_edgeMore, pf_stamp, pf_whose, pf_wage, pf_roundMany, pf_bestSet, pf_ran, pf_kind, pf_who, pf_tellsV, al_s, as_s, al_image, as_image, al_truths, as_truths0, as_truths1, al_knownRow, as_knownRow, al_daysRow, as_daysRow, al_bests, as_bests, al_nots, as_nots, al_lookeds, as_lookeds, al_bestsAt, as_bestsAt, al_worths, as_worths, al_keptKnown, as_keptKnown, al_keptDays, as_keptDays, al_round, as_round, al_sums, as_sums, al_bestRound, as_bestRound, al_bodies, as_bodies, cl_some, nm_b, nn_some, qn_some, qn_none, zk_0, zk_1, zk_n0, zk_n1, nI_add, pk_mul, pk_sub, nI_leE, nI_ltE, nI_eqE, nI_lt0, nI_ge0, nI_eq0, nI_gt0, nI_le0, ilt_t, ilt_f, ile_t, ile_f, ieq_t, ieq_f, if_tt, if_ff, Nat.add_sub_cancel]
    rfl
  · rw [if_neg c, if_neg c, if_neg c]
    by_cases c2 : unF k (nI 3) = 0
    · rw [if_pos c2, if_pos c2, if_pos c2]
      have e2 := f_plainEnds (G := G) (b := b) (h0 := h0) (nx := nx) (x := x) h (by omega)
      simp (maxSteps := 3000000) (disch := omega) only [e2, ma_msa_n, ma_msa_s, mi_msi_n, mi_msi_s, ml_msl_n, ml_msl_s, ma_msi, ma_msl, mi_msa, mi_msl, ml_msa, ml_msi, msa_msa, msi_msi, msl_msl, ck_m, gf_s, gf_image, gf_truths, gf_knownRow, gf_daysRow, gf_bests, gf_nots, gf_lookeds, gf_bestsAt, gf_worths, gf_keptKnown, gf_keptDays, gf_round, gf_sums, gf_bestRound, gf_bodies, gf_thrown, gf_hasImage, gf_act, gf_spot, gf_size, gf_isWrong, gf_open, gf_edgeThing, gf_edgeMore, gf_stamp, gf_whose, gf_wage, gf_roundMany, gf_bestSet, gf_ran, gf_kind, gf_who, gf_tellsV, pf_thrown, pf_hasImage, pf_act, pf_spot, pf_size, pf_isWrong, pf_open, pf_edgeThing, pf_edgeMore, pf_stamp, pf_whose, pf_wage, pf_roundMany, pf_bestSet, pf_ran, pf_kind, pf_who, pf_tellsV, al_s, as_s, al_image, as_image, al_truths, as_truths0, as_truths1, al_knownRow, as_knownRow, al_daysRow, as_daysRow, al_bests, as_bests, al_nots, as_nots, al_lookeds, as_lookeds, al_bestsAt, as_bestsAt, al_worths, as_worths, al_keptKnown, as_keptKnown, al_keptDays, as_keptDays, al_round, as_round, al_sums, as_sums, al_bestRound, as_bestRound, al_bodies, as_bodies, cl_some, nm_b, nn_some, qn_some, qn_none, zk_0, zk_1, zk_n0, zk_n1, nI_add, pk_mul, pk_sub, nI_leE, nI_ltE, nI_eqE, nI_lt0, nI_ge0, nI_eq0, nI_gt0, nI_le0, ilt_t, ilt_f, ile_t, ile_f, ieq_t, ieq_f, if_tt, if_ff, Nat.add_sub_cancel]
    · rw [if_neg c2, if_neg c2, if_neg c2]
      have e := f_runs (G := G) (b := b) (h0 := h0) (nx := nx) (x := nI 31) h.2.2.2 (by omega)
      have e2 := f_plainEnds (G := G) (b := b) (h0 := h0) (nx := nx) (x := x) (h.wr [nI 31]) (by show r + 1 < 15; omega)
      rw [← wrB_app] at e2
      simp (maxSteps := 3000000) (disch := omega) only [e, e2, ma_msa_n, ma_msa_s, mi_msi_n, mi_msi_s, ml_msl_n, ml_msl_s, ma_msi, ma_msl, mi_msa, mi_msl, ml_msa, ml_msi, msa_msa, msi_msi, msl_msl, ck_m, gf_s, gf_image, gf_truths, gf_knownRow, gf_daysRow, gf_bests, gf_nots, gf_lookeds, gf_bestsAt, gf_worths, gf_keptKnown, gf_keptDays, gf_round, gf_sums, gf_bestRound, gf_bodies, gf_thrown, gf_hasImage, gf_act, gf_spot, gf_size, gf_isWrong, gf_open, gf_edgeThing, gf_edgeMore, gf_stamp, gf_whose, gf_wage, gf_roundMany, gf_bestSet, gf_ran, gf_kind, gf_who, gf_tellsV, pf_thrown, pf_hasImage, pf_act, pf_spot, pf_size, pf_isWrong, pf_open, pf_edgeThing, pf_edgeMore, pf_stamp, pf_whose, pf_wage, pf_roundMany, pf_bestSet, pf_ran, pf_kind, pf_who, pf_tellsV, al_s, as_s, al_image, as_image, al_truths, as_truths0, as_truths1, al_knownRow, as_knownRow, al_daysRow, as_daysRow, al_bests, as_bests, al_nots, as_nots, al_lookeds, as_lookeds, al_bestsAt, as_bestsAt, al_worths, as_worths, al_keptKnown, as_keptKnown, al_keptDays, as_keptDays, al_round, as_round, al_sums, as_sums, al_bestRound, as_bestRound, al_bodies, as_bodies, cl_some, nm_b, nn_some, qn_some, qn_none, zk_0, zk_1, zk_n0, zk_n1, nI_add, pk_mul, pk_sub, nI_leE, nI_ltE, nI_eqE, nI_lt0, nI_ge0, nI_eq0, nI_gt0, nI_le0, ilt_t, ilt_f, ile_t, ile_f, ieq_t, ieq_f, if_tt, if_ff, Nat.add_sub_cancel]
      rfl
/-- act: the answer, the bodies that run -/
def actA (k p v w x : Int32) : Int32 := if w = 0 then meA k p v x else if w = nI 1 then roA k p v x else enA k p v x
def actL (k w : Int32) : List Int32 := if w = 0 then meL k else if w = nI 1 then roL k else enL k
def actF (S : MS) (p w x : Int32) : Int32 × List Int32 := if bIn p (nI 0) (ma S 1 2 - nI 1) = 0 then (nI 0, []) else if bIn w (nI 0) (nI 2) = 0 then (nI 0, []) else (actA (ma S 1 (1070 + p.toNatClampNeg)) p (ma S 1 (1082 + p.toNatClampNeg)) w x, actL (ma S 1 (1070 + p.toNatClampNeg)) w)
theorem actL_len (k w : Int32) : (actL k w).length ≤ 8 := by
  have := meL_len k
  have := roL_len k
  have := enL_len k
  unfold actL
  split
  · omega
  · split <;> omega
set_option maxRecDepth 100000 in
set_option maxHeartbeats 4000000 in
theorem f_act {st : MS} {nt np lk td : Nat} (hB : BOk st nt np lk td) (p w x : Int32) : ∃ st' st0, F_X12_act G (encM G b st h0) nx b p w x = some ((actF st p w x).1, encM G b st' h0, nx) ∧ st' = wrB st0 0 (actF st p w x).2 ∧ FrM [30, 31, 32, 33] st st0 ∧ mi st0 30 = nI 0 := by
  obtain ⟨hL, hl3, ht, h2, hnp, hp, h3, htd⟩ := hB
  unfold F_X12_act F_X12_act_22 F_X12_act_87 actF
  simp (maxSteps := 3000000) (disch := omega) only [f_isPlan, f_in, ma_msa_n, ma_msa_s, mi_msi_n, mi_msi_s, ml_msl_n, ml_msl_s, ma_msi, ma_msl, mi_msa, mi_msl, ml_msa, ml_msi, msa_msa, msi_msi, msl_msl, ck_m, gf_s, gf_image, gf_truths, gf_knownRow, gf_daysRow, gf_bests, gf_nots, gf_lookeds, gf_bestsAt, gf_worths, gf_keptKnown, gf_keptDays, gf_round, gf_sums, gf_bestRound, gf_bodies, gf_thrown, gf_hasImage, gf_act, gf_spot, gf_size, gf_isWrong, gf_open, gf_edgeThing, gf_edgeMore, gf_stamp, gf_whose, gf_wage, gf_roundMany, gf_bestSet, gf_ran, gf_kind, gf_who, gf_tellsV, pf_thrown, pf_hasImage, pf_act, pf_spot, pf_size, pf_isWrong, pf_open, pf_edgeThing, pf_edgeMore, pf_stamp, pf_whose, pf_wage, pf_roundMany, pf_bestSet, pf_ran, pf_kind, pf_who, pf_tellsV, al_s, as_s, al_image, as_image, al_truths, as_truths0, as_truths1, al_knownRow, as_knownRow, al_daysRow, as_daysRow, al_bests, as_bests, al_nots, as_nots, al_lookeds, as_lookeds, al_bestsAt, as_bestsAt, al_worths, as_worths, al_keptKnown, as_keptKnown, al_keptDays, as_keptDays, al_round, as_round, al_sums, as_sums, al_bestRound, as_bestRound, al_bodies, as_bodies, cl_some, nm_b, nn_some, qn_some, qn_none, zk_0, zk_1, zk_n0, zk_n1, nI_add, pk_mul, pk_sub, nI_leE, nI_ltE, nI_eqE, nI_lt0, nI_ge0, nI_eq0, nI_gt0, nI_le0, ilt_t, ilt_f, ile_t, ile_f, ieq_t, ieq_f, if_tt, if_ff, Nat.add_sub_cancel]
  rw [h2]
  have f0 : FrM [30, 31, 32, 33] st (msi st 30 (nI 0)) := FrM.msi (by decide)
  by_cases c1 : bIn p (nI 0) (nI np - nI 1) = 0
  · rw [if_pos c1, if_pos c1]
    exact ⟨_, msi st 30 (nI 0), rfl, rfl, f0, mi_msi_s⟩
  · rw [if_neg c1, if_neg c1]
    by_cases c2 : bIn w (nI 0) (nI 2) = 0
    · rw [if_pos c2, if_pos c2]
      exact ⟨_, msi st 30 (nI 0), rfl, rfl, f0, mi_msi_s⟩
    · rw [if_neg c2, if_neg c2]
      obtain ⟨p, hp1, rfl⟩ := bIn_nI (by omega) c1
      rw [nI_clamp (by omega)]
      generalize hst : msi (msi (msi (msi st 30 (nI 0)) 31 (ma st 1 (1070 + p))) 32 (nI p)) 33 (ma st 1 (1082 + p)) = st0
      have hA : ActAt st0 (ma st 1 (1070 + p)) (nI p) (ma st 1 (1082 + p)) 0 := by
        rw [← hst]
        exact ⟨by rw [mi_msi_n (by decide), mi_msi_n (by decide), mi_msi_s], by rw [mi_msi_n (by decide), mi_msi_s], mi_msi_s, by rw [mi_msi_n (by decide), mi_msi_n (by decide), mi_msi_n (by decide), mi_msi_s]⟩
      have hF : FrM [30, 31, 32, 33] st st0 := by
        rw [← hst]
        exact (((f0.trans (FrM.msi (k := 31) (ks := [30, 31, 32, 33]) (by decide))).trans (FrM.msi (k := 32) (ks := [30, 31, 32, 33]) (by decide))).trans (FrM.msi (k := 33) (ks := [30, 31, 32, 33]) (by decide))).mono (by decide)
      have e1 := f_meansActs (G := G) (b := b) (h0 := h0) (nx := nx) (x := x) hA (by omega)
      have e2 := f_rowsActs (G := G) (b := b) (h0 := h0) (nx := nx) (x := x) hA (by omega)
      have e3 := f_endsActs (G := G) (b := b) (h0 := h0) (nx := nx) (x := x) hA (by omega)
      refine ⟨_, st0, ?_, rfl, hF, hA.2.2.2⟩
      unfold actA actL
      simp (maxSteps := 3000000) (disch := omega) only [hst, e1, e2, e3, ma_msa_n, ma_msa_s, mi_msi_n, mi_msi_s, ml_msl_n, ml_msl_s, ma_msi, ma_msl, mi_msa, mi_msl, ml_msa, ml_msi, msa_msa, msi_msi, msl_msl, ck_m, gf_s, gf_image, gf_truths, gf_knownRow, gf_daysRow, gf_bests, gf_nots, gf_lookeds, gf_bestsAt, gf_worths, gf_keptKnown, gf_keptDays, gf_round, gf_sums, gf_bestRound, gf_bodies, gf_thrown, gf_hasImage, gf_act, gf_spot, gf_size, gf_isWrong, gf_open, gf_edgeThing, gf_edgeMore, gf_stamp, gf_whose, gf_wage, gf_roundMany, gf_bestSet, gf_ran, gf_kind, gf_who, gf_tellsV, pf_thrown, pf_hasImage, pf_act, pf_spot, pf_size, pf_isWrong, pf_open, pf_edgeThing, pf_edgeMore, pf_stamp, pf_whose, pf_wage, pf_roundMany, pf_bestSet, pf_ran, pf_kind, pf_who, pf_tellsV, al_s, as_s, al_image, as_image, al_truths, as_truths0, as_truths1, al_knownRow, as_knownRow, al_daysRow, as_daysRow, al_bests, as_bests, al_nots, as_nots, al_lookeds, as_lookeds, al_bestsAt, as_bestsAt, al_worths, as_worths, al_keptKnown, as_keptKnown, al_keptDays, as_keptDays, al_round, as_round, al_sums, as_sums, al_bestRound, as_bestRound, al_bodies, as_bodies, cl_some, nm_b, nn_some, qn_some, qn_none, zk_0, zk_1, zk_n0, zk_n1, nI_add, pk_mul, pk_sub, nI_leE, nI_ltE, nI_eqE, nI_lt0, nI_ge0, nI_eq0, nI_gt0, nI_le0, ilt_t, ilt_f, ile_t, ile_f, ieq_t, ieq_f, if_tt, if_ff, Nat.add_sub_cancel]
      by_cases c3 : w = 0
      · rw [if_pos c3, if_pos c3, if_pos c3]
      · rw [if_neg c3, if_neg c3, if_neg c3]
        by_cases c4 : w = nI 1
        · rw [if_pos c4, if_pos c4, if_pos c4]
        · rw [if_neg c4, if_neg c4, if_neg c4]
def traceF (S : MS) (r : Nat) (k : Int32) : Int32 := if bIn k (nI 0) (nI r - nI 1) = 0 then -1 else ma S 29 k.toNatClampNeg
set_option maxRecDepth 100000 in
set_option maxHeartbeats 4000000 in
theorem f_trace {st : MS} {r : Nat} (h : mi st 30 = nI r) (hr : r ≤ 20) (k : Int32) : F_X12_trace G (encM G b st h0) nx b k = some (traceF st r k, encM G b st h0, nx) := by
  unfold F_X12_trace F_X12_trace_20 F_X12_trace_38 traceF
  simp (maxSteps := 3000000) (disch := omega) only [h, f_in, ma_msa_n, ma_msa_s, mi_msi_n, mi_msi_s, ml_msl_n, ml_msl_s, ma_msi, ma_msl, mi_msa, mi_msl, ml_msa, ml_msi, msa_msa, msi_msi, msl_msl, ck_m, gf_s, gf_image, gf_truths, gf_knownRow, gf_daysRow, gf_bests, gf_nots, gf_lookeds, gf_bestsAt, gf_worths, gf_keptKnown, gf_keptDays, gf_round, gf_sums, gf_bestRound, gf_bodies, gf_thrown, gf_hasImage, gf_act, gf_spot, gf_size, gf_isWrong, gf_open, gf_edgeThing, gf_edgeMore, gf_stamp, gf_whose, gf_wage, gf_roundMany, gf_bestSet, gf_ran, gf_kind, gf_who, gf_tellsV, pf_thrown, pf_hasImage, pf_act, pf_spot, pf_size, pf_isWrong, pf_open, pf_edgeThing, pf_edgeMore, pf_stamp, pf_whose, pf_wage, pf_roundMany, pf_bestSet, pf_ran, pf_kind, pf_who, pf_tellsV, al_s, as_s, al_image, as_image, al_truths, as_truths0, as_truths1, al_knownRow, as_knownRow, al_daysRow, as_daysRow, al_bests, as_bests, al_nots, as_nots, al_lookeds, as_lookeds, al_bestsAt, as_bestsAt, al_worths, as_worths, al_keptKnown, as_keptKnown, al_keptDays, as_keptDays, al_round, as_round, al_sums, as_sums, al_bestRound, as_bestRound, al_bodies, as_bodies, cl_some, nm_b, nn_some, qn_some, qn_none, zk_0, zk_1, zk_n0, zk_n1, nI_add, pk_mul, pk_sub, nI_leE, nI_ltE, nI_eqE, nI_lt0, nI_ge0, nI_eq0, nI_gt0, nI_le0, ilt_t, ilt_f, ile_t, ile_f, ieq_t, ieq_f, if_tt, if_ff, Nat.add_sub_cancel]
  have fin : (if bIn k (nI 0) (nI r - nI 1) = 0 then some (-1, encM G b st h0, nx) else alI (g_c G 0) (encM G b st h0) (b + 16) k fun v6 => some (v6, encM G b st h0, nx)) = some (if bIn k (nI 0) (nI r - nI 1) = 0 then -1 else ma st 29 k.toNatClampNeg, encM G b st h0, nx) := by
    by_cases c : bIn k (nI 0) (nI r - nI 1) = 0
    · rw [if_pos c, if_pos c]
    · rw [if_neg c, if_neg c]
      obtain ⟨j, hj, rfl⟩ := bIn_nI (by omega) c
      rw [nI_clamp (by omega)]
      simp (maxSteps := 3000000) (disch := omega) only [ma_msa_n, ma_msa_s, mi_msi_n, mi_msi_s, ml_msl_n, ml_msl_s, ma_msi, ma_msl, mi_msa, mi_msl, ml_msa, ml_msi, msa_msa, msi_msi, msl_msl, ck_m, gf_s, gf_image, gf_truths, gf_knownRow, gf_daysRow, gf_bests, gf_nots, gf_lookeds, gf_bestsAt, gf_worths, gf_keptKnown, gf_keptDays, gf_round, gf_sums, gf_bestRound, gf_bodies, gf_thrown, gf_hasImage, gf_act, gf_spot, gf_size, gf_isWrong, gf_open, gf_edgeThing, gf_edgeMore, gf_stamp, gf_whose, gf_wage, gf_roundMany, gf_bestSet, gf_ran, gf_kind, gf_who, gf_tellsV, pf_thrown, pf_hasImage, pf_act, pf_spot, pf_size, pf_isWrong, pf_open, pf_edgeThing, pf_edgeMore, pf_stamp, pf_whose, pf_wage, pf_roundMany, pf_bestSet, pf_ran, pf_kind, pf_who, pf_tellsV, al_s, as_s, al_image, as_image, al_truths, as_truths0, as_truths1, al_knownRow, as_knownRow, al_daysRow, as_daysRow, al_bests, as_bests, al_nots, as_nots, al_lookeds, as_lookeds, al_bestsAt, as_bestsAt, al_worths, as_worths, al_keptKnown, as_keptKnown, al_keptDays, as_keptDays, al_round, as_round, al_sums, as_sums, al_bestRound, as_bestRound, al_bodies, as_bodies, cl_some, nm_b, nn_some, qn_some, qn_none, zk_0, zk_1, zk_n0, zk_n1, nI_add, pk_mul, pk_sub, nI_leE, nI_ltE, nI_eqE, nI_lt0, nI_ge0, nI_eq0, nI_gt0, nI_le0, ilt_t, ilt_f, ile_t, ile_f, ieq_t, ieq_f, if_tt, if_ff, Nat.add_sub_cancel]
  by_cases c : 20 ≤ r
  · rw [if_pos c]
    have hr : r = 20 := by omega
    subst hr
    exact fin
  · rw [if_neg c]
    exact fin
end N5
