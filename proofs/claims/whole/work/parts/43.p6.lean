/-- a word read -/
def spP (tp : Nat → Int32) (z : Nat) : List Int32 → Nat → Bool × Nat
  | [], p => (true, p)
  | x :: l, p => if hereP tp z p = x then spP tp z l (p + 1) else (false, p)
theorem tx_len2 : ∀ k, k < 12 → (txB.getD k []).length = txN.getD k 0 := by decide
theorem tx_pos : ∀ k, k < 12 → ∀ x ∈ txB.getD k [], ¬ x = -1 := by decide
theorem tx_drop : ∀ k, k < 12 → ∀ i, i < txN.getD k 0 → (txB.getD k []).drop i = (txB.getD k []).getD i 0 :: (txB.getD k []).drop (i + 1) ∧ ¬ (txB.getD k []).getD i 0 = -1 := by decide
theorem stL_at {β : Type} {k : Nat} {f : Int32 → Option β} (hk : k < 12) : stL k f = f (nI (txN.getD k 0)) := if_pos hk
theorem stC_at {β : Type} {k i : Nat} {f : Int32 → Option β} (hk : k < 12) (hi : i < txN.getD k 0) (hN : txN.getD k 0 < 10) : stC k (nI i) f = f ((txB.getD k []).getD i 0) := by
  unfold stC
  rw [nI_clamp (by omega), if_pos ⟨hk, fun q => q.elim (fun q => nI_pos (by omega) q) (fun q => by omega)⟩]
theorem sp_ok {tp : Nat → Int32} {z : Nat} : ∀ (l : List Int32) (p : Nat), (∀ x ∈ l, ¬ x = -1) → p ≤ z → p ≤ (spP tp z l p).2 ∧ (spP tp z l p).2 ≤ z ∧ ((spP tp z l p).1 = true → (spP tp z l p).2 = p + l.length)
  | [], _, _, h => ⟨Nat.le_refl _, h, fun _ => rfl⟩
  | x :: l, p, hx, h => by
    unfold spP
    by_cases c : hereP tp z p = x
    · rw [if_pos c]
      have hin : p < z := here_in (by rw [c]; exact hx x (List.mem_cons_self ..))
      obtain ⟨h1, h2, h3⟩ := sp_ok (tp := tp) (z := z) l (p + 1) (fun y hy => hx y (List.mem_cons_of_mem _ hy)) (by omega)
      exact ⟨by omega, h2, fun q => by rw [h3 q]; show p + 1 + l.length = p + (l.length + 1); omega⟩
    · rw [if_neg c]
      exact ⟨Nat.le_refl _, h, fun q => absurd q (show ¬ false = true by decide)⟩
section P6
variable {G : Gx} {b : Nat} {h0 : Hp} {nx : Nat}
set_option maxRecDepth 100000 in
set_option maxHeartbeats 4000000 in
theorem f_spW {st : MS} {p k : Nat} (hk : k < 12) (h5 : mi st 5 = nI p) (h7 : mi st 7 = nI 1) : ∀ (r i m : Nat), i + r = txN.getD k 0 → r < m → F_X12_spells_2 G m (encM G b st h0) nx b k (nI i) = some ((), encM G b st h0, nx) := by
  have hN := tx_len k hk
  intro r
  induction r with
  | zero =>
    intro i m hr hm
    obtain ⟨m, rfl⟩ : ∃ q, m = q + 1 := ⟨m - 1, by omega⟩
    rw [F_X12_spells_2_s, stL_at hk]
    generalize txN.getD k 0 = N at hr hN ⊢
    have hr : i = N := by omega
    subst hr
    simp (maxSteps := 3000000) (disch := omega) only [ma_msa_n, ma_msa_s, mi_msi_n, mi_msi_s, ml_msl_n, ml_msl_s, ma_msi, ma_msl, mi_msa, mi_msl, ml_msa, ml_msi, msa_msa, msi_msi, msl_msl, ck_m, gf_s, gf_image, gf_truths, gf_knownRow, gf_daysRow, gf_bests, gf_nots, gf_lookeds, gf_bestsAt, gf_worths, gf_keptKnown, gf_keptDays, gf_round, gf_sums, gf_bestRound, gf_bodies, gf_thrown, gf_hasImage, gf_act, gf_spot, gf_size, gf_isWrong, gf_open, gf_edgeThing, gf_edgeMore, gf_stamp, gf_whose, gf_wage, gf_roundMany, gf_bestSet, gf_ran, gf_kind, gf_who, gf_tellsV, pf_thrown, pf_hasImage, pf_act, pf_spot, pf_size, pf_isWrong, pf_open, pf_edgeThing, pf_edgeMore, pf_stamp, pf_whose, pf_wage, pf_roundMany, pf_bestSet, pf_ran, pf_kind, pf_who, pf_tellsV, al_s, as_s, al_image, as_image, al_truths, as_truths0, as_truths1, al_knownRow, as_knownRow, al_daysRow, as_daysRow, al_bests, as_bests, al_nots, as_nots, al_lookeds, as_lookeds, al_bestsAt, as_bestsAt, al_worths, as_worths, al_keptKnown, as_keptKnown, al_keptDays, as_keptDays, al_round, as_round, al_sums, as_sums, al_bestRound, as_bestRound, al_bodies, as_bodies, cl_some, nm_b, nn_some, qn_some, qn_none, zk_0, zk_1, zk_n0, zk_n1, nI_add, pk_mul, pk_sub, nI_leE, nI_ltE, nI_eqE, nI_lt0, nI_ge0, nI_eq0, nI_gt0, nI_le0, ilt_t, ilt_f, ile_t, ile_f, ieq_t, ieq_f, if_tt, if_ff, Nat.add_sub_cancel]
  | succ r ih =>
    intro i m hr hm
    obtain ⟨m, rfl⟩ : ∃ q, m = q + 1 := ⟨m - 1, by omega⟩
    have go := ih (i + 1) m (by omega) (by omega)
    have em := fun x => f_mustW (G := G) (b := b) (h0 := h0) (nx := nx) h5 h7 x
    rw [F_X12_spells_2_s, stL_at hk, stC_at hk (by omega) hN, if_neg (show ¬ nI (txN.getD k 0) ≤ nI i from fun q => by have := (nI_leI (by omega) (by omega)).mp q; omega)]
    simp (maxSteps := 3000000) (disch := omega) only [em, ma_msa_n, ma_msa_s, mi_msi_n, mi_msi_s, ml_msl_n, ml_msl_s, ma_msi, ma_msl, mi_msa, mi_msl, ml_msa, ml_msi, msa_msa, msi_msi, msl_msl, ck_m, gf_s, gf_image, gf_truths, gf_knownRow, gf_daysRow, gf_bests, gf_nots, gf_lookeds, gf_bestsAt, gf_worths, gf_keptKnown, gf_keptDays, gf_round, gf_sums, gf_bestRound, gf_bodies, gf_thrown, gf_hasImage, gf_act, gf_spot, gf_size, gf_isWrong, gf_open, gf_edgeThing, gf_edgeMore, gf_stamp, gf_whose, gf_wage, gf_roundMany, gf_bestSet, gf_ran, gf_kind, gf_who, gf_tellsV, pf_thrown, pf_hasImage, pf_act, pf_spot, pf_size, pf_isWrong, pf_open, pf_edgeThing, pf_edgeMore, pf_stamp, pf_whose, pf_wage, pf_roundMany, pf_bestSet, pf_ran, pf_kind, pf_who, pf_tellsV, al_s, as_s, al_image, as_image, al_truths, as_truths0, as_truths1, al_knownRow, as_knownRow, al_daysRow, as_daysRow, al_bests, as_bests, al_nots, as_nots, al_lookeds, as_lookeds, al_bestsAt, as_bestsAt, al_worths, as_worths, al_keptKnown, as_keptKnown, al_keptDays, as_keptDays, al_round, as_round, al_sums, as_sums, al_bestRound, as_bestRound, al_bodies, as_bodies, cl_some, nm_b, nn_some, qn_some, qn_none, zk_0, zk_1, zk_n0, zk_n1, nI_add, pk_mul, pk_sub, nI_leE, nI_ltE, nI_eqE, nI_lt0, nI_ge0, nI_eq0, nI_gt0, nI_le0, ilt_t, ilt_f, ile_t, ile_f, ieq_t, ieq_f, if_tt, if_ff, Nat.add_sub_cancel]
    exact go
set_option maxRecDepth 100000 in
set_option maxHeartbeats 4000000 in
theorem f_spells2 {tp : Nat → Int32} {z k a c d : Nat} (hk : k < 12) : ∀ (r i m p : Nat) (st : MS), i + r = txN.getD k 0 → r < m → Rd st tp z p a c d → ∃ st' : MS, F_X12_spells_2 G m (encM G b st h0) nx b k (nI i) = some ((), encM G b st' h0, nx) ∧ Rs st a c d ((spP tp z ((txB.getD k []).drop i) p).1, (spP tp z ((txB.getD k []).drop i) p).2, []) st' := by
  have hN := tx_len k hk
  have hN2 := tx_len2 k hk
  intro r
  induction r with
  | zero =>
    intro i m p st hr hm hR
    obtain ⟨m, rfl⟩ : ∃ q, m = q + 1 := ⟨m - 1, by omega⟩
    rw [List.drop_eq_nil_of_le (by omega)]
    refine ⟨st, ?_, Rs.nil hR⟩
    rw [F_X12_spells_2_s, stL_at hk]
    generalize txN.getD k 0 = N at hr hN ⊢
    have hr : i = N := by omega
    subst hr
    simp (maxSteps := 3000000) (disch := omega) only [ma_msa_n, ma_msa_s, mi_msi_n, mi_msi_s, ml_msl_n, ml_msl_s, ma_msi, ma_msl, mi_msa, mi_msl, ml_msa, ml_msi, msa_msa, msi_msi, msl_msl, ck_m, gf_s, gf_image, gf_truths, gf_knownRow, gf_daysRow, gf_bests, gf_nots, gf_lookeds, gf_bestsAt, gf_worths, gf_keptKnown, gf_keptDays, gf_round, gf_sums, gf_bestRound, gf_bodies, gf_thrown, gf_hasImage, gf_act, gf_spot, gf_size, gf_isWrong, gf_open, gf_edgeThing, gf_edgeMore, gf_stamp, gf_whose, gf_wage, gf_roundMany, gf_bestSet, gf_ran, gf_kind, gf_who, gf_tellsV, pf_thrown, pf_hasImage, pf_act, pf_spot, pf_size, pf_isWrong, pf_open, pf_edgeThing, pf_edgeMore, pf_stamp, pf_whose, pf_wage, pf_roundMany, pf_bestSet, pf_ran, pf_kind, pf_who, pf_tellsV, al_s, as_s, al_image, as_image, al_truths, as_truths0, as_truths1, al_knownRow, as_knownRow, al_daysRow, as_daysRow, al_bests, as_bests, al_nots, as_nots, al_lookeds, as_lookeds, al_bestsAt, as_bestsAt, al_worths, as_worths, al_keptKnown, as_keptKnown, al_keptDays, as_keptDays, al_round, as_round, al_sums, as_sums, al_bestRound, as_bestRound, al_bodies, as_bodies, cl_some, nm_b, nn_some, qn_some, qn_none, zk_0, zk_1, zk_n0, zk_n1, nI_add, pk_mul, pk_sub, nI_leE, nI_ltE, nI_eqE, nI_lt0, nI_ge0, nI_eq0, nI_gt0, nI_le0, ilt_t, ilt_f, ile_t, ile_f, ieq_t, ieq_f, if_tt, if_ff, Nat.add_sub_cancel]
  | succ r ih =>
    intro i m p st hr hm hR
    obtain ⟨m, rfl⟩ : ∃ q, m = q + 1 := ⟨m - 1, by omega⟩
    obtain ⟨hd, hx⟩ := tx_drop k hk i (by omega)
    have hz := hR.1.2.2.1
    have em := f_must (G := G) (b := b) (h0 := h0) (nx := nx) (st := st) hR.1 hR.2.1 ((txB.getD k []).getD i 0)
    rw [here_cg hz hR.2.2.2.2.2.2.2] at em
    have r1 := Rs.must hR ((txB.getD k []).getD i 0)
    rw [hd]
    rw [F_X12_spells_2_s, stL_at hk, stC_at hk (by omega) hN, if_neg (show ¬ nI (txN.getD k 0) ≤ nI i from fun q => by have := (nI_leI (by omega) (by omega)).mp q; omega)]
    generalize (txB.getD k []).getD i 0 = x at em r1 hx ⊢
    have es : spP tp z (x :: (txB.getD k []).drop (i + 1)) p = if hereP tp z p = x then spP tp z ((txB.getD k []).drop (i + 1)) (p + 1) else (false, p) := rfl
    rw [es]
    by_cases c1 : hereP tp z p = x
    · have hin : p < z := here_in (by rw [c1]; exact hx)
      rw [if_pos c1] at em
      rw [if_pos c1, if_pos c1] at r1
      rw [if_pos c1]
      obtain ⟨rd1, _⟩ := r1.rd hR rfl (by show p + 0 ≤ p + 1; omega) (by show p + 1 ≤ z; omega)
      obtain ⟨st2, e2, r2⟩ := ih (i + 1) m (p + 1) (spW st (p + 1) (nI 0)) (by omega) (by omega) rd1
      refine ⟨st2, ?_, r1.seq rfl r2 hR.2.2.2.2.1 (by have := hR.2.2.2.2.2.2.1; have := hR.1.2.2.2; show c + 0 ≤ 140; omega) (fun _ => rfl)⟩
      simp (maxSteps := 3000000) (disch := omega) only [em, ma_msa_n, ma_msa_s, mi_msi_n, mi_msi_s, ml_msl_n, ml_msl_s, ma_msi, ma_msl, mi_msa, mi_msl, ml_msa, ml_msi, msa_msa, msi_msi, msl_msl, ck_m, gf_s, gf_image, gf_truths, gf_knownRow, gf_daysRow, gf_bests, gf_nots, gf_lookeds, gf_bestsAt, gf_worths, gf_keptKnown, gf_keptDays, gf_round, gf_sums, gf_bestRound, gf_bodies, gf_thrown, gf_hasImage, gf_act, gf_spot, gf_size, gf_isWrong, gf_open, gf_edgeThing, gf_edgeMore, gf_stamp, gf_whose, gf_wage, gf_roundMany, gf_bestSet, gf_ran, gf_kind, gf_who, gf_tellsV, pf_thrown, pf_hasImage, pf_act, pf_spot, pf_size, pf_isWrong, pf_open, pf_edgeThing, pf_edgeMore, pf_stamp, pf_whose, pf_wage, pf_roundMany, pf_bestSet, pf_ran, pf_kind, pf_who, pf_tellsV, al_s, as_s, al_image, as_image, al_truths, as_truths0, as_truths1, al_knownRow, as_knownRow, al_daysRow, as_daysRow, al_bests, as_bests, al_nots, as_nots, al_lookeds, as_lookeds, al_bestsAt, as_bestsAt, al_worths, as_worths, al_keptKnown, as_keptKnown, al_keptDays, as_keptDays, al_round, as_round, al_sums, as_sums, al_bestRound, as_bestRound, al_bodies, as_bodies, cl_some, nm_b, nn_some, qn_some, qn_none, zk_0, zk_1, zk_n0, zk_n1, nI_add, pk_mul, pk_sub, nI_leE, nI_ltE, nI_eqE, nI_lt0, nI_ge0, nI_eq0, nI_gt0, nI_le0, ilt_t, ilt_f, ile_t, ile_f, ieq_t, ieq_f, if_tt, if_ff, Nat.add_sub_cancel]
      exact e2
    · rw [if_neg c1] at em
      rw [if_neg c1, if_neg c1] at r1
      rw [if_neg c1]
      refine ⟨spW st p (nI 1), ?_, r1⟩
      simp (maxSteps := 3000000) (disch := omega) only [em, ma_msa_n, ma_msa_s, mi_msi_n, mi_msi_s, ml_msl_n, ml_msl_s, ma_msi, ma_msl, mi_msa, mi_msl, ml_msa, ml_msi, msa_msa, msi_msi, msl_msl, ck_m, gf_s, gf_image, gf_truths, gf_knownRow, gf_daysRow, gf_bests, gf_nots, gf_lookeds, gf_bestsAt, gf_worths, gf_keptKnown, gf_keptDays, gf_round, gf_sums, gf_bestRound, gf_bodies, gf_thrown, gf_hasImage, gf_act, gf_spot, gf_size, gf_isWrong, gf_open, gf_edgeThing, gf_edgeMore, gf_stamp, gf_whose, gf_wage, gf_roundMany, gf_bestSet, gf_ran, gf_kind, gf_who, gf_tellsV, pf_thrown, pf_hasImage, pf_act, pf_spot, pf_size, pf_isWrong, pf_open, pf_edgeThing, pf_edgeMore, pf_stamp, pf_whose, pf_wage, pf_roundMany, pf_bestSet, pf_ran, pf_kind, pf_who, pf_tellsV, al_s, as_s, al_image, as_image, al_truths, as_truths0, as_truths1, al_knownRow, as_knownRow, al_daysRow, as_daysRow, al_bests, as_bests, al_nots, as_nots, al_lookeds, as_lookeds, al_bestsAt, as_bestsAt, al_worths, as_worths, al_keptKnown, as_keptKnown, al_keptDays, as_keptDays, al_round, as_round, al_sums, as_sums, al_bestRound, as_bestRound, al_bodies, as_bodies, cl_some, nm_b, nn_some, qn_some, qn_none, zk_0, zk_1, zk_n0, zk_n1, nI_add, pk_mul, pk_sub, nI_leE, nI_ltE, nI_eqE, nI_lt0, nI_ge0, nI_eq0, nI_gt0, nI_le0, ilt_t, ilt_f, ile_t, ile_f, ieq_t, ieq_f, if_tt, if_ff, Nat.add_sub_cancel]
      exact f_spW hk mi_msi_s rfl r (i + 1) m (by omega) (by omega)
theorem f_spells {st : MS} {tp : Nat → Int32} {z p k a c d : Nat} (hk : k < 12) (hR : Rd st tp z p a c d) : ∃ st' : MS, F_X12_spells G (encM G b st h0) nx b k = some ((), encM G b st' h0, nx) ∧ Rs st a c d ((spP tp z (txB.getD k []) p).1, (spP tp z (txB.getD k []) p).2, []) st' := f_spells2 hk (txN.getD k 0) 0 fuelL p st (by omega) (by have := tx_len k hk; unfold fuelL; omega) hR
end P6
