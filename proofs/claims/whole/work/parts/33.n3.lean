/-! THE REFERENCE: a tour, an edge -/
def toW (S : MS) (n t : Nat) : Int32 := wgF (nmF S t n)
def toA (s : Nat → Int32) (W : Nat → Int32) (set : Int32) : Nat → Int32 × Int32
  | 0 => (nI 0, nI 0)
  | t + 1 => if bitI set t = nI 1 then ((toA s W set t).1 + W t, if s (1018 + t) ≤ (toA s W set t).2 then (toA s W set t).2 else s (1018 + t)) else ((toA s W set t).1 + nI 0, (toA s W set t).2)
/-- the best set of those 1 .. k, its sum -/
def toB (s : Nat → Int32) (W : Nat → Int32) (nt : Nat) (w : Int32) : Nat → Int32 × Int32
  | 0 => (nI 0, nI 0)
  | k + 1 => if s 4 < cnF (nI (k + 1)) 8 ∨ w < nI 2 * (toA s W (nI (k + 1)) nt).2 ∨ (toA s W (nI (k + 1)) nt).1 ≤ (toB s W nt w k).2 then toB s W nt w k else (nI (k + 1), (toA s W (nI (k + 1)) nt).1)
def tourF (S : MS) (nt : Nat) (w d : Int32) : Int32 := if bIn w (nI 0) (nI 200) = 0 then -2 else if bIn d (nI 1) (nI 8) = 0 then -2 else (toB (ma S 1) (toW S d.toNatClampNeg) nt w (2 ^ nt - 1)).1
theorem nmF_wr {S st : MS} (h : Wr S (ma S 1) st) {t n : Nat} (hn : n ≤ 8) : nmF st t n = nmF S t n := by
  have := h.fr
  rw [msa_self] at this
  exact nmF_fr this (by decide) (by decide) (by decide) hn
section N3
variable {G : Gx} {b : Nat} {h0 : Hp} {nx : Nat}
set_option maxRecDepth 100000 in
set_option maxHeartbeats 4000000 in
theorem f_tour26 {S : MS} {nt np lk td n : Nat} {w : Int32} (hB : BOk S nt np lk td) (hn1 : 1 ≤ n) (hn8 : n ≤ 8) : ∀ (r t m : Nat) (st : MS) (N : Nat), t + r = nt → r < m → Wr S (ma S 1) st → (∀ j, j < t → ma st 21 j = toW S n j) → StOk st N → N + 201 * r < 2 ^ 31 → ∃ (st' : MS) (N' : Nat), F_X12_tour_26 G m (encM G b st h0) nx b w (nI n) (nI t) = F_X12_tour_62 G fuelL (encM G b st' h0) nx b w (nI 0) (nI 0) (nI 1) ∧ Wr S (ma S 1) st' ∧ (∀ j, j < nt → ma st' 21 j = toW S n j) ∧ StOk st' N' ∧ N' ≤ N + 201 * r := by
  obtain ⟨hL, hl3, ht, h2, hnp, hpr, h3, htd⟩ := hB
  have hn := hL.2.1
  intro r
  induction r with
  | zero =>
    intro t m st N hr hm hW hg hN hb
    obtain ⟨m, rfl⟩ : ∃ q, m = q + 1 := ⟨m - 1, by omega⟩
    have hr : t = nt := by omega
    subst hr
    have a1 : ma st 1 1 = nI t := by rw [hW.s]; exact hL.1
    refine ⟨st, N, ?_, hW, hg, hN, by omega⟩
    rw [F_X12_tour_26_s]
    simp (maxSteps := 3000000) (disch := omega) only [a1, ma_msa_n, ma_msa_s, mi_msi_n, mi_msi_s, ml_msl_n, ml_msl_s, ma_msi, ma_msl, mi_msa, mi_msl, ml_msa, ml_msi, msa_msa, msi_msi, msl_msl, ck_m, gf_s, gf_image, gf_truths, gf_knownRow, gf_daysRow, gf_bests, gf_nots, gf_lookeds, gf_bestsAt, gf_worths, gf_keptKnown, gf_keptDays, gf_round, gf_sums, gf_bestRound, gf_bodies, gf_thrown, gf_hasImage, gf_act, gf_spot, gf_size, gf_isWrong, gf_open, gf_edgeThing, gf_edgeMore, gf_stamp, gf_whose, gf_wage, gf_roundMany, gf_bestSet, gf_ran, gf_kind, gf_who, gf_tellsV, pf_thrown, pf_hasImage, pf_act, pf_spot, pf_size, pf_isWrong, pf_open, pf_edgeThing, pf_edgeMore, pf_stamp, pf_whose, pf_wage, pf_roundMany, pf_bestSet, pf_ran, pf_kind, pf_who, pf_tellsV, al_s, as_s, al_image, as_image, al_truths, as_truths0, as_truths1, al_knownRow, as_knownRow, al_daysRow, as_daysRow, al_bests, as_bests, al_nots, as_nots, al_lookeds, as_lookeds, al_bestsAt, as_bestsAt, al_worths, as_worths, al_keptKnown, as_keptKnown, al_keptDays, as_keptDays, al_round, as_round, al_sums, as_sums, al_bestRound, as_bestRound, al_bodies, as_bodies, cl_some, nm_b, nn_some, qn_some, qn_none, zk_0, zk_1, zk_n0, zk_n1, nI_add, pk_mul, pk_sub, nI_leE, nI_ltE, nI_eqE, nI_lt0, nI_ge0, nI_eq0, nI_gt0, nI_le0, ilt_t, ilt_f, ile_t, ile_f, ieq_t, ieq_f, if_tt, if_ff, Nat.add_sub_cancel]
  | succ r ih =>
    intro t m st N hr hm hW hg hN hb
    obtain ⟨m, rfl⟩ : ∃ q, m = q + 1 := ⟨m - 1, by omega⟩
    have hs := hW.s
    have a1 : ma st 1 1 = nI nt := by rw [hs]; exact hL.1
    obtain ⟨st2, N2, e2, f2, n2, l2⟩ := f_weight (G := G) (b := b) (h0 := h0) (nx := nx) (st := st) (t := t) hn1 hn8 (by rw [hs]; exact ht t (by omega)) hN (by omega)
    rw [nmF_wr hW hn8] at e2
    have W3 : Wr S (ma S 1) (msa st2 21 (upK (ma st2 21) t (wgF (nmF S t n)))) := (hW.tr f2 (by decide)).tr (FrM.msa (k := 21) (ks := [21]) (by decide)) (by decide)
    obtain ⟨st', N', e, w', g', n', l'⟩ := ih (t + 1) m _ N2 (by omega) (by omega) W3 (fun j hj => by
      rw [ma_msa_s]
      by_cases c : j = t
      · subst c
        exact upK_s
      · rw [upK_n c, f2.ofa 21 (by decide)]
        exact hg j (by omega)) (StOk_fr (FrM.msa (k := 21) (ks := [21]) (by decide)) (by decide) (by decide) n2) (by omega)
    refine ⟨st', N', ?_, w', g', n', by omega⟩
    rw [← e, F_X12_tour_26_s]
    simp (maxSteps := 3000000) (disch := omega) only [a1, e2, ma_msa_n, ma_msa_s, mi_msi_n, mi_msi_s, ml_msl_n, ml_msl_s, ma_msi, ma_msl, mi_msa, mi_msl, ml_msa, ml_msi, msa_msa, msi_msi, msl_msl, ck_m, gf_s, gf_image, gf_truths, gf_knownRow, gf_daysRow, gf_bests, gf_nots, gf_lookeds, gf_bestsAt, gf_worths, gf_keptKnown, gf_keptDays, gf_round, gf_sums, gf_bestRound, gf_bodies, gf_thrown, gf_hasImage, gf_act, gf_spot, gf_size, gf_isWrong, gf_open, gf_edgeThing, gf_edgeMore, gf_stamp, gf_whose, gf_wage, gf_roundMany, gf_bestSet, gf_ran, gf_kind, gf_who, gf_tellsV, pf_thrown, pf_hasImage, pf_act, pf_spot, pf_size, pf_isWrong, pf_open, pf_edgeThing, pf_edgeMore, pf_stamp, pf_whose, pf_wage, pf_roundMany, pf_bestSet, pf_ran, pf_kind, pf_who, pf_tellsV, al_s, as_s, al_image, as_image, al_truths, as_truths0, as_truths1, al_knownRow, as_knownRow, al_daysRow, as_daysRow, al_bests, as_bests, al_nots, as_nots, al_lookeds, as_lookeds, al_bestsAt, as_bestsAt, al_worths, as_worths, al_keptKnown, as_keptKnown, al_keptDays, as_keptDays, al_round, as_round, al_sums, as_sums, al_bestRound, as_bestRound, al_bodies, as_bodies, cl_some, nm_b, nn_some, qn_some, qn_none, zk_0, zk_1, zk_n0, zk_n1, nI_add, pk_mul, pk_sub, nI_leE, nI_ltE, nI_eqE, nI_lt0, nI_ge0, nI_eq0, nI_gt0, nI_le0, ilt_t, ilt_f, ile_t, ile_f, ieq_t, ieq_f, if_tt, if_ff, Nat.add_sub_cancel]
set_option maxRecDepth 100000 in
set_option maxHeartbeats 4000000 in
theorem f_tour84 {st : MS} {nt n : Nat} {S : MS} {w l3 l4 set : Int32} {k62 : Hp → Nat → Nat → Int32 → Int32 → Int32 → Int32 → Rz Int32} (h1 : ma st 1 1 = nI nt) (hn : nt ≤ 8) (hg : ∀ j, j < nt → ma st 21 j = toW S n j) : ∀ (r t m : Nat), t + r = nt → r < m → F_X12_tour_84 G k62 m (encM G b st h0) nx b w l3 l4 set (toA (ma st 1) (toW S n) set t).1 (toA (ma st 1) (toW S n) set t).2 (nI t) = if ma st 1 4 < cnF set 8 ∨ w < nI 2 * (toA (ma st 1) (toW S n) set nt).2 ∨ (toA (ma st 1) (toW S n) set nt).1 ≤ l4 then k62 (encM G b st h0) nx b w l3 l4 (set + nI 1) else k62 (encM G b st h0) nx b w set (toA (ma st 1) (toW S n) set nt).1 (set + nI 1) := by
  intro r
  induction r with
  | zero =>
    intro t m hr hm
    obtain ⟨m, rfl⟩ : ∃ q, m = q + 1 := ⟨m - 1, by omega⟩
    have hr : t = nt := by omega
    subst hr
    generalize toA (ma st 1) (toW S n) set t = z
    obtain ⟨z1, z2⟩ := z
    rw [F_X12_tour_84_s]
    unfold F_X12_tour_212 F_X12_tour_213 F_X12_tour_226 F_X12_tour_239
    simp (maxSteps := 3000000) (disch := omega) only [h1, f_count1, ma_msa_n, ma_msa_s, mi_msi_n, mi_msi_s, ml_msl_n, ml_msl_s, ma_msi, ma_msl, mi_msa, mi_msl, ml_msa, ml_msi, msa_msa, msi_msi, msl_msl, ck_m, gf_s, gf_image, gf_truths, gf_knownRow, gf_daysRow, gf_bests, gf_nots, gf_lookeds, gf_bestsAt, gf_worths, gf_keptKnown, gf_keptDays, gf_round, gf_sums, gf_bestRound, gf_bodies, gf_thrown, gf_hasImage, gf_act, gf_spot, gf_size, gf_isWrong, gf_open, gf_edgeThing, gf_edgeMore, gf_stamp, gf_whose, gf_wage, gf_roundMany, gf_bestSet, gf_ran, gf_kind, gf_who, gf_tellsV, pf_thrown, pf_hasImage, pf_act, pf_spot, pf_size, pf_isWrong, pf_open, pf_edgeThing, pf_edgeMore, pf_stamp, pf_whose, pf_wage, pf_roundMany, pf_bestSet, pf_ran, pf_kind, pf_who, pf_tellsV, al_s, as_s, al_image, as_image, al_truths, as_truths0, as_truths1, al_knownRow, as_knownRow, al_daysRow, as_daysRow, al_bests, as_bests, al_nots, as_nots, al_lookeds, as_lookeds, al_bestsAt, as_bestsAt, al_worths, as_worths, al_keptKnown, as_keptKnown, al_keptDays, as_keptDays, al_round, as_round, al_sums, as_sums, al_bestRound, as_bestRound, al_bodies, as_bodies, cl_some, nm_b, nn_some, qn_some, qn_none, zk_0, zk_1, zk_n0, zk_n1, nI_add, pk_mul, pk_sub, nI_leE, nI_ltE, nI_eqE, nI_lt0, nI_ge0, nI_eq0, nI_gt0, nI_le0, ilt_t, ilt_f, ile_t, ile_f, ieq_t, ieq_f, if_tt, if_ff, Nat.add_sub_cancel]
    by_cases c1 : ma st 1 4 < cnF set 8
    · rw [if_pos c1, if_pos (Or.inl c1)]
    · rw [if_neg c1]
      by_cases c2 : w < nI 2 * z2
      · rw [if_pos c2, if_pos (Or.inr (Or.inl c2))]
      · rw [if_neg c2]
        by_cases c3 : z1 ≤ l4
        · rw [if_pos c3, if_pos (Or.inr (Or.inr c3))]
        · rw [if_neg c3, if_neg (fun q => q.elim c1 (fun q => q.elim c2 c3))]
  | succ r ih =>
    intro t m hr hm
    obtain ⟨m, rfl⟩ : ∃ q, m = q + 1 := ⟨m - 1, by omega⟩
    have go := ih (t + 1) m (by omega) (by omega)
    have e : toA (ma st 1) (toW S n) set (t + 1) = if bitI set t = nI 1 then ((toA (ma st 1) (toW S n) set t).1 + toW S n t, if ma st 1 (1018 + t) ≤ (toA (ma st 1) (toW S n) set t).2 then (toA (ma st 1) (toW S n) set t).2 else ma st 1 (1018 + t)) else ((toA (ma st 1) (toW S n) set t).1 + nI 0, (toA (ma st 1) (toW S n) set t).2) := rfl
    have gt := hg t (by omega)
    rw [← go, F_X12_tour_84_s]
    unfold F_X12_tour_111 F_X12_tour_131 F_X12_tour_169 F_X12_tour_171
    simp (maxSteps := 3000000) (disch := omega) only [h1, gt, ma_msa_n, ma_msa_s, mi_msi_n, mi_msi_s, ml_msl_n, ml_msl_s, ma_msi, ma_msl, mi_msa, mi_msl, ml_msa, ml_msi, msa_msa, msi_msi, msl_msl, ck_m, gf_s, gf_image, gf_truths, gf_knownRow, gf_daysRow, gf_bests, gf_nots, gf_lookeds, gf_bestsAt, gf_worths, gf_keptKnown, gf_keptDays, gf_round, gf_sums, gf_bestRound, gf_bodies, gf_thrown, gf_hasImage, gf_act, gf_spot, gf_size, gf_isWrong, gf_open, gf_edgeThing, gf_edgeMore, gf_stamp, gf_whose, gf_wage, gf_roundMany, gf_bestSet, gf_ran, gf_kind, gf_who, gf_tellsV, pf_thrown, pf_hasImage, pf_act, pf_spot, pf_size, pf_isWrong, pf_open, pf_edgeThing, pf_edgeMore, pf_stamp, pf_whose, pf_wage, pf_roundMany, pf_bestSet, pf_ran, pf_kind, pf_who, pf_tellsV, al_s, as_s, al_image, as_image, al_truths, as_truths0, as_truths1, al_knownRow, as_knownRow, al_daysRow, as_daysRow, al_bests, as_bests, al_nots, as_nots, al_lookeds, as_lookeds, al_bestsAt, as_bestsAt, al_worths, as_worths, al_keptKnown, as_keptKnown, al_keptDays, as_keptDays, al_round, as_round, al_sums, as_sums, al_bestRound, as_bestRound, al_bodies, as_bodies, cl_some, nm_b, nn_some, qn_some, qn_none, zk_0, zk_1, zk_n0, zk_n1, nI_add, pk_mul, pk_sub, nI_leE, nI_ltE, nI_eqE, nI_lt0, nI_ge0, nI_eq0, nI_gt0, nI_le0, ilt_t, ilt_f, ile_t, ile_f, ieq_t, ieq_f, if_tt, if_ff, Nat.add_sub_cancel]
    by_cases c : bitI set t = nI 1
    · have c' : set >>> (nI t &&& 31) &&& nI 1 = nI 1 := c
      rw [if_pos c', e, if_pos c]
      by_cases c2 : ma st 1 (1018 + t) ≤ (toA (ma st 1) (toW S n) set t).2
      · rw [if_pos c2, if_pos c2]
      · rw [if_neg c2, if_neg c2]
    · have c' : ¬ set >>> (nI t &&& 31) &&& nI 1 = nI 1 := c
      rw [if_neg c', e, if_neg c]
set_option maxRecDepth 100000 in
set_option maxHeartbeats 4000000 in
theorem f_tour62 {st : MS} {nt n : Nat} {S : MS} {w : Int32} (h1 : ma st 1 1 = nI nt) (hn : nt ≤ 8) (hg : ∀ j, j < nt → ma st 21 j = toW S n j) : ∀ (r k m : Nat), k + 1 + r = 2 ^ nt → r < m → F_X12_tour_62 G m (encM G b st h0) nx b w (toB (ma st 1) (toW S n) nt w k).1 (toB (ma st 1) (toW S n) nt w k).2 (nI (k + 1)) = some ((toB (ma st 1) (toW S n) nt w (2 ^ nt - 1)).1, encM G b st h0, nx) := by
  have h2n := two_le hn
  intro r
  induction r with
  | zero =>
    intro k m hr hm
    obtain ⟨m, rfl⟩ : ∃ q, m = q + 1 := ⟨m - 1, by omega⟩
    have hr : k = 2 ^ nt - 1 := by omega
    subst hr
    rw [F_X12_tour_62_s]
    simp (maxSteps := 3000000) (disch := omega) only [h1, shl_n hn, ma_msa_n, ma_msa_s, mi_msi_n, mi_msi_s, ml_msl_n, ml_msl_s, ma_msi, ma_msl, mi_msa, mi_msl, ml_msa, ml_msi, msa_msa, msi_msi, msl_msl, ck_m, gf_s, gf_image, gf_truths, gf_knownRow, gf_daysRow, gf_bests, gf_nots, gf_lookeds, gf_bestsAt, gf_worths, gf_keptKnown, gf_keptDays, gf_round, gf_sums, gf_bestRound, gf_bodies, gf_thrown, gf_hasImage, gf_act, gf_spot, gf_size, gf_isWrong, gf_open, gf_edgeThing, gf_edgeMore, gf_stamp, gf_whose, gf_wage, gf_roundMany, gf_bestSet, gf_ran, gf_kind, gf_who, gf_tellsV, pf_thrown, pf_hasImage, pf_act, pf_spot, pf_size, pf_isWrong, pf_open, pf_edgeThing, pf_edgeMore, pf_stamp, pf_whose, pf_wage, pf_roundMany, pf_bestSet, pf_ran, pf_kind, pf_who, pf_tellsV, al_s, as_s, al_image, as_image, al_truths, as_truths0, as_truths1, al_knownRow, as_knownRow, al_daysRow, as_daysRow, al_bests, as_bests, al_nots, as_nots, al_lookeds, as_lookeds, al_bestsAt, as_bestsAt, al_worths, as_worths, al_keptKnown, as_keptKnown, al_keptDays, as_keptDays, al_round, as_round, al_sums, as_sums, al_bestRound, as_bestRound, al_bodies, as_bodies, cl_some, nm_b, nn_some, qn_some, qn_none, zk_0, zk_1, zk_n0, zk_n1, nI_add, pk_mul, pk_sub, nI_leE, nI_ltE, nI_eqE, nI_lt0, nI_ge0, nI_eq0, nI_gt0, nI_le0, ilt_t, ilt_f, ile_t, ile_f, ieq_t, ieq_f, if_tt, if_ff, Nat.add_sub_cancel]
  | succ r ih =>
    intro k m hr hm
    obtain ⟨m, rfl⟩ : ∃ q, m = q + 1 := ⟨m - 1, by omega⟩
    have go := ih (k + 1) m (by omega) (by omega)
    have e : toB (ma st 1) (toW S n) nt w (k + 1) = if ma st 1 4 < cnF (nI (k + 1)) 8 ∨ w < nI 2 * (toA (ma st 1) (toW S n) (nI (k + 1)) nt).2 ∨ (toA (ma st 1) (toW S n) (nI (k + 1)) nt).1 ≤ (toB (ma st 1) (toW S n) nt w k).2 then toB (ma st 1) (toW S n) nt w k else (nI (k + 1), (toA (ma st 1) (toW S n) (nI (k + 1)) nt).1) := rfl
    have e84 := f_tour84 (G := G) (b := b) (h0 := h0) (nx := nx) (n := n) (S := S) (w := w) (l3 := (toB (ma st 1) (toW S n) nt w k).1) (l4 := (toB (ma st 1) (toW S n) nt w k).2) (set := nI (k + 1)) (k62 := F_X12_tour_62 G m) h1 hn hg nt 0 fuelL (by omega) (by unfold fuelL; omega)
    rw [show toA (ma st 1) (toW S n) (nI (k + 1)) 0 = (nI 0, nI 0) from rfl] at e84
    simp only [] at e84
    rw [F_X12_tour_62_s]
    simp (maxSteps := 3000000) (disch := omega) only [h1, shl_n hn, ma_msa_n, ma_msa_s, mi_msi_n, mi_msi_s, ml_msl_n, ml_msl_s, ma_msi, ma_msl, mi_msa, mi_msl, ml_msa, ml_msi, msa_msa, msi_msi, msl_msl, ck_m, gf_s, gf_image, gf_truths, gf_knownRow, gf_daysRow, gf_bests, gf_nots, gf_lookeds, gf_bestsAt, gf_worths, gf_keptKnown, gf_keptDays, gf_round, gf_sums, gf_bestRound, gf_bodies, gf_thrown, gf_hasImage, gf_act, gf_spot, gf_size, gf_isWrong, gf_open, gf_edgeThing, gf_edgeMore, gf_stamp, gf_whose, gf_wage, gf_roundMany, gf_bestSet, gf_ran, gf_kind, gf_who, gf_tellsV, pf_thrown, pf_hasImage, pf_act, pf_spot, pf_size, pf_isWrong, pf_open, pf_edgeThing, pf_edgeMore, pf_stamp, pf_whose, pf_wage, pf_roundMany, pf_bestSet, pf_ran, pf_kind, pf_who, pf_tellsV, al_s, as_s, al_image, as_image, al_truths, as_truths0, as_truths1, al_knownRow, as_knownRow, al_daysRow, as_daysRow, al_bests, as_bests, al_nots, as_nots, al_lookeds, as_lookeds, al_bestsAt, as_bestsAt, al_worths, as_worths, al_keptKnown, as_keptKnown, al_keptDays, as_keptDays, al_round, as_round, al_sums, as_sums, al_bestRound, as_bestRound, al_bodies, as_bodies, cl_some, nm_b, nn_some, qn_some, qn_none, zk_0, zk_1, zk_n0, zk_n1, nI_add, pk_mul, pk_sub, nI_leE, nI_ltE, nI_eqE, nI_lt0, nI_ge0, nI_eq0, nI_gt0, nI_le0, ilt_t, ilt_f, ile_t, ile_f, ieq_t, ieq_f, if_tt, if_ff, Nat.add_sub_cancel]
    rw [e84, nI_add]
    by_cases c : ma st 1 4 < cnF (nI (k + 1)) 8 ∨ w < nI 2 * (toA (ma st 1) (toW S n) (nI (k + 1)) nt).2 ∨ (toA (ma st 1) (toW S n) (nI (k + 1)) nt).1 ≤ (toB (ma st 1) (toW S n) nt w k).2
    · rw [if_pos c]
      rw [e, if_pos c] at go
      exact go
    · rw [if_neg c]
      rw [e, if_neg c] at go
      exact go
set_option maxRecDepth 100000 in
set_option maxHeartbeats 4000000 in
theorem f_tour {st : MS} {nt np lk td N : Nat} (hB : BOk st nt np lk td) (hN : StOk st N) (hb : N + 1608 < 2 ^ 31) (w d : Int32) : ∃ (st' : MS) (N' : Nat), F_X12_tour G (encM G b st h0) nx b w d = some (tourF st nt w d, encM G b st' h0, nx) ∧ Wr st (ma st 1) st' ∧ StOk st' N' ∧ N' ≤ N + 1608 := by
  have hn := hB.1.2.1
  have h2n := two_le hn
  have h2p : 0 < 2 ^ nt := Nat.two_pow_pos nt
  unfold F_X12_tour F_X12_tour_21 tourF
  simp (maxSteps := 3000000) (disch := omega) only [f_in, ma_msa_n, ma_msa_s, mi_msi_n, mi_msi_s, ml_msl_n, ml_msl_s, ma_msi, ma_msl, mi_msa, mi_msl, ml_msa, ml_msi, msa_msa, msi_msi, msl_msl, ck_m, gf_s, gf_image, gf_truths, gf_knownRow, gf_daysRow, gf_bests, gf_nots, gf_lookeds, gf_bestsAt, gf_worths, gf_keptKnown, gf_keptDays, gf_round, gf_sums, gf_bestRound, gf_bodies, gf_thrown, gf_hasImage, gf_act, gf_spot, gf_size, gf_isWrong, gf_open, gf_edgeThing, gf_edgeMore, gf_stamp, gf_whose, gf_wage, gf_roundMany, gf_bestSet, gf_ran, gf_kind, gf_who, gf_tellsV, pf_thrown, pf_hasImage, pf_act, pf_spot, pf_size, pf_isWrong, pf_open, pf_edgeThing, pf_edgeMore, pf_stamp, pf_whose, pf_wage, pf_roundMany, pf_bestSet, pf_ran, pf_kind, pf_who, pf_tellsV, al_s, as_s, al_image, as_image, al_truths, as_truths0, as_truths1, al_knownRow, as_knownRow, al_daysRow, as_daysRow, al_bests, as_bests, al_nots, as_nots, al_lookeds, as_lookeds, al_bestsAt, as_bestsAt, al_worths, as_worths, al_keptKnown, as_keptKnown, al_keptDays, as_keptDays, al_round, as_round, al_sums, as_sums, al_bestRound, as_bestRound, al_bodies, as_bodies, cl_some, nm_b, nn_some, qn_some, qn_none, zk_0, zk_1, zk_n0, zk_n1, nI_add, pk_mul, pk_sub, nI_leE, nI_ltE, nI_eqE, nI_lt0, nI_ge0, nI_eq0, nI_gt0, nI_le0, ilt_t, ilt_f, ile_t, ile_f, ieq_t, ieq_f, if_tt, if_ff, Nat.add_sub_cancel]
  by_cases c1 : bIn w (nI 0) (nI 200) = 0
  · rw [if_pos c1, if_pos c1]
    exact ⟨st, N, rfl, Wr.rf, hN, by omega⟩
  · rw [if_neg c1, if_neg c1]
    by_cases c2 : bIn d (nI 1) (nI 8) = 0
    · rw [if_pos c2, if_pos c2]
      exact ⟨st, N, rfl, Wr.rf, hN, by omega⟩
    · rw [if_neg c2, if_neg c2]
      obtain ⟨d, hd1, hd3, rfl⟩ := bIn_lh (by omega) (by omega) c2
      rw [nI_clamp (by omega)]
      obtain ⟨st', N', e, w', g', n', l'⟩ := f_tour26 (G := G) (b := b) (h0 := h0) (nx := nx) (w := w) hB hd1 hd3 nt 0 fuelL st N (by omega) (by unfold fuelL; omega) Wr.rf (fun j hj => by omega) hN (by omega)
      have a1 : ma st' 1 1 = nI nt := by rw [w'.s]; exact hB.1.1
      have e2 := f_tour62 (G := G) (b := b) (h0 := h0) (nx := nx) (w := w) a1 hn g' (2 ^ nt - 1) 0 fuelL (by omega) (by unfold fuelL; omega)
      rw [w'.s] at e2
      exact ⟨st', N', e.trans e2, w', n', by omega⟩
/-- the first greatest, one of them with another worth -/
def foV (W : Nat → Int32) (who : Nat) (x : Int32) (i : Nat) : Int32 := if i = who then x else W i
def foF (W : Nat → Int32) (who : Nat) (x : Int32) : Nat → Nat
  | 0 => 0
  | t + 1 => if foV W who x t ≤ foV W who x (foF W who x t) then foF W who x t else t
theorem fo_lt {W : Nat → Int32} {who : Nat} {x : Int32} : ∀ {t : Nat}, foF W who x t ≤ t
  | 0 => Nat.le_refl _
  | t + 1 => by
    have ih := fo_lt (W := W) (who := who) (x := x) (t := t)
    unfold foF
    split <;> omega
set_option maxRecDepth 100000 in
set_option maxHeartbeats 4000000 in
theorem f_first5 {st : MS} {nt who : Nat} {x : Int32} {W : Nat → Int32} (h1 : ma st 1 1 = nI nt) (hn : nt ≤ 8) (hw : who < nt) (hg : ∀ j, j < nt → ma st 21 j = W j) : ∀ (r t m : Nat), t + r = nt → r < m → F_X12_firstOf_5 G m (encM G b st h0) nx b (nI who) x (nI (foF W who x t)) (nI t) = some (nI (foF W who x nt), encM G b st h0, nx) := by
  intro r
  induction r with
  | zero =>
    intro t m hr hm
    obtain ⟨m, rfl⟩ : ∃ q, m = q + 1 := ⟨m - 1, by omega⟩
    have hr : t = nt := by omega
    subst hr
    rw [F_X12_firstOf_5_s]
    simp (maxSteps := 3000000) (disch := omega) only [h1, ma_msa_n, ma_msa_s, mi_msi_n, mi_msi_s, ml_msl_n, ml_msl_s, ma_msi, ma_msl, mi_msa, mi_msl, ml_msa, ml_msi, msa_msa, msi_msi, msl_msl, ck_m, gf_s, gf_image, gf_truths, gf_knownRow, gf_daysRow, gf_bests, gf_nots, gf_lookeds, gf_bestsAt, gf_worths, gf_keptKnown, gf_keptDays, gf_round, gf_sums, gf_bestRound, gf_bodies, gf_thrown, gf_hasImage, gf_act, gf_spot, gf_size, gf_isWrong, gf_open, gf_edgeThing, gf_edgeMore, gf_stamp, gf_whose, gf_wage, gf_roundMany, gf_bestSet, gf_ran, gf_kind, gf_who, gf_tellsV, pf_thrown, pf_hasImage, pf_act, pf_spot, pf_size, pf_isWrong, pf_open, pf_edgeThing, pf_edgeMore, pf_stamp, pf_whose, pf_wage, pf_roundMany, pf_bestSet, pf_ran, pf_kind, pf_who, pf_tellsV, al_s, as_s, al_image, as_image, al_truths, as_truths0, as_truths1, al_knownRow, as_knownRow, al_daysRow, as_daysRow, al_bests, as_bests, al_nots, as_nots, al_lookeds, as_lookeds, al_bestsAt, as_bestsAt, al_worths, as_worths, al_keptKnown, as_keptKnown, al_keptDays, as_keptDays, al_round, as_round, al_sums, as_sums, al_bestRound, as_bestRound, al_bodies, as_bodies, cl_some, nm_b, nn_some, qn_some, qn_none, zk_0, zk_1, zk_n0, zk_n1, nI_add, pk_mul, pk_sub, nI_leE, nI_ltE, nI_eqE, nI_lt0, nI_ge0, nI_eq0, nI_gt0, nI_le0, ilt_t, ilt_f, ile_t, ile_f, ieq_t, ieq_f, if_tt, if_ff, Nat.add_sub_cancel]
  | succ r ih =>
    intro t m hr hm
    obtain ⟨m, rfl⟩ : ∃ q, m = q + 1 := ⟨m - 1, by omega⟩
    have go := ih (t + 1) m (by omega) (by omega)
    have e : foF W who x (t + 1) = if foV W who x t ≤ foV W who x (foF W who x t) then foF W who x t else t := rfl
    have hlt := fo_lt (W := W) (who := who) (x := x) (t := t)
    generalize foF W who x t = f at e hlt ⊢
    have gt := hg t (by omega)
    have gf := hg f (by omega)
    rw [F_X12_firstOf_5_s]
    unfold F_X12_firstOf_33 F_X12_firstOf_50 F_X12_firstOf_65
    have e2 : ∀ (i : Nat), i < nt → foV W who x i = if nI i = nI who then x else W i := fun i hi => by
      unfold foV
      by_cases c : i = who
      · rw [if_pos c, if_pos (by rw [c])]
      · rw [if_neg c, if_neg (fun q => c ((nI_eq (by omega) (by omega)).mp q))]
    simp (maxSteps := 3000000) (disch := omega) only [h1, gt, gf, ma_msa_n, ma_msa_s, mi_msi_n, mi_msi_s, ml_msl_n, ml_msl_s, ma_msi, ma_msl, mi_msa, mi_msl, ml_msa, ml_msi, msa_msa, msi_msi, msl_msl, ck_m, gf_s, gf_image, gf_truths, gf_knownRow, gf_daysRow, gf_bests, gf_nots, gf_lookeds, gf_bestsAt, gf_worths, gf_keptKnown, gf_keptDays, gf_round, gf_sums, gf_bestRound, gf_bodies, gf_thrown, gf_hasImage, gf_act, gf_spot, gf_size, gf_isWrong, gf_open, gf_edgeThing, gf_edgeMore, gf_stamp, gf_whose, gf_wage, gf_roundMany, gf_bestSet, gf_ran, gf_kind, gf_who, gf_tellsV, pf_thrown, pf_hasImage, pf_act, pf_spot, pf_size, pf_isWrong, pf_open, pf_edgeThing, pf_edgeMore, pf_stamp, pf_whose, pf_wage, pf_roundMany, pf_bestSet, pf_ran, pf_kind, pf_who, pf_tellsV, al_s, as_s, al_image, as_image, al_truths, as_truths0, as_truths1, al_knownRow, as_knownRow, al_daysRow, as_daysRow, al_bests, as_bests, al_nots, as_nots, al_lookeds, as_lookeds, al_bestsAt, as_bestsAt, al_worths, as_worths, al_keptKnown, as_keptKnown, al_keptDays, as_keptDays, al_round, as_round, al_sums, as_sums, al_bestRound, as_bestRound, al_bodies, as_bodies, cl_some, nm_b, nn_some, qn_some, qn_none, zk_0, zk_1, zk_n0, zk_n1, nI_add, pk_mul, pk_sub, nI_leE, nI_ltE, nI_eqE, nI_lt0, nI_ge0, nI_eq0, nI_gt0, nI_le0, ilt_t, ilt_f, ile_t, ile_f, ieq_t, ieq_f, if_tt, if_ff, Nat.add_sub_cancel]
    by_cases c1 : t = who
    · have v1 : foV W who x t = x := if_pos c1
      rw [v1] at e
      rw [if_pos c1]
      by_cases c2 : f = who
      · have v2 : foV W who x f = x := if_pos c2
        rw [v2] at e
        rw [if_pos c2]
        by_cases c3 : x ≤ x
        · rw [if_pos c3]
          rw [e, if_pos c3] at go
          exact go
        · rw [if_neg c3]
          rw [e, if_neg c3] at go
          exact go
      · have v2 : foV W who x f = W f := if_neg c2
        rw [v2] at e
        rw [if_neg c2]
        by_cases c3 : x ≤ W f
        · rw [if_pos c3]
          rw [e, if_pos c3] at go
          exact go
        · rw [if_neg c3]
          rw [e, if_neg c3] at go
          exact go
    · have v1 : foV W who x t = W t := if_neg c1
      rw [v1] at e
      rw [if_neg c1]
      by_cases c2 : f = who
      · have v2 : foV W who x f = x := if_pos c2
        rw [v2] at e
        rw [if_pos c2]
        by_cases c3 : W t ≤ x
        · rw [if_pos c3]
          rw [e, if_pos c3] at go
          exact go
        · rw [if_neg c3]
          rw [e, if_neg c3] at go
          exact go
      · have v2 : foV W who x f = W f := if_neg c2
        rw [v2] at e
        rw [if_neg c2]
        by_cases c3 : W t ≤ W f
        · rw [if_pos c3]
          rw [e, if_pos c3] at go
          exact go
        · rw [if_neg c3]
          rw [e, if_neg c3] at go
          exact go
theorem f_firstOf {st : MS} {nt who : Nat} {x : Int32} {W : Nat → Int32} (h1 : ma st 1 1 = nI nt) (hn : nt ≤ 8) (hw : who < nt) (hg : ∀ j, j < nt → ma st 21 j = W j) : F_X12_firstOf G (encM G b st h0) nx b (nI who) x = some (nI (foF W who x nt), encM G b st h0, nx) := f_first5 h1 hn hw hg nt 0 fuelL (by omega) (by unfold fuelL; omega)
end N3
