/-! THE REFERENCE: a bound for all -/
def bdI (nt lk n w : Nat) : Int64 := -1000 * (nI w).toInt64 * (nI n).toInt64 * (nI nt - nI lk).toInt64
def bdS (st : MS) (nt lk n : Nat) : Nat → Nat → Int64
  | 0, w => bdI nt lk n w
  | t + 1, w => bdS st nt lk n t w + (bP (msi (rwS st t) 20 (nI w)) t n 0).1
def bdM (f : Nat → Int64) : Nat → Int64
  | 0 => f 0
  | w + 1 => if bdM f w ≤ f (w + 1) then bdM f w else f (w + 1)
theorem rowK_fr {st st1 : MS} {ks : List Nat} (h : FrM ks st st1) (h1 : 1 ∉ ks) (h2 : 10 ∉ ks) (h3 : 11 ∉ ks) {t kk : Nat} : ∀ j : Nat, rowK st1 t kk j = rowK st t kk j
  | 0 => by
    unfold rowK rowSt
    rw [h.ofa 1 h1, overF_fr h h1 h2 h3]
  | j + 1 => by
    unfold rowK
    rw [rowK_fr h h1 h2 h3 j, overF_fr h h1 h2 h3]
section N2
variable {G : Gx} {b : Nat} {h0 : Hp} {nx : Nat}
set_option maxRecDepth 100000 in
set_option maxHeartbeats 4000000 in
theorem f_bd16 {st : MS} {nt lk n : Nat} (hL : LkOk (ma st 1) nt lk) : ∀ (r w m : Nat) (g : Nat → Int64), w + r = 201 → r < m → (∀ j, j < w → g j = bdI nt lk n j) → ∃ g' : Nat → Int64, F_X12_bound_16 G m (encM G b (msl st 27 g) h0) nx b (nI n) (nI w) = F_X12_bound_59 G fuelL (encM G b (msl st 27 g') h0) nx b (nI n) (nI 0) ∧ (∀ j, j < 201 → g' j = bdI nt lk n j) := by
  obtain ⟨h1, hn, h3, h4⟩ := hL
  intro r
  induction r with
  | zero =>
    intro w m g hr hm hg
    obtain ⟨m, rfl⟩ : ∃ q, m = q + 1 := ⟨m - 1, by omega⟩
    have hr : w = 201 := by omega
    subst hr
    refine ⟨g, ?_, hg⟩
    rw [F_X12_bound_16_s]
    simp (maxSteps := 3000000) (disch := omega) only [ma_msa_n, ma_msa_s, mi_msi_n, mi_msi_s, ml_msl_n, ml_msl_s, ma_msi, ma_msl, mi_msa, mi_msl, ml_msa, ml_msi, msa_msa, msi_msi, msl_msl, ck_m, gf_s, gf_image, gf_truths, gf_knownRow, gf_daysRow, gf_bests, gf_nots, gf_lookeds, gf_bestsAt, gf_worths, gf_keptKnown, gf_keptDays, gf_round, gf_sums, gf_bestRound, gf_bodies, gf_thrown, gf_hasImage, gf_act, gf_spot, gf_size, gf_isWrong, gf_open, gf_edgeThing, gf_edgeMore, gf_stamp, gf_whose, gf_wage, gf_roundMany, gf_bestSet, gf_ran, gf_kind, gf_who, gf_tellsV, pf_thrown, pf_hasImage, pf_act, pf_spot, pf_size, pf_isWrong, pf_open, pf_edgeThing, pf_edgeMore, pf_stamp, pf_whose, pf_wage, pf_roundMany, pf_bestSet, pf_ran, pf_kind, pf_who, pf_tellsV, al_s, as_s, al_image, as_image, al_truths, as_truths0, as_truths1, al_knownRow, as_knownRow, al_daysRow, as_daysRow, al_bests, as_bests, al_nots, as_nots, al_lookeds, as_lookeds, al_bestsAt, as_bestsAt, al_worths, as_worths, al_keptKnown, as_keptKnown, al_keptDays, as_keptDays, al_round, as_round, al_sums, as_sums, al_bestRound, as_bestRound, al_bodies, as_bodies, cl_some, nm_b, nn_some, qn_some, qn_none, zk_0, zk_1, zk_n0, zk_n1, nI_add, pk_mul, pk_sub, nI_leE, nI_ltE, nI_eqE, nI_lt0, nI_ge0, nI_eq0, nI_gt0, nI_le0, ilt_t, ilt_f, ile_t, ile_f, ieq_t, ieq_f, if_tt, if_ff, Nat.add_sub_cancel]
  | succ r ih =>
    intro w m g hr hm hg
    obtain ⟨m, rfl⟩ : ∃ q, m = q + 1 := ⟨m - 1, by omega⟩
    obtain ⟨g', e, q⟩ := ih (w + 1) m (upK g w (bdI nt lk n w)) (by omega) (by omega) (fun j hj => by
      by_cases c : j = w
      · subst c
        exact upK_s
      · rw [upK_n c]
        exact hg j (by omega))
    refine ⟨g', ?_, q⟩
    rw [← e, F_X12_bound_16_s]
    unfold bdI
    simp (maxSteps := 3000000) (disch := omega) only [h1, f_looking, h3, ma_msa_n, ma_msa_s, mi_msi_n, mi_msi_s, ml_msl_n, ml_msl_s, ma_msi, ma_msl, mi_msa, mi_msl, ml_msa, ml_msi, msa_msa, msi_msi, msl_msl, ck_m, gf_s, gf_image, gf_truths, gf_knownRow, gf_daysRow, gf_bests, gf_nots, gf_lookeds, gf_bestsAt, gf_worths, gf_keptKnown, gf_keptDays, gf_round, gf_sums, gf_bestRound, gf_bodies, gf_thrown, gf_hasImage, gf_act, gf_spot, gf_size, gf_isWrong, gf_open, gf_edgeThing, gf_edgeMore, gf_stamp, gf_whose, gf_wage, gf_roundMany, gf_bestSet, gf_ran, gf_kind, gf_who, gf_tellsV, pf_thrown, pf_hasImage, pf_act, pf_spot, pf_size, pf_isWrong, pf_open, pf_edgeThing, pf_edgeMore, pf_stamp, pf_whose, pf_wage, pf_roundMany, pf_bestSet, pf_ran, pf_kind, pf_who, pf_tellsV, al_s, as_s, al_image, as_image, al_truths, as_truths0, as_truths1, al_knownRow, as_knownRow, al_daysRow, as_daysRow, al_bests, as_bests, al_nots, as_nots, al_lookeds, as_lookeds, al_bestsAt, as_bestsAt, al_worths, as_worths, al_keptKnown, as_keptKnown, al_keptDays, as_keptDays, al_round, as_round, al_sums, as_sums, al_bestRound, as_bestRound, al_bodies, as_bodies, cl_some, nm_b, nn_some, qn_some, qn_none, zk_0, zk_1, zk_n0, zk_n1, nI_add, pk_mul, pk_sub, nI_leE, nI_ltE, nI_eqE, nI_lt0, nI_ge0, nI_eq0, nI_gt0, nI_le0, ilt_t, ilt_f, ile_t, ile_f, ieq_t, ieq_f, if_tt, if_ff, Nat.add_sub_cancel]
set_option maxRecDepth 100000 in
set_option maxHeartbeats 4000000 in
theorem f_bd76 {S : MS} {nt np lk td n t : Nat} {k59 : Hp → Nat → Nat → Int32 → Int32 → Rz Int64} (hB : BOk S nt np lk td) (ht0 : t < nt) (hn8 : n ≤ 8) : ∀ (r w m : Nat) (st : MS) (N : Nat), w + r = 201 → r < m → Wr S (ma S 1) st → mi st 19 = nI t → (∀ i, i < 27 → ma st 12 i = (rowK S t (i / 9) (i % 9)).1) → (∀ j, j < 201 → ml st 27 j = if j < w then bdS S nt lk n (t + 1) j else bdS S nt lk n t j) → StOk st N → N + r < 2 ^ 31 → ∃ (st' : MS), F_X12_bound_76 G k59 m (encM G b st h0) nx b (nI n) (nI t) (nI w) = k59 (encM G b st' h0) nx b (nI n) (nI (t + 1)) ∧ Wr S (ma S 1) st' ∧ (∀ j, j < 201 → ml st' 27 j = bdS S nt lk n (t + 1) j) ∧ StOk st' (N + r) := by
  obtain ⟨hL, hl3, ht, h2, hnp, hpr, h3, htd⟩ := hB
  have hn := hL.2.1
  intro r
  induction r with
  | zero =>
    intro w m st N hr hm hW h19 h12 hg hN hb
    obtain ⟨m, rfl⟩ : ∃ q, m = q + 1 := ⟨m - 1, by omega⟩
    have hr : w = 201 := by omega
    subst hr
    refine ⟨st, ?_, hW, fun j hj => by rw [hg j hj, if_pos hj], hN⟩
    rw [F_X12_bound_76_s]
    simp (maxSteps := 3000000) (disch := omega) only [ma_msa_n, ma_msa_s, mi_msi_n, mi_msi_s, ml_msl_n, ml_msl_s, ma_msi, ma_msl, mi_msa, mi_msl, ml_msa, ml_msi, msa_msa, msi_msi, msl_msl, ck_m, gf_s, gf_image, gf_truths, gf_knownRow, gf_daysRow, gf_bests, gf_nots, gf_lookeds, gf_bestsAt, gf_worths, gf_keptKnown, gf_keptDays, gf_round, gf_sums, gf_bestRound, gf_bodies, gf_thrown, gf_hasImage, gf_act, gf_spot, gf_size, gf_isWrong, gf_open, gf_edgeThing, gf_edgeMore, gf_stamp, gf_whose, gf_wage, gf_roundMany, gf_bestSet, gf_ran, gf_kind, gf_who, gf_tellsV, pf_thrown, pf_hasImage, pf_act, pf_spot, pf_size, pf_isWrong, pf_open, pf_edgeThing, pf_edgeMore, pf_stamp, pf_whose, pf_wage, pf_roundMany, pf_bestSet, pf_ran, pf_kind, pf_who, pf_tellsV, al_s, as_s, al_image, as_image, al_truths, as_truths0, as_truths1, al_knownRow, as_knownRow, al_daysRow, as_daysRow, al_bests, as_bests, al_nots, as_nots, al_lookeds, as_lookeds, al_bestsAt, as_bestsAt, al_worths, as_worths, al_keptKnown, as_keptKnown, al_keptDays, as_keptDays, al_round, as_round, al_sums, as_sums, al_bestRound, as_bestRound, al_bodies, as_bodies, cl_some, nm_b, nn_some, qn_some, qn_none, zk_0, zk_1, zk_n0, zk_n1, nI_add, pk_mul, pk_sub, nI_leE, nI_ltE, nI_eqE, nI_lt0, nI_ge0, nI_eq0, nI_gt0, nI_le0, ilt_t, ilt_f, ile_t, ile_f, ieq_t, ieq_f, if_tt, if_ff, Nat.add_sub_cancel]
  | succ r ih =>
    intro w m st N hr hm hW h19 h12 hg hN hb
    obtain ⟨m, rfl⟩ : ∃ q, m = q + 1 := ⟨m - 1, by omega⟩
    have hs := hW.s
    obtain ⟨st2, e2, f2, n2, _⟩ := f_bestBy (G := G) (b := b) (h0 := h0) (nx := nx) (st := st) (t := t) (n := n) (w := nI w) hn8 (by rw [hs]; exact ht t ht0) h19 hN (by omega)
    have ev : bP (msi st 20 (nI w)) t n 0 = bP (msi (rwS S t) 20 (nI w)) t n 0 := bP_cg (st := msi (rwS S t) 20 (nI w)) (st1 := msi st 20 (nI w)) hs (mi_msi_s.trans mi_msi_s.symm) (fun i hi => (h12 i hi).trans (congrFun (upK_s (f := S.2.1) (k := 12) (x := fun i => (rowK S t (i / 9) (i % 9)).1)) i).symm) n 0 (by omega) hn8
    rw [ev] at e2
    have g27 : ml st2 27 = ml st 27 := f2.ofl 27 (by decide)
    have gw : ml st 27 w = bdS S nt lk n t w := by rw [hg w (by omega), if_neg (by omega)]
    have W3 : Wr S (ma S 1) (msl st2 27 (upK (ml st2 27) w (bdS S nt lk n (t + 1) w))) := (hW.tr f2 (by decide)).tr (FrM.msl (k := 27) (ks := [27]) (by decide)) (by decide)
    obtain ⟨st', e, w', g', n'⟩ := ih (w + 1) m _ (N + 1) (by omega) (by omega) W3 ((f2.of1 19 (by decide)).trans h19) (fun i hi => by
      show ma st2 12 i = _
      rw [f2.ofa 12 (by decide)]
      exact h12 i hi) (fun j hj => by
      rw [ml_msl_s]
      by_cases c : j = w
      · subst c
        rw [upK_s, if_pos (by omega)]
      · rw [upK_n c, g27, hg j hj]
        by_cases c2 : j < w
        · rw [if_pos c2, if_pos (by omega)]
        · rw [if_neg c2, if_neg (by omega)]) (StOk_fr (FrM.msl (k := 27) (ks := [27]) (by decide)) (by decide) (by decide) n2) (by omega)
    refine ⟨st', ?_, w', g', by rw [show N + (r + 1) = N + 1 + r by omega]; exact n'⟩
    rw [← e, F_X12_bound_76_s]
    have eS : bdS S nt lk n (t + 1) w = bdS S nt lk n t w + (bP (msi (rwS S t) 20 (nI w)) t n 0).1 := rfl
    rw [eS]
    simp (maxSteps := 3000000) (disch := omega) only [e2, gw, g27, ma_msa_n, ma_msa_s, mi_msi_n, mi_msi_s, ml_msl_n, ml_msl_s, ma_msi, ma_msl, mi_msa, mi_msl, ml_msa, ml_msi, msa_msa, msi_msi, msl_msl, ck_m, gf_s, gf_image, gf_truths, gf_knownRow, gf_daysRow, gf_bests, gf_nots, gf_lookeds, gf_bestsAt, gf_worths, gf_keptKnown, gf_keptDays, gf_round, gf_sums, gf_bestRound, gf_bodies, gf_thrown, gf_hasImage, gf_act, gf_spot, gf_size, gf_isWrong, gf_open, gf_edgeThing, gf_edgeMore, gf_stamp, gf_whose, gf_wage, gf_roundMany, gf_bestSet, gf_ran, gf_kind, gf_who, gf_tellsV, pf_thrown, pf_hasImage, pf_act, pf_spot, pf_size, pf_isWrong, pf_open, pf_edgeThing, pf_edgeMore, pf_stamp, pf_whose, pf_wage, pf_roundMany, pf_bestSet, pf_ran, pf_kind, pf_who, pf_tellsV, al_s, as_s, al_image, as_image, al_truths, as_truths0, as_truths1, al_knownRow, as_knownRow, al_daysRow, as_daysRow, al_bests, as_bests, al_nots, as_nots, al_lookeds, as_lookeds, al_bestsAt, as_bestsAt, al_worths, as_worths, al_keptKnown, as_keptKnown, al_keptDays, as_keptDays, al_round, as_round, al_sums, as_sums, al_bestRound, as_bestRound, al_bodies, as_bodies, cl_some, nm_b, nn_some, qn_some, qn_none, zk_0, zk_1, zk_n0, zk_n1, nI_add, pk_mul, pk_sub, nI_leE, nI_ltE, nI_eqE, nI_lt0, nI_ge0, nI_eq0, nI_gt0, nI_le0, ilt_t, ilt_f, ile_t, ile_f, ieq_t, ieq_f, if_tt, if_ff, Nat.add_sub_cancel]
set_option maxRecDepth 100000 in
set_option maxHeartbeats 4000000 in
theorem f_bd120 {st : MS} {f : Nat → Int64} (hf : ∀ j, j < 201 → ml st 27 j = f j) : ∀ (r w m : Nat), w + r = 200 → r < m → F_X12_bound_120 G m (encM G b st h0) nx b (bdM f w) (nI (w + 1)) = some (bdM f 200, encM G b st h0, nx) := by
  intro r
  induction r with
  | zero =>
    intro w m hr hm
    obtain ⟨m, rfl⟩ : ∃ q, m = q + 1 := ⟨m - 1, by omega⟩
    have hr : w = 200 := by omega
    subst hr
    rw [F_X12_bound_120_s]
    simp (maxSteps := 3000000) (disch := omega) only [ma_msa_n, ma_msa_s, mi_msi_n, mi_msi_s, ml_msl_n, ml_msl_s, ma_msi, ma_msl, mi_msa, mi_msl, ml_msa, ml_msi, msa_msa, msi_msi, msl_msl, ck_m, gf_s, gf_image, gf_truths, gf_knownRow, gf_daysRow, gf_bests, gf_nots, gf_lookeds, gf_bestsAt, gf_worths, gf_keptKnown, gf_keptDays, gf_round, gf_sums, gf_bestRound, gf_bodies, gf_thrown, gf_hasImage, gf_act, gf_spot, gf_size, gf_isWrong, gf_open, gf_edgeThing, gf_edgeMore, gf_stamp, gf_whose, gf_wage, gf_roundMany, gf_bestSet, gf_ran, gf_kind, gf_who, gf_tellsV, pf_thrown, pf_hasImage, pf_act, pf_spot, pf_size, pf_isWrong, pf_open, pf_edgeThing, pf_edgeMore, pf_stamp, pf_whose, pf_wage, pf_roundMany, pf_bestSet, pf_ran, pf_kind, pf_who, pf_tellsV, al_s, as_s, al_image, as_image, al_truths, as_truths0, as_truths1, al_knownRow, as_knownRow, al_daysRow, as_daysRow, al_bests, as_bests, al_nots, as_nots, al_lookeds, as_lookeds, al_bestsAt, as_bestsAt, al_worths, as_worths, al_keptKnown, as_keptKnown, al_keptDays, as_keptDays, al_round, as_round, al_sums, as_sums, al_bestRound, as_bestRound, al_bodies, as_bodies, cl_some, nm_b, nn_some, qn_some, qn_none, zk_0, zk_1, zk_n0, zk_n1, nI_add, pk_mul, pk_sub, nI_leE, nI_ltE, nI_eqE, nI_lt0, nI_ge0, nI_eq0, nI_gt0, nI_le0, ilt_t, ilt_f, ile_t, ile_f, ieq_t, ieq_f, if_tt, if_ff, Nat.add_sub_cancel]
  | succ r ih =>
    intro w m hr hm
    obtain ⟨m, rfl⟩ : ∃ q, m = q + 1 := ⟨m - 1, by omega⟩
    have go := ih (w + 1) m (by omega) (by omega)
    have e : bdM f (w + 1) = if bdM f w ≤ f (w + 1) then bdM f w else f (w + 1) := rfl
    have e1 := hf (w + 1) (by omega)
    rw [F_X12_bound_120_s]
    unfold F_X12_bound_151
    simp (maxSteps := 3000000) (disch := omega) only [e1, ma_msa_n, ma_msa_s, mi_msi_n, mi_msi_s, ml_msl_n, ml_msl_s, ma_msi, ma_msl, mi_msa, mi_msl, ml_msa, ml_msi, msa_msa, msi_msi, msl_msl, ck_m, gf_s, gf_image, gf_truths, gf_knownRow, gf_daysRow, gf_bests, gf_nots, gf_lookeds, gf_bestsAt, gf_worths, gf_keptKnown, gf_keptDays, gf_round, gf_sums, gf_bestRound, gf_bodies, gf_thrown, gf_hasImage, gf_act, gf_spot, gf_size, gf_isWrong, gf_open, gf_edgeThing, gf_edgeMore, gf_stamp, gf_whose, gf_wage, gf_roundMany, gf_bestSet, gf_ran, gf_kind, gf_who, gf_tellsV, pf_thrown, pf_hasImage, pf_act, pf_spot, pf_size, pf_isWrong, pf_open, pf_edgeThing, pf_edgeMore, pf_stamp, pf_whose, pf_wage, pf_roundMany, pf_bestSet, pf_ran, pf_kind, pf_who, pf_tellsV, al_s, as_s, al_image, as_image, al_truths, as_truths0, as_truths1, al_knownRow, as_knownRow, al_daysRow, as_daysRow, al_bests, as_bests, al_nots, as_nots, al_lookeds, as_lookeds, al_bestsAt, as_bestsAt, al_worths, as_worths, al_keptKnown, as_keptKnown, al_keptDays, as_keptDays, al_round, as_round, al_sums, as_sums, al_bestRound, as_bestRound, al_bodies, as_bodies, cl_some, nm_b, nn_some, qn_some, qn_none, zk_0, zk_1, zk_n0, zk_n1, nI_add, pk_mul, pk_sub, nI_leE, nI_ltE, nI_eqE, nI_lt0, nI_ge0, nI_eq0, nI_gt0, nI_le0, ilt_t, ilt_f, ile_t, ile_f, ieq_t, ieq_f, if_tt, if_ff, Nat.add_sub_cancel]
    by_cases c : bdM f w ≤ f (w + 1)
    · rw [if_pos ((lg_cmp_ge _ _).mpr c)]
      rw [e, if_pos c] at go
      exact go
    · rw [if_neg (fun q => c ((lg_cmp_ge _ _).mp q))]
      rw [e, if_neg c] at go
      exact go
set_option maxRecDepth 100000 in
set_option maxHeartbeats 4000000 in
theorem f_bd59 {S : MS} {nt np lk td n : Nat} (hB : BOk S nt np lk td) (hn8 : n ≤ 8) : ∀ (r t m : Nat) (st : MS) (N : Nat), t + r = nt → r < m → Wr S (ma S 1) st → (∀ j, j < 201 → ml st 27 j = bdS S nt lk n t j) → StOk st N → N + 201 * r < 2 ^ 31 → ∃ (st' : MS), F_X12_bound_59 G m (encM G b st h0) nx b (nI n) (nI t) = some (bdM (bdS S nt lk n nt) 200, encM G b st' h0, nx) ∧ Wr S (ma S 1) st' ∧ StOk st' (N + 201 * r) := by
  have hB0 := hB
  obtain ⟨hL, hl3, ht, h2, hnp, hpr, h3, htd⟩ := hB
  have hn := hL.2.1
  intro r
  induction r with
  | zero =>
    intro t m st N hr hm hW hg hN hb
    obtain ⟨m, rfl⟩ : ∃ q, m = q + 1 := ⟨m - 1, by omega⟩
    have hr : t = nt := by omega
    subst hr
    have hs := hW.s
    have a1 : ma st 1 1 = nI t := by rw [hs]; exact hL.1
    refine ⟨st, ?_, hW, hN⟩
    have e := f_bd120 (G := G) (b := b) (h0 := h0) (nx := nx) hg 200 0 fuelL (by omega) (by unfold fuelL; omega)
    rw [show bdM (bdS S t lk n t) 0 = ml st 27 0 from (hg 0 (by omega)).symm] at e
    rw [F_X12_bound_59_s]
    simp (maxSteps := 3000000) (disch := omega) only [a1, ma_msa_n, ma_msa_s, mi_msi_n, mi_msi_s, ml_msl_n, ml_msl_s, ma_msi, ma_msl, mi_msa, mi_msl, ml_msa, ml_msi, msa_msa, msi_msi, msl_msl, ck_m, gf_s, gf_image, gf_truths, gf_knownRow, gf_daysRow, gf_bests, gf_nots, gf_lookeds, gf_bestsAt, gf_worths, gf_keptKnown, gf_keptDays, gf_round, gf_sums, gf_bestRound, gf_bodies, gf_thrown, gf_hasImage, gf_act, gf_spot, gf_size, gf_isWrong, gf_open, gf_edgeThing, gf_edgeMore, gf_stamp, gf_whose, gf_wage, gf_roundMany, gf_bestSet, gf_ran, gf_kind, gf_who, gf_tellsV, pf_thrown, pf_hasImage, pf_act, pf_spot, pf_size, pf_isWrong, pf_open, pf_edgeThing, pf_edgeMore, pf_stamp, pf_whose, pf_wage, pf_roundMany, pf_bestSet, pf_ran, pf_kind, pf_who, pf_tellsV, al_s, as_s, al_image, as_image, al_truths, as_truths0, as_truths1, al_knownRow, as_knownRow, al_daysRow, as_daysRow, al_bests, as_bests, al_nots, as_nots, al_lookeds, as_lookeds, al_bestsAt, as_bestsAt, al_worths, as_worths, al_keptKnown, as_keptKnown, al_keptDays, as_keptDays, al_round, as_round, al_sums, as_sums, al_bestRound, as_bestRound, al_bodies, as_bodies, cl_some, nm_b, nn_some, qn_some, qn_none, zk_0, zk_1, zk_n0, zk_n1, nI_add, pk_mul, pk_sub, nI_leE, nI_ltE, nI_eqE, nI_lt0, nI_ge0, nI_eq0, nI_gt0, nI_le0, ilt_t, ilt_f, ile_t, ile_f, ieq_t, ieq_f, if_tt, if_ff, Nat.add_sub_cancel]
    exact e
  | succ r ih =>
    intro t m st N hr hm hW hg hN hb
    obtain ⟨m, rfl⟩ : ∃ q, m = q + 1 := ⟨m - 1, by omega⟩
    have hs := hW.s
    have a1 : ma st 1 1 = nI nt := by rw [hs]; exact hL.1
    obtain ⟨st1, e1, f1, w1, r1⟩ := f_rowsOf (G := G) (b := b) (h0 := h0) (nx := nx) (st := st) (t := t) (by rw [hs]; exact ht t (by omega))
    have W1 := hW.tr f1 (by decide)
    have hWS : FrM KS S st := by
      have := hW.fr
      rw [msa_self] at this
      exact this
    obtain ⟨st2, e2, w2, g2, n2⟩ := f_bd76 (G := G) (b := b) (h0 := h0) (nx := nx) (k59 := F_X12_bound_59 G m) hB0 (show t < nt by omega) hn8 201 0 fuelL st1 N (by omega) (by unfold fuelL; omega) W1 w1 (fun i hi => by
      have := (r1 (i / 9) (i % 9) (by omega) (by omega)).1
      rw [show 9 * (i / 9) + i % 9 = i by omega, rowK_fr hWS (by decide) (by decide) (by decide)] at this
      exact this) (fun j hj => by rw [f1.ofl 27 (by decide), hg j hj, if_neg (by omega)]) (StOk_fr f1 (by decide) (by decide) hN) (by omega)
    obtain ⟨st', e, w', n'⟩ := ih (t + 1) m st2 (N + 201) (by omega) (by omega) w2 g2 n2 (by omega)
    refine ⟨st', ?_, w', by rw [show N + 201 * (r + 1) = N + 201 + 201 * r by omega]; exact n'⟩
    rw [F_X12_bound_59_s]
    simp (maxSteps := 3000000) (disch := omega) only [a1, e1, e2, ma_msa_n, ma_msa_s, mi_msi_n, mi_msi_s, ml_msl_n, ml_msl_s, ma_msi, ma_msl, mi_msa, mi_msl, ml_msa, ml_msi, msa_msa, msi_msi, msl_msl, ck_m, gf_s, gf_image, gf_truths, gf_knownRow, gf_daysRow, gf_bests, gf_nots, gf_lookeds, gf_bestsAt, gf_worths, gf_keptKnown, gf_keptDays, gf_round, gf_sums, gf_bestRound, gf_bodies, gf_thrown, gf_hasImage, gf_act, gf_spot, gf_size, gf_isWrong, gf_open, gf_edgeThing, gf_edgeMore, gf_stamp, gf_whose, gf_wage, gf_roundMany, gf_bestSet, gf_ran, gf_kind, gf_who, gf_tellsV, pf_thrown, pf_hasImage, pf_act, pf_spot, pf_size, pf_isWrong, pf_open, pf_edgeThing, pf_edgeMore, pf_stamp, pf_whose, pf_wage, pf_roundMany, pf_bestSet, pf_ran, pf_kind, pf_who, pf_tellsV, al_s, as_s, al_image, as_image, al_truths, as_truths0, as_truths1, al_knownRow, as_knownRow, al_daysRow, as_daysRow, al_bests, as_bests, al_nots, as_nots, al_lookeds, as_lookeds, al_bestsAt, as_bestsAt, al_worths, as_worths, al_keptKnown, as_keptKnown, al_keptDays, as_keptDays, al_round, as_round, al_sums, as_sums, al_bestRound, as_bestRound, al_bodies, as_bodies, cl_some, nm_b, nn_some, qn_some, qn_none, zk_0, zk_1, zk_n0, zk_n1, nI_add, pk_mul, pk_sub, nI_leE, nI_ltE, nI_eqE, nI_lt0, nI_ge0, nI_eq0, nI_gt0, nI_le0, ilt_t, ilt_f, ile_t, ile_f, ieq_t, ieq_f, if_tt, if_ff, Nat.add_sub_cancel]
    exact e
def boundF (S : MS) (nt lk : Nat) (d : Int32) : Int64 := if bIn d (nI 1) (nI 8) = 0 then noJ else bdM (bdS S nt lk d.toNatClampNeg nt) 200
set_option maxRecDepth 100000 in
set_option maxHeartbeats 4000000 in
theorem f_bound {st : MS} {nt np lk td N : Nat} (hB : BOk st nt np lk td) (hN : StOk st N) (hb : N + 1608 < 2 ^ 31) (d : Int32) : ∃ (st' : MS) (N' : Nat), F_X12_bound G (encM G b st h0) nx b d = some (boundF st nt lk d, encM G b st' h0, nx) ∧ Wr st (ma st 1) st' ∧ StOk st' N' ∧ N' ≤ N + 1608 := by
  have hn := hB.1.2.1
  unfold F_X12_bound boundF
  simp (maxSteps := 3000000) (disch := omega) only [f_in, ma_msa_n, ma_msa_s, mi_msi_n, mi_msi_s, ml_msl_n, ml_msl_s, ma_msi, ma_msl, mi_msa, mi_msl, ml_msa, ml_msi, msa_msa, msi_msi, msl_msl, ck_m, gf_s, gf_image, gf_truths, gf_knownRow, gf_daysRow, gf_bests, gf_nots, gf_lookeds, gf_bestsAt, gf_worths, gf_keptKnown, gf_keptDays, gf_round, gf_sums, gf_bestRound, gf_bodies, gf_thrown, gf_hasImage, gf_act, gf_spot, gf_size, gf_isWrong, gf_open, gf_edgeThing, gf_edgeMore, gf_stamp, gf_whose, gf_wage, gf_roundMany, gf_bestSet, gf_ran, gf_kind, gf_who, gf_tellsV, pf_thrown, pf_hasImage, pf_act, pf_spot, pf_size, pf_isWrong, pf_open, pf_edgeThing, pf_edgeMore, pf_stamp, pf_whose, pf_wage, pf_roundMany, pf_bestSet, pf_ran, pf_kind, pf_who, pf_tellsV, al_s, as_s, al_image, as_image, al_truths, as_truths0, as_truths1, al_knownRow, as_knownRow, al_daysRow, as_daysRow, al_bests, as_bests, al_nots, as_nots, al_lookeds, as_lookeds, al_bestsAt, as_bestsAt, al_worths, as_worths, al_keptKnown, as_keptKnown, al_keptDays, as_keptDays, al_round, as_round, al_sums, as_sums, al_bestRound, as_bestRound, al_bodies, as_bodies, cl_some, nm_b, nn_some, qn_some, qn_none, zk_0, zk_1, zk_n0, zk_n1, nI_add, pk_mul, pk_sub, nI_leE, nI_ltE, nI_eqE, nI_lt0, nI_ge0, nI_eq0, nI_gt0, nI_le0, ilt_t, ilt_f, ile_t, ile_f, ieq_t, ieq_f, if_tt, if_ff, Nat.add_sub_cancel]
  by_cases c1 : bIn d (nI 1) (nI 8) = 0
  · rw [if_pos c1, if_pos c1]
    exact ⟨st, N, rfl, Wr.rf, hN, by omega⟩
  · rw [if_neg c1, if_neg c1]
    obtain ⟨d, hd1, hd3, rfl⟩ := bIn_lh (by omega) (by omega) c1
    rw [nI_clamp (by omega)]
    obtain ⟨g, e1, q1⟩ := f_bd16 (G := G) (b := b) (h0 := h0) (nx := nx) (st := st) (n := d) hB.1 201 0 fuelL (ml st 27) (by omega) (by unfold fuelL; omega) (fun j hj => by omega)
    have ml_self : msl st 27 (ml st 27) = st := by
      obtain ⟨x, y, z⟩ := st
      unfold msl ml
      refine congrArg (fun z => (x, y, z)) (funext fun j => ?_)
      unfold upK
      split
      · rename_i e; rw [e]
      · rfl
    rw [ml_self] at e1
    obtain ⟨st', e, w', n'⟩ := f_bd59 (G := G) (b := b) (h0 := h0) (nx := nx) hB hd3 nt 0 fuelL (msl st 27 g) N (by omega) (by unfold fuelL; omega) (Wr.rf.tr (FrM.msl (k := 27) (ks := [27]) (by decide)) (by decide)) (fun j hj => by rw [ml_msl_s, q1 j hj]; rfl) (StOk_fr (FrM.msl (k := 27) (ks := [27]) (by decide)) (by decide) (by decide) hN) (by omega)
    exact ⟨st', _, e1.trans e, w', n', by omega⟩
end N2
