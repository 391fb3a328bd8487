/-! THE REFERENCE: an edge -/
theorem fr_cgi {ks : List Nat} {a b : MS} {j : Nat} {x : Int32} (h : FrM ks a b) : FrM ks (msi a j x) (msi b j x) := fun k hk => by
  obtain ⟨h1, h2, h3⟩ := h k hk
  refine ⟨?_, h2, h3⟩
  by_cases c : k = j
  · subst c
    rw [mi_msi_s, mi_msi_s]
  · rw [mi_msi_n c, mi_msi_n c]
    exact h1
theorem msi_self {st : MS} {k : Nat} : msi st k (mi st k) = st := by
  obtain ⟨a, b, c⟩ := st
  unfold msi mi
  refine congrArg (fun z => (z, b, c)) (funext fun j => ?_)
  unfold upK
  split
  · rename_i e; rw [e]
  · rfl
theorem msi_com {st : MS} {j k : Nat} {x y : Int32} (h : j ≠ k) : msi (msi st j x) k y = msi (msi st k y) j x := by
  obtain ⟨a, b, c⟩ := st
  unfold msi
  refine congrArg (fun z => (z, b, c)) (funext fun i => ?_)
  show upK (upK a j x) k y i = upK (upK a k y) j x i
  unfold upK
  by_cases c1 : i = j
  · subst c1
    rw [if_neg h, if_pos rfl, if_pos rfl]
  · by_cases c2 : i = k
    · subst c2
      rw [if_pos rfl, if_neg c1, if_pos rfl]
    · rw [if_neg c2, if_neg c1, if_neg c1, if_neg c2]
/-- the first by number when one has x more -/
def edG (S : MS) (n nt who : Nat) (x : Int32) : Nat := foF (toW S n) who (wgF (nmF (msi (msi S 10 (nI who)) 11 x) who n)) nt
def edX (S : MS) (n nt who first l5 : Nat) : Int32 :=
  if (if nI (edG S n nt who (-1 * nI l5)) = nI first then (nI 0) else -1 * nI l5) = 0 then (if nI (edG S n nt who (nI (1 * l5))) = nI first then nI 0 else nI (1 * l5)) else (if nI (edG S n nt who (-1 * nI l5)) = nI first then (nI 0) else -1 * nI l5)
def edL (S : MS) (n nt who first : Nat) : Nat → Nat → Int32
  | 0, _ => 0
  | r + 1, l5 => if edX S n nt who first l5 = 0 then edL S n nt who first r (l5 + 1) else edX S n nt who first l5
def edgeF (S : MS) (nt : Nat) (t d : Int32) : Int32 := if bIn t (nI 0) (ma S 1 1 - nI 1) = 0 then -1 else if bIn d (nI 1) (nI 4) = 0 then -2 else if nt = 1 then -3 else edL S d.toNatClampNeg nt t.toNatClampNeg (foF (toW S d.toNatClampNeg) t.toNatClampNeg (toW S d.toNatClampNeg t.toNatClampNeg) nt) 30 1
section N4
variable {G : Gx} {b : Nat} {h0 : Hp} {nx : Nat}
/-- in the search -/
def Re (S : MS) (who : Nat) (y : Int32) (st : MS) : Prop := FrM KS (msi (msi S 10 (nI who)) 11 y) st
theorem Re.s {S st : MS} {who : Nat} {y : Int32} (h : Re S who y st) : ma st 1 = ma S 1 := FrM.ofa h 1 (by decide)
theorem Re.up {S st : MS} {who : Nat} {y x : Int32} (h : Re S who y st) : Re S who x (msi st 11 x) := by
  have := fr_cgi (j := 11) (x := x) h
  rw [msi_msi] at this
  exact this
set_option maxRecDepth 100000 in
set_option maxHeartbeats 4000000 in
theorem f_ed103 {S : MS} {nt np lk td n who first l5 : Nat} {k88 : Hp → Nat → Nat → Int32 → Int32 → Int32 → Int32 → Int32 → Rz Int32} (hB : BOk S nt np lk td) (hn1 : 1 ≤ n) (hn4 : n ≤ 4) (hw : who < nt) (hl5 : l5 ≤ 30) (y : Int32) (st : MS) (N m : Nat) (hR : Re S who y st) (hg : ∀ j, j < nt → ma st 21 j = toW S n j) (hN : StOk st N) (hb : N + 402 < 2 ^ 31) : ∃ (y' : Int32) (st' : MS) (N' : Nat), F_X12_edge_103 G k88 (m + 4) (encM G b st h0) nx b (nI who) (nI n) (nI first) 0 (nI l5) (-1) = k88 (encM G b st' h0) nx b (nI who) (nI n) (nI first) (edX S n nt who first l5) (nI (l5 + 1)) ∧ Re S who y' st' ∧ (∀ j, j < nt → ma st' 21 j = toW S n j) ∧ StOk st' N' ∧ N' ≤ N + 402 := by
  obtain ⟨hL, hl3, ht, h2, hnp, hpr, h3, htd⟩ := hB
  have hn := hL.2.1
  have key : ∀ (x y : Int32) (st : MS) (N : Nat), Re S who y st → (∀ j, j < nt → ma st 21 j = toW S n j) → StOk st N → N + 201 < 2 ^ 31 → ∃ (st' : MS) (N' : Nat), F_X12_weight G (encM G b (msi st 11 x) h0) nx b (nI who) (nI n) = some (wgF (nmF (msi (msi S 10 (nI who)) 11 x) who n), encM G b st' h0, nx) ∧ F_X12_firstOf G (encM G b st' h0) nx b (nI who) (wgF (nmF (msi (msi S 10 (nI who)) 11 x) who n)) = some (nI (edG S n nt who x), encM G b st' h0, nx) ∧ Re S who x st' ∧ (∀ j, j < nt → ma st' 21 j = toW S n j) ∧ StOk st' N' ∧ N' ≤ N + 201 := by
    intro x y st N hR hg hN hb
    have hR1 := hR.up (x := x)
    obtain ⟨st2, N2, e2, f2, n2, l2⟩ := f_weight (G := G) (b := b) (h0 := h0) (nx := nx) (st := msi st 11 x) (t := who) (n := n) hn1 (by omega) (by rw [hR1.s]; exact ht who hw) (StOk_fr (FrM.msi (k := 11) (ks := [11]) (by decide)) (by decide) (by decide) hN) hb
    rw [nmF_fr hR1 (by decide) (by decide) (by decide) (by omega)] at e2
    have R2 : Re S who x st2 := (FrM.trans hR1 f2).mono (by decide)
    have g2 : ∀ j, j < nt → ma st2 21 j = toW S n j := fun j hj => by
      rw [f2.ofa 21 (by decide)]
      exact hg j hj
    exact ⟨st2, N2, e2, f_firstOf (by rw [R2.s]; exact hL.1) hn hw g2, R2, g2, n2, l2⟩
  obtain ⟨st1, N1, a1, a2, a3, a4, a5, a6⟩ := key (-1 * nI l5) y st N hR hg hN (by omega)
  unfold edX
  rw [F_X12_edge_103_s]
  unfold F_X12_edge_147 F_X12_edge_155
  rw [if_neg (show ¬ nI 2 ≤ (-1 : Int32) by decide), if_pos (show (0 : Int32) = 0 from rfl)]
  simp (maxSteps := 3000000) (disch := omega) only [a1, a2, ma_msa_n, ma_msa_s, mi_msi_n, mi_msi_s, ml_msl_n, ml_msl_s, ma_msi, ma_msl, mi_msa, mi_msl, ml_msa, ml_msi, msa_msa, msi_msi, msl_msl, ck_m, gf_s, gf_image, gf_truths, gf_knownRow, gf_daysRow, gf_bests, gf_nots, gf_lookeds, gf_bestsAt, gf_worths, gf_keptKnown, gf_keptDays, gf_round, gf_sums, gf_bestRound, gf_bodies, gf_thrown, gf_hasImage, gf_act, gf_spot, gf_size, gf_isWrong, gf_open, gf_edgeThing, gf_edgeMore, gf_stamp, gf_whose, gf_wage, gf_roundMany, gf_bestSet, gf_ran, gf_kind, gf_who, gf_tellsV, pf_thrown, pf_hasImage, pf_act, pf_spot, pf_size, pf_isWrong, pf_open, pf_edgeThing, pf_edgeMore, pf_stamp, pf_whose, pf_wage, pf_roundMany, pf_bestSet, pf_ran, pf_kind, pf_who, pf_tellsV, al_s, as_s, al_image, as_image, al_truths, as_truths0, as_truths1, al_knownRow, as_knownRow, al_daysRow, as_daysRow, al_bests, as_bests, al_nots, as_nots, al_lookeds, as_lookeds, al_bestsAt, as_bestsAt, al_worths, as_worths, al_keptKnown, as_keptKnown, al_keptDays, as_keptDays, al_round, as_round, al_sums, as_sums, al_bestRound, as_bestRound, al_bodies, as_bodies, cl_some, nm_b, nn_some, qn_some, qn_none, zk_0, zk_1, zk_n0, zk_n1, nI_add, pk_mul, pk_sub, nI_leE, nI_ltE, nI_eqE, nI_lt0, nI_ge0, nI_eq0, nI_gt0, nI_le0, ilt_t, ilt_f, ile_t, ile_f, ieq_t, ieq_f, if_tt, if_ff, Nat.add_sub_cancel]
  rw [show (-1 : Int32) + nI 2 = nI 1 by decide]
  have two : ∀ l4 : Int32, l4 = (if nI (edG S n nt who (-1 * nI l5)) = nI first then (nI 0) else -1 * nI l5) → ∃ (y' : Int32) (st' : MS) (N' : Nat), F_X12_edge_103 G k88 (m + 3) (encM G b st1 h0) nx b (nI who) (nI n) (nI first) l4 (nI l5) (nI 1) = k88 (encM G b st' h0) nx b (nI who) (nI n) (nI first) (if l4 = 0 then (if nI (edG S n nt who (nI (1 * l5))) = nI first then nI 0 else nI (1 * l5)) else l4) (nI (l5 + 1)) ∧ Re S who y' st' ∧ (∀ j, j < nt → ma st' 21 j = toW S n j) ∧ StOk st' N' ∧ N' ≤ N + 402 := by
    intro l4 _
    by_cases c : l4 = 0
    · obtain ⟨st2, N2, b1, b2, b3, b4, b5, b6⟩ := key (nI (1 * l5)) (-1 * nI l5) st1 N1 a3 a4 a5 (by omega)
      refine ⟨_, st2, N2, ?_, b3, b4, b5, by omega⟩
      rw [F_X12_edge_103_s]
      unfold F_X12_edge_147 F_X12_edge_155
      simp (maxSteps := 3000000) (disch := omega) only [b1, b2, ma_msa_n, ma_msa_s, mi_msi_n, mi_msi_s, ml_msl_n, ml_msl_s, ma_msi, ma_msl, mi_msa, mi_msl, ml_msa, ml_msi, msa_msa, msi_msi, msl_msl, ck_m, gf_s, gf_image, gf_truths, gf_knownRow, gf_daysRow, gf_bests, gf_nots, gf_lookeds, gf_bestsAt, gf_worths, gf_keptKnown, gf_keptDays, gf_round, gf_sums, gf_bestRound, gf_bodies, gf_thrown, gf_hasImage, gf_act, gf_spot, gf_size, gf_isWrong, gf_open, gf_edgeThing, gf_edgeMore, gf_stamp, gf_whose, gf_wage, gf_roundMany, gf_bestSet, gf_ran, gf_kind, gf_who, gf_tellsV, pf_thrown, pf_hasImage, pf_act, pf_spot, pf_size, pf_isWrong, pf_open, pf_edgeThing, pf_edgeMore, pf_stamp, pf_whose, pf_wage, pf_roundMany, pf_bestSet, pf_ran, pf_kind, pf_who, pf_tellsV, al_s, as_s, al_image, as_image, al_truths, as_truths0, as_truths1, al_knownRow, as_knownRow, al_daysRow, as_daysRow, al_bests, as_bests, al_nots, as_nots, al_lookeds, as_lookeds, al_bestsAt, as_bestsAt, al_worths, as_worths, al_keptKnown, as_keptKnown, al_keptDays, as_keptDays, al_round, as_round, al_sums, as_sums, al_bestRound, as_bestRound, al_bodies, as_bodies, cl_some, nm_b, nn_some, qn_some, qn_none, zk_0, zk_1, zk_n0, zk_n1, nI_add, pk_mul, pk_sub, nI_leE, nI_ltE, nI_eqE, nI_lt0, nI_ge0, nI_eq0, nI_gt0, nI_le0, ilt_t, ilt_f, ile_t, ile_f, ieq_t, ieq_f, if_tt, if_ff, Nat.add_sub_cancel]
      rw [if_pos c, if_pos c]
      by_cases c2 : nI (edG S n nt who (nI (1 * l5))) = nI first
      · rw [if_pos c2, if_pos c2, F_X12_edge_103_s]
        unfold F_X12_edge_155
        simp (maxSteps := 3000000) (disch := omega) only [ma_msa_n, ma_msa_s, mi_msi_n, mi_msi_s, ml_msl_n, ml_msl_s, ma_msi, ma_msl, mi_msa, mi_msl, ml_msa, ml_msi, msa_msa, msi_msi, msl_msl, ck_m, gf_s, gf_image, gf_truths, gf_knownRow, gf_daysRow, gf_bests, gf_nots, gf_lookeds, gf_bestsAt, gf_worths, gf_keptKnown, gf_keptDays, gf_round, gf_sums, gf_bestRound, gf_bodies, gf_thrown, gf_hasImage, gf_act, gf_spot, gf_size, gf_isWrong, gf_open, gf_edgeThing, gf_edgeMore, gf_stamp, gf_whose, gf_wage, gf_roundMany, gf_bestSet, gf_ran, gf_kind, gf_who, gf_tellsV, pf_thrown, pf_hasImage, pf_act, pf_spot, pf_size, pf_isWrong, pf_open, pf_edgeThing, pf_edgeMore, pf_stamp, pf_whose, pf_wage, pf_roundMany, pf_bestSet, pf_ran, pf_kind, pf_who, pf_tellsV, al_s, as_s, al_image, as_image, al_truths, as_truths0, as_truths1, al_knownRow, as_knownRow, al_daysRow, as_daysRow, al_bests, as_bests, al_nots, as_nots, al_lookeds, as_lookeds, al_bestsAt, as_bestsAt, al_worths, as_worths, al_keptKnown, as_keptKnown, al_keptDays, as_keptDays, al_round, as_round, al_sums, as_sums, al_bestRound, as_bestRound, al_bodies, as_bodies, cl_some, nm_b, nn_some, qn_some, qn_none, zk_0, zk_1, zk_n0, zk_n1, nI_add, pk_mul, pk_sub, nI_leE, nI_ltE, nI_eqE, nI_lt0, nI_ge0, nI_eq0, nI_gt0, nI_le0, ilt_t, ilt_f, ile_t, ile_f, ieq_t, ieq_f, if_tt, if_ff, Nat.add_sub_cancel]
      · rw [if_neg c2, if_neg c2, F_X12_edge_103_s]
        unfold F_X12_edge_155
        simp (maxSteps := 3000000) (disch := omega) only [ma_msa_n, ma_msa_s, mi_msi_n, mi_msi_s, ml_msl_n, ml_msl_s, ma_msi, ma_msl, mi_msa, mi_msl, ml_msa, ml_msi, msa_msa, msi_msi, msl_msl, ck_m, gf_s, gf_image, gf_truths, gf_knownRow, gf_daysRow, gf_bests, gf_nots, gf_lookeds, gf_bestsAt, gf_worths, gf_keptKnown, gf_keptDays, gf_round, gf_sums, gf_bestRound, gf_bodies, gf_thrown, gf_hasImage, gf_act, gf_spot, gf_size, gf_isWrong, gf_open, gf_edgeThing, gf_edgeMore, gf_stamp, gf_whose, gf_wage, gf_roundMany, gf_bestSet, gf_ran, gf_kind, gf_who, gf_tellsV, pf_thrown, pf_hasImage, pf_act, pf_spot, pf_size, pf_isWrong, pf_open, pf_edgeThing, pf_edgeMore, pf_stamp, pf_whose, pf_wage, pf_roundMany, pf_bestSet, pf_ran, pf_kind, pf_who, pf_tellsV, al_s, as_s, al_image, as_image, al_truths, as_truths0, as_truths1, al_knownRow, as_knownRow, al_daysRow, as_daysRow, al_bests, as_bests, al_nots, as_nots, al_lookeds, as_lookeds, al_bestsAt, as_bestsAt, al_worths, as_worths, al_keptKnown, as_keptKnown, al_keptDays, as_keptDays, al_round, as_round, al_sums, as_sums, al_bestRound, as_bestRound, al_bodies, as_bodies, cl_some, nm_b, nn_some, qn_some, qn_none, zk_0, zk_1, zk_n0, zk_n1, nI_add, pk_mul, pk_sub, nI_leE, nI_ltE, nI_eqE, nI_lt0, nI_ge0, nI_eq0, nI_gt0, nI_le0, ilt_t, ilt_f, ile_t, ile_f, ieq_t, ieq_f, if_tt, if_ff, Nat.add_sub_cancel]
    · refine ⟨_, st1, N1, ?_, a3, a4, a5, by omega⟩
      rw [F_X12_edge_103_s]
      unfold F_X12_edge_155
      simp (maxSteps := 3000000) (disch := omega) only [ma_msa_n, ma_msa_s, mi_msi_n, mi_msi_s, ml_msl_n, ml_msl_s, ma_msi, ma_msl, mi_msa, mi_msl, ml_msa, ml_msi, msa_msa, msi_msi, msl_msl, ck_m, gf_s, gf_image, gf_truths, gf_knownRow, gf_daysRow, gf_bests, gf_nots, gf_lookeds, gf_bestsAt, gf_worths, gf_keptKnown, gf_keptDays, gf_round, gf_sums, gf_bestRound, gf_bodies, gf_thrown, gf_hasImage, gf_act, gf_spot, gf_size, gf_isWrong, gf_open, gf_edgeThing, gf_edgeMore, gf_stamp, gf_whose, gf_wage, gf_roundMany, gf_bestSet, gf_ran, gf_kind, gf_who, gf_tellsV, pf_thrown, pf_hasImage, pf_act, pf_spot, pf_size, pf_isWrong, pf_open, pf_edgeThing, pf_edgeMore, pf_stamp, pf_whose, pf_wage, pf_roundMany, pf_bestSet, pf_ran, pf_kind, pf_who, pf_tellsV, al_s, as_s, al_image, as_image, al_truths, as_truths0, as_truths1, al_knownRow, as_knownRow, al_daysRow, as_daysRow, al_bests, as_bests, al_nots, as_nots, al_lookeds, as_lookeds, al_bestsAt, as_bestsAt, al_worths, as_worths, al_keptKnown, as_keptKnown, al_keptDays, as_keptDays, al_round, as_round, al_sums, as_sums, al_bestRound, as_bestRound, al_bodies, as_bodies, cl_some, nm_b, nn_some, qn_some, qn_none, zk_0, zk_1, zk_n0, zk_n1, nI_add, pk_mul, pk_sub, nI_leE, nI_ltE, nI_eqE, nI_lt0, nI_ge0, nI_eq0, nI_gt0, nI_le0, ilt_t, ilt_f, ile_t, ile_f, ieq_t, ieq_f, if_tt, if_ff, Nat.add_sub_cancel]
      rw [if_neg c, if_neg c]
  by_cases c : nI (edG S n nt who (-1 * nI l5)) = nI first
  · rw [if_pos c] at two
    rw [if_pos c, if_pos c]
    exact two _ rfl
  · rw [if_neg c] at two
    rw [if_neg c, if_neg c]
    exact two _ rfl
set_option maxRecDepth 100000 in
set_option maxHeartbeats 4000000 in
theorem f_ed88 {S : MS} {nt np lk td n who first : Nat} (hB : BOk S nt np lk td) (hn1 : 1 ≤ n) (hn4 : n ≤ 4) (hw : who < nt) : ∀ (r l5 m : Nat) (y : Int32) (st : MS) (N : Nat), l5 + r = 31 → r < m → Re S who y st → (∀ j, j < nt → ma st 21 j = toW S n j) → StOk st N → N + 402 * r < 2 ^ 31 → ∃ (y' : Int32) (st' : MS) (N' : Nat), F_X12_edge_88 G m (encM G b st h0) nx b (nI who) (nI n) (nI first) 0 (nI l5) = some (edL S n nt who first r l5, encM G b (msi st' 10 (-1)) h0, nx) ∧ Re S who y' st' ∧ StOk st' N' ∧ N' ≤ N + 402 * r := by
  intro r
  induction r with
  | zero =>
    intro l5 m y st N hr hm hR hg hN hb
    obtain ⟨m, rfl⟩ : ∃ q, m = q + 1 := ⟨m - 1, by omega⟩
    have hr : l5 = 31 := by omega
    subst hr
    refine ⟨y, st, N, ?_, hR, hN, by omega⟩
    rw [F_X12_edge_88_s]
    unfold F_X12_edge_161
    simp (maxSteps := 3000000) (disch := omega) only [ma_msa_n, ma_msa_s, mi_msi_n, mi_msi_s, ml_msl_n, ml_msl_s, ma_msi, ma_msl, mi_msa, mi_msl, ml_msa, ml_msi, msa_msa, msi_msi, msl_msl, ck_m, gf_s, gf_image, gf_truths, gf_knownRow, gf_daysRow, gf_bests, gf_nots, gf_lookeds, gf_bestsAt, gf_worths, gf_keptKnown, gf_keptDays, gf_round, gf_sums, gf_bestRound, gf_bodies, gf_thrown, gf_hasImage, gf_act, gf_spot, gf_size, gf_isWrong, gf_open, gf_edgeThing, gf_edgeMore, gf_stamp, gf_whose, gf_wage, gf_roundMany, gf_bestSet, gf_ran, gf_kind, gf_who, gf_tellsV, pf_thrown, pf_hasImage, pf_act, pf_spot, pf_size, pf_isWrong, pf_open, pf_edgeThing, pf_edgeMore, pf_stamp, pf_whose, pf_wage, pf_roundMany, pf_bestSet, pf_ran, pf_kind, pf_who, pf_tellsV, al_s, as_s, al_image, as_image, al_truths, as_truths0, as_truths1, al_knownRow, as_knownRow, al_daysRow, as_daysRow, al_bests, as_bests, al_nots, as_nots, al_lookeds, as_lookeds, al_bestsAt, as_bestsAt, al_worths, as_worths, al_keptKnown, as_keptKnown, al_keptDays, as_keptDays, al_round, as_round, al_sums, as_sums, al_bestRound, as_bestRound, al_bodies, as_bodies, cl_some, nm_b, nn_some, qn_some, qn_none, zk_0, zk_1, zk_n0, zk_n1, nI_add, pk_mul, pk_sub, nI_leE, nI_ltE, nI_eqE, nI_lt0, nI_ge0, nI_eq0, nI_gt0, nI_le0, ilt_t, ilt_f, ile_t, ile_f, ieq_t, ieq_f, if_tt, if_ff, Nat.add_sub_cancel]
    rfl
  | succ r ih =>
    intro l5 m y st N hr hm hR hg hN hb
    obtain ⟨m, rfl⟩ : ∃ q, m = q + 1 := ⟨m - 1, by omega⟩
    obtain ⟨y1, st1, N1, e1, r1, g1, n1, l1⟩ := f_ed103 (G := G) (b := b) (h0 := h0) (nx := nx) (first := first) (l5 := l5) (k88 := F_X12_edge_88 G m) hB hn1 hn4 hw (by omega) y st N 2044 hR hg hN (by omega)
    have es : edL S n nt who first (r + 1) l5 = if edX S n nt who first l5 = 0 then edL S n nt who first r (l5 + 1) else edX S n nt who first l5 := rfl
    rw [F_X12_edge_88_s, if_neg (show ¬ nI 30 < nI l5 from fun q => by have := (nI_ltI (by omega) (by omega)).mp q; omega), if_pos rfl]
    rw [show fuelL = 2044 + 4 from rfl, e1, es]
    by_cases c : edX S n nt who first l5 = 0
    · rw [if_pos c, c]
      obtain ⟨y2, st2, N2, e2, r2, n2, l2⟩ := ih (l5 + 1) m y1 st1 N1 (by omega) (by omega) r1 g1 n1 (by omega)
      exact ⟨y2, st2, N2, e2, r2, n2, by omega⟩
    · rw [if_neg c]
      obtain ⟨m, rfl⟩ : ∃ q, m = q + 1 := ⟨m - 1, by omega⟩
      refine ⟨y1, st1, N1, ?_, r1, n1, by omega⟩
      rw [F_X12_edge_88_s]
      unfold F_X12_edge_161
      simp (maxSteps := 3000000) (disch := omega) only [ma_msa_n, ma_msa_s, mi_msi_n, mi_msi_s, ml_msl_n, ml_msl_s, ma_msi, ma_msl, mi_msa, mi_msl, ml_msa, ml_msi, msa_msa, msi_msi, msl_msl, ck_m, gf_s, gf_image, gf_truths, gf_knownRow, gf_daysRow, gf_bests, gf_nots, gf_lookeds, gf_bestsAt, gf_worths, gf_keptKnown, gf_keptDays, gf_round, gf_sums, gf_bestRound, gf_bodies, gf_thrown, gf_hasImage, gf_act, gf_spot, gf_size, gf_isWrong, gf_open, gf_edgeThing, gf_edgeMore, gf_stamp, gf_whose, gf_wage, gf_roundMany, gf_bestSet, gf_ran, gf_kind, gf_who, gf_tellsV, pf_thrown, pf_hasImage, pf_act, pf_spot, pf_size, pf_isWrong, pf_open, pf_edgeThing, pf_edgeMore, pf_stamp, pf_whose, pf_wage, pf_roundMany, pf_bestSet, pf_ran, pf_kind, pf_who, pf_tellsV, al_s, as_s, al_image, as_image, al_truths, as_truths0, as_truths1, al_knownRow, as_knownRow, al_daysRow, as_daysRow, al_bests, as_bests, al_nots, as_nots, al_lookeds, as_lookeds, al_bestsAt, as_bestsAt, al_worths, as_worths, al_keptKnown, as_keptKnown, al_keptDays, as_keptDays, al_round, as_round, al_sums, as_sums, al_bestRound, as_bestRound, al_bodies, as_bodies, cl_some, nm_b, nn_some, qn_some, qn_none, zk_0, zk_1, zk_n0, zk_n1, nI_add, pk_mul, pk_sub, nI_leE, nI_ltE, nI_eqE, nI_lt0, nI_ge0, nI_eq0, nI_gt0, nI_le0, ilt_t, ilt_f, ile_t, ile_f, ieq_t, ieq_f, if_tt, if_ff, Nat.add_sub_cancel]
      rw [if_neg c]
      by_cases c2 : 30 < l5 + 1
      · rw [if_pos c2]
      · rw [if_neg c2]
set_option maxRecDepth 100000 in
set_option maxHeartbeats 4000000 in
theorem f_edge37 {S : MS} {nt np lk td n who : Nat} (hB : BOk S nt np lk td) (hn1 : 1 ≤ n) (hn4 : n ≤ 4) (hw : who < nt) : ∀ (r t m : Nat) (st : MS) (N : Nat), t + r = nt → r < m → Wr S (ma S 1) st → (∀ j, j < t → ma st 21 j = toW S n j) → StOk st N → N + 201 * r < 2 ^ 31 → ∃ (st' : MS) (N' : Nat), F_X12_edge_37 G m (encM G b st h0) nx b (nI who) (nI n) (nI t) = F_X12_edge_88 G fuelL (encM G b (msi st' 10 (nI who)) h0) nx b (nI who) (nI n) (nI (foF (toW S n) who (toW S n who) nt)) (nI 0) (nI 1) ∧ Wr S (ma S 1) st' ∧ (∀ j, j < nt → ma st' 21 j = toW S n j) ∧ StOk st' N' ∧ N' ≤ N + 201 * r := by
  obtain ⟨hL, hl3, ht, h2, hnp, hpr, h3, htd⟩ := hB
  have hn := hL.2.1
  intro r
  induction r with
  | zero =>
    intro t m st N hr hm hW hg hN hb
    obtain ⟨m, rfl⟩ : ∃ q, m = q + 1 := ⟨m - 1, by omega⟩
    have hr : t = nt := by omega
    subst hr
    have a1 : ma st 1 1 = nI t := by rw [hW.s]; exact hL.1
    have gw := hg who hw
    have ef := f_firstOf (G := G) (b := b) (h0 := h0) (nx := nx) (x := toW S n who) a1 hn hw hg
    refine ⟨st, N, ?_, hW, hg, hN, by omega⟩
    rw [F_X12_edge_37_s]
    simp (maxSteps := 3000000) (disch := omega) only [a1, gw, ef, ma_msa_n, ma_msa_s, mi_msi_n, mi_msi_s, ml_msl_n, ml_msl_s, ma_msi, ma_msl, mi_msa, mi_msl, ml_msa, ml_msi, msa_msa, msi_msi, msl_msl, ck_m, gf_s, gf_image, gf_truths, gf_knownRow, gf_daysRow, gf_bests, gf_nots, gf_lookeds, gf_bestsAt, gf_worths, gf_keptKnown, gf_keptDays, gf_round, gf_sums, gf_bestRound, gf_bodies, gf_thrown, gf_hasImage, gf_act, gf_spot, gf_size, gf_isWrong, gf_open, gf_edgeThing, gf_edgeMore, gf_stamp, gf_whose, gf_wage, gf_roundMany, gf_bestSet, gf_ran, gf_kind, gf_who, gf_tellsV, pf_thrown, pf_hasImage, pf_act, pf_spot, pf_size, pf_isWrong, pf_open, pf_edgeThing, pf_edgeMore, pf_stamp, pf_whose, pf_wage, pf_roundMany, pf_bestSet, pf_ran, pf_kind, pf_who, pf_tellsV, al_s, as_s, al_image, as_image, al_truths, as_truths0, as_truths1, al_knownRow, as_knownRow, al_daysRow, as_daysRow, al_bests, as_bests, al_nots, as_nots, al_lookeds, as_lookeds, al_bestsAt, as_bestsAt, al_worths, as_worths, al_keptKnown, as_keptKnown, al_keptDays, as_keptDays, al_round, as_round, al_sums, as_sums, al_bestRound, as_bestRound, al_bodies, as_bodies, cl_some, nm_b, nn_some, qn_some, qn_none, zk_0, zk_1, zk_n0, zk_n1, nI_add, pk_mul, pk_sub, nI_leE, nI_ltE, nI_eqE, nI_lt0, nI_ge0, nI_eq0, nI_gt0, nI_le0, ilt_t, ilt_f, ile_t, ile_f, ieq_t, ieq_f, if_tt, if_ff, Nat.add_sub_cancel]
  | succ r ih =>
    intro t m st N hr hm hW hg hN hb
    obtain ⟨m, rfl⟩ : ∃ q, m = q + 1 := ⟨m - 1, by omega⟩
    have hs := hW.s
    have a1 : ma st 1 1 = nI nt := by rw [hs]; exact hL.1
    obtain ⟨st2, N2, e2, f2, n2, l2⟩ := f_weight (G := G) (b := b) (h0 := h0) (nx := nx) (st := st) (t := t) hn1 (by omega) (by rw [hs]; exact ht t (by omega)) hN (by omega)
    rw [nmF_wr hW (by omega)] at e2
    have W3 : Wr S (ma S 1) (msa st2 21 (upK (ma st2 21) t (wgF (nmF S t n)))) := (hW.tr f2 (by decide)).tr (FrM.msa (k := 21) (ks := [21]) (by decide)) (by decide)
    obtain ⟨st', N', e, w', g', n', l'⟩ := ih (t + 1) m _ N2 (by omega) (by omega) W3 (fun j hj => by
      rw [ma_msa_s]
      by_cases c : j = t
      · subst c
        exact upK_s
      · rw [upK_n c, f2.ofa 21 (by decide)]
        exact hg j (by omega)) (StOk_fr (FrM.msa (k := 21) (ks := [21]) (by decide)) (by decide) (by decide) n2) (by omega)
    refine ⟨st', N', ?_, w', g', n', by omega⟩
    rw [← e, F_X12_edge_37_s]
    simp (maxSteps := 3000000) (disch := omega) only [a1, e2, ma_msa_n, ma_msa_s, mi_msi_n, mi_msi_s, ml_msl_n, ml_msl_s, ma_msi, ma_msl, mi_msa, mi_msl, ml_msa, ml_msi, msa_msa, msi_msi, msl_msl, ck_m, gf_s, gf_image, gf_truths, gf_knownRow, gf_daysRow, gf_bests, gf_nots, gf_lookeds, gf_bestsAt, gf_worths, gf_keptKnown, gf_keptDays, gf_round, gf_sums, gf_bestRound, gf_bodies, gf_thrown, gf_hasImage, gf_act, gf_spot, gf_size, gf_isWrong, gf_open, gf_edgeThing, gf_edgeMore, gf_stamp, gf_whose, gf_wage, gf_roundMany, gf_bestSet, gf_ran, gf_kind, gf_who, gf_tellsV, pf_thrown, pf_hasImage, pf_act, pf_spot, pf_size, pf_isWrong, pf_open, pf_edgeThing, pf_edgeMore, pf_stamp, pf_whose, pf_wage, pf_roundMany, pf_bestSet, pf_ran, pf_kind, pf_who, pf_tellsV, al_s, as_s, al_image, as_image, al_truths, as_truths0, as_truths1, al_knownRow, as_knownRow, al_daysRow, as_daysRow, al_bests, as_bests, al_nots, as_nots, al_lookeds, as_lookeds, al_bestsAt, as_bestsAt, al_worths, as_worths, al_keptKnown, as_keptKnown, al_keptDays, as_keptDays, al_round, as_round, al_sums, as_sums, al_bestRound, as_bestRound, al_bodies, as_bodies, cl_some, nm_b, nn_some, qn_some, qn_none, zk_0, zk_1, zk_n0, zk_n1, nI_add, pk_mul, pk_sub, nI_leE, nI_ltE, nI_eqE, nI_lt0, nI_ge0, nI_eq0, nI_gt0, nI_le0, ilt_t, ilt_f, ile_t, ile_f, ieq_t, ieq_f, if_tt, if_ff, Nat.add_sub_cancel]
/-- the fields that hold nothing from act to act -/
def KA : List Nat := [4, 5, 6, 7, 8, 11, 31, 32, 33] ++ KS
set_option maxRecDepth 100000 in
set_option maxHeartbeats 4000000 in
theorem f_edge {st : MS} {nt np lk td N : Nat} (hB : BOk st nt np lk td) (hN : StOk st N) (h10 : mi st 10 = -1) (hb : N + 20000 < 2 ^ 31) (t d : Int32) : ∃ (st' : MS) (N' : Nat), F_X12_edge G (encM G b st h0) nx b t d = some (edgeF st nt t d, encM G b st' h0, nx) ∧ FrM KA st st' ∧ StOk st' N' ∧ N' ≤ N + 20000 := by
  have hn := hB.1.2.1
  have h1 := hB.1.1
  unfold F_X12_edge edgeF
  simp (maxSteps := 3000000) (disch := omega) only [f_in, f_isThing, ma_msa_n, ma_msa_s, mi_msi_n, mi_msi_s, ml_msl_n, ml_msl_s, ma_msi, ma_msl, mi_msa, mi_msl, ml_msa, ml_msi, msa_msa, msi_msi, msl_msl, ck_m, gf_s, gf_image, gf_truths, gf_knownRow, gf_daysRow, gf_bests, gf_nots, gf_lookeds, gf_bestsAt, gf_worths, gf_keptKnown, gf_keptDays, gf_round, gf_sums, gf_bestRound, gf_bodies, gf_thrown, gf_hasImage, gf_act, gf_spot, gf_size, gf_isWrong, gf_open, gf_edgeThing, gf_edgeMore, gf_stamp, gf_whose, gf_wage, gf_roundMany, gf_bestSet, gf_ran, gf_kind, gf_who, gf_tellsV, pf_thrown, pf_hasImage, pf_act, pf_spot, pf_size, pf_isWrong, pf_open, pf_edgeThing, pf_edgeMore, pf_stamp, pf_whose, pf_wage, pf_roundMany, pf_bestSet, pf_ran, pf_kind, pf_who, pf_tellsV, al_s, as_s, al_image, as_image, al_truths, as_truths0, as_truths1, al_knownRow, as_knownRow, al_daysRow, as_daysRow, al_bests, as_bests, al_nots, as_nots, al_lookeds, as_lookeds, al_bestsAt, as_bestsAt, al_worths, as_worths, al_keptKnown, as_keptKnown, al_keptDays, as_keptDays, al_round, as_round, al_sums, as_sums, al_bestRound, as_bestRound, al_bodies, as_bodies, cl_some, nm_b, nn_some, qn_some, qn_none, zk_0, zk_1, zk_n0, zk_n1, nI_add, pk_mul, pk_sub, nI_leE, nI_ltE, nI_eqE, nI_lt0, nI_ge0, nI_eq0, nI_gt0, nI_le0, ilt_t, ilt_f, ile_t, ile_f, ieq_t, ieq_f, if_tt, if_ff, Nat.add_sub_cancel]
  rw [h1]
  by_cases c1 : bIn t (nI 0) (nI nt - nI 1) = 0
  · rw [if_pos c1, if_pos c1]
    exact ⟨st, N, rfl, FrM.rf, hN, by omega⟩
  · rw [if_neg c1, if_neg c1]
    by_cases c2 : bIn d (nI 1) (nI 4) = 0
    · rw [if_pos c2, if_pos c2]
      exact ⟨st, N, rfl, FrM.rf, hN, by omega⟩
    · rw [if_neg c2, if_neg c2]
      obtain ⟨t, ht1, rfl⟩ := bIn_nI (by omega) c1
      obtain ⟨d, hd1, hd3, rfl⟩ := bIn_lh (by omega) (by omega) c2
      rw [nI_clamp (by omega), nI_clamp (by omega)]
      simp (maxSteps := 3000000) (disch := omega) only [h1, ma_msa_n, ma_msa_s, mi_msi_n, mi_msi_s, ml_msl_n, ml_msl_s, ma_msi, ma_msl, mi_msa, mi_msl, ml_msa, ml_msi, msa_msa, msi_msi, msl_msl, ck_m, gf_s, gf_image, gf_truths, gf_knownRow, gf_daysRow, gf_bests, gf_nots, gf_lookeds, gf_bestsAt, gf_worths, gf_keptKnown, gf_keptDays, gf_round, gf_sums, gf_bestRound, gf_bodies, gf_thrown, gf_hasImage, gf_act, gf_spot, gf_size, gf_isWrong, gf_open, gf_edgeThing, gf_edgeMore, gf_stamp, gf_whose, gf_wage, gf_roundMany, gf_bestSet, gf_ran, gf_kind, gf_who, gf_tellsV, pf_thrown, pf_hasImage, pf_act, pf_spot, pf_size, pf_isWrong, pf_open, pf_edgeThing, pf_edgeMore, pf_stamp, pf_whose, pf_wage, pf_roundMany, pf_bestSet, pf_ran, pf_kind, pf_who, pf_tellsV, al_s, as_s, al_image, as_image, al_truths, as_truths0, as_truths1, al_knownRow, as_knownRow, al_daysRow, as_daysRow, al_bests, as_bests, al_nots, as_nots, al_lookeds, as_lookeds, al_bestsAt, as_bestsAt, al_worths, as_worths, al_keptKnown, as_keptKnown, al_keptDays, as_keptDays, al_round, as_round, al_sums, as_sums, al_bestRound, as_bestRound, al_bodies, as_bodies, cl_some, nm_b, nn_some, qn_some, qn_none, zk_0, zk_1, zk_n0, zk_n1, nI_add, pk_mul, pk_sub, nI_leE, nI_ltE, nI_eqE, nI_lt0, nI_ge0, nI_eq0, nI_gt0, nI_le0, ilt_t, ilt_f, ile_t, ile_f, ieq_t, ieq_f, if_tt, if_ff, Nat.add_sub_cancel]
      by_cases c3 : nt = 1
      · rw [if_pos c3, if_pos c3]
        exact ⟨st, N, rfl, FrM.rf, hN, by omega⟩
      · rw [if_neg c3, if_neg c3]
        obtain ⟨st1, N1, e1, w1, g1, n1, l1⟩ := f_edge37 (G := G) (b := b) (h0 := h0) (nx := nx) hB hd1 hd3 ht1 nt 0 fuelL st N (by omega) (by unfold fuelL; omega) Wr.rf (fun j hj => by omega) hN (by omega)
        have w1' := w1.fr
        rw [msa_self] at w1'
        have R1 : Re st t (mi (msi st 10 (nI t)) 11) (msi st1 10 (nI t)) := by
          unfold Re
          rw [msi_self]
          exact fr_cgi w1'
        obtain ⟨y, st2, N2, e2, r2, n2, l2⟩ := f_ed88 (G := G) (b := b) (h0 := h0) (nx := nx) (first := foF (toW st d) t (toW st d t) nt) hB hd1 hd3 ht1 30 1 fuelL _ (msi st1 10 (nI t)) N1 (by omega) (by unfold fuelL; omega) R1 g1 (StOk_fr (FrM.msi (k := 10) (ks := [10]) (by decide)) (by decide) (by decide) n1) (by omega)
        refine ⟨msi st2 10 (-1), N2, e1.trans e2, ?_, StOk_fr (FrM.msi (k := 10) (ks := [10]) (by decide)) (by decide) (by decide) n2, by omega⟩
        have f2 := fr_cgi (j := 10) (x := -1) r2
        rw [msi_com (by decide), msi_msi, show msi st 10 (-1) = st by rw [← h10, msi_self]] at f2
        exact (FrM.trans (FrM.msi (k := 11) (ks := KA) (by decide)) f2).mono (by decide)
end N4
