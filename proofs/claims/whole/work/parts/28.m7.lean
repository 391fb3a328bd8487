/-! BITS of a set, and how many -/
theorem bit_sm {t : Nat} (ht : t < 8) : ((nI t &&& 31).toBitVec.smod 32).toNat = t := by
  rcases (show t = 0 ∨ t = 1 ∨ t = 2 ∨ t = 3 ∨ t = 4 ∨ t = 5 ∨ t = 6 ∨ t = 7 by omega) with rfl | rfl | rfl | rfl | rfl | rfl | rfl | rfl <;> decide
/-- is a thing in a set -/
def bt (x : Int32) (t : Nat) : Bool := x.toBitVec.getLsbD t
theorem bitI_bt {x : Int32} {t : Nat} (ht : t < 8) : bitI x t = if bt x t = true then 1 else 0 := by
  unfold bitI
  apply Int32.toBitVec_inj.mp
  rw [Int32.toBitVec_and, Int32.toBitVec_shiftRight]
  apply BitVec.eq_of_getLsbD_eq
  intro i hi
  rw [BitVec.getLsbD_and, BitVec.getLsbD_sshiftRight', bit_sm ht, show (nI 1).toBitVec = 1#32 from rfl, BitVec.getLsbD_one]
  unfold bt
  by_cases c : i = 0
  · subst c
    cases hb : x.toBitVec.getLsbD t
    · rw [if_neg (show ¬ (false = true) by decide)]
      simp [show t < 32 by omega, hb]
    · rw [if_pos rfl]
      simp [show t < 32 by omega, hb]
  · cases hb : x.toBitVec.getLsbD t
    · rw [if_neg (show ¬ (false = true) by decide)]
      simp [c]
    · rw [if_pos rfl]
      simp [c]
theorem bitI_0 {x : Int32} {t : Nat} (ht : t < 8) : bitI x t = 0 ↔ bt x t = false := by
  rw [bitI_bt ht]
  cases bt x t
  · exact ⟨fun _ => rfl, fun _ => rfl⟩
  · exact ⟨fun q => absurd q (by decide), fun q => absurd q (by decide)⟩
theorem bitI_1 {x : Int32} {t : Nat} (ht : t < 8) : bitI x t = nI 1 ↔ bt x t = true := by
  rw [bitI_bt ht]
  cases bt x t
  · exact ⟨fun q => absurd q (by decide), fun q => absurd q (by decide)⟩
  · exact ⟨fun _ => rfl, fun _ => rfl⟩
theorem bt_or {x y : Int32} {t : Nat} : bt (x ||| y) t = (bt x t || bt y t) := by
  unfold bt
  rw [Int32.toBitVec_or, BitVec.getLsbD_or]
theorem bt_z {t : Nat} : bt (nI 0) t = false := by
  unfold bt
  rw [show (nI 0).toBitVec = 0#32 from rfl]
  simp
theorem bt_sh {k : Int32} : ∃ j : Nat, ∀ t : Nat, bt (nI 1 <<< k) t = true → t = j := by
  refine ⟨(k.toBitVec.smod 32#32).toNat, fun t ht => ?_⟩
  unfold bt at ht
  rw [Int32.toBitVec_shiftLeft, BitVec.getLsbD_shiftLeft', show (nI 1).toBitVec = 1#32 from rfl, BitVec.getLsbD_one] at ht
  simp at ht
  omega
theorem bt_shN {k t : Nat} (hk : k < 8) (ht : t < 8) : bt (nI 1 <<< (nI k &&& 31)) t = decide (t = k) := by
  unfold bt
  rw [Int32.toBitVec_shiftLeft, BitVec.getLsbD_shiftLeft', show (nI 1).toBitVec = 1#32 from rfl, BitVec.getLsbD_one, bit_sm hk]
  by_cases c : t = k
  · subst c
    simp
    omega
  · simp [c]
    omega
def cnN (x : Int32) : Nat → Nat
  | 0 => 0
  | k + 1 => cnN x k + (if bt x k = true then 1 else 0)
theorem cnN_le {x : Int32} : ∀ {k : Nat}, cnN x k ≤ k
  | 0 => Nat.le_refl _
  | k + 1 => by
    unfold cnN
    have := cnN_le (x := x) (k := k)
    split <;> omega
theorem cnN_mono {x : Int32} {a : Nat} : ∀ {b : Nat}, a ≤ b → cnN x a ≤ cnN x b
  | 0, h => by rw [show a = 0 by omega]; exact Nat.le_refl _
  | b + 1, h => by
    by_cases c : a = b + 1
    · rw [c]; exact Nat.le_refl _
    · have := cnN_mono (x := x) (a := a) (b := b) (by omega)
      show _ ≤ cnN x b + _
      omega
theorem cnN_or {x y : Int32} : ∀ {k : Nat}, cnN (x ||| y) k ≤ cnN x k + cnN y k
  | 0 => Nat.le_refl _
  | k + 1 => by
    have := cnN_or (x := x) (y := y) (k := k)
    unfold cnN
    rw [bt_or]
    cases bt x k <;> cases bt y k <;> simp <;> omega
theorem cnN_one {x : Int32} {j : Nat} (h : ∀ t : Nat, bt x t = true → t = j) : ∀ {k : Nat}, cnN x k ≤ if j < k then 1 else 0
  | 0 => Nat.zero_le _
  | k + 1 => by
    have ih := cnN_one h (k := k)
    unfold cnN
    cases hb : bt x k
    · rw [if_neg (by decide)]
      refine Nat.le_trans ih ?_
      by_cases c : j < k
      · rw [if_pos c, if_pos (by omega)]
        exact Nat.le_refl _
      · rw [if_neg c]
        exact Nat.zero_le _
    · have e := h k hb
      rw [if_neg (by omega)] at ih
      rw [if_pos rfl, if_pos (show j < k + 1 by omega)]
      omega
theorem cnN_sh {k : Int32} {r : Nat} : cnN (nI 1 <<< k) r ≤ 1 := by
  obtain ⟨j, hj⟩ := bt_sh (k := k)
  refine Nat.le_trans (cnN_one hj) ?_
  split <;> omega
theorem cnN_z : ∀ {r : Nat}, cnN (nI 0) r = 0
  | 0 => rfl
  | r + 1 => by
    unfold cnN
    rw [cnN_z, bt_z]
    rfl
theorem cnF_N {x : Int32} : ∀ {k : Nat}, k ≤ 8 → cnF x k = nI (cnN x k)
  | 0, _ => rfl
  | k + 1, h => by
    have ih := cnF_N (x := x) (k := k) (by omega)
    show cnF x k + bitI x k = _
    have e : cnN x (k + 1) = cnN x k + (if bt x k = true then 1 else 0) := rfl
    rw [ih, bitI_bt (by omega), e]
    cases bt x k
    · rw [if_neg (by decide), if_neg (by decide)]
      show nI _ + nI 0 = _
      rw [nI_add]
    · rw [if_pos rfl, if_pos rfl]
      show nI _ + nI 1 = _
      rw [nI_add]
theorem lv_cn {nt : Nat} {x : Int32} (hn : nt ≤ 8) : ∀ {r : Nat}, r ≤ nt → lvG nt x r * 2 ^ cnN x (nt - r) = 2 ^ cnN x nt
  | 0, _ => by
    show 1 * _ = _
    rw [Nat.one_mul, Nat.sub_zero]
  | r + 1, h => by
    have ih := lv_cn (nt := nt) (x := x) hn (r := r) (by omega)
    have e : nt - r = (nt - (r + 1)) + 1 := by omega
    rw [e] at ih
    unfold lvG
    generalize nt - (r + 1) = t at ih e ⊢
    have e2 : cnN x (t + 1) = cnN x t + (if bt x t = true then 1 else 0) := rfl
    rw [e2] at ih
    by_cases c : bitI x t = 0
    · rw [if_pos c]
      rw [(bitI_0 (by omega)).mp c, if_neg (by decide)] at ih
      exact ih
    · rw [if_neg c]
      rw [if_pos (show bt x t = true by cases hb : bt x t; exact absurd ((bitI_0 (by omega)).mpr hb) c; rfl), Nat.pow_add] at ih
      rw [← ih, Nat.mul_comm 2 (lvG nt x r), Nat.mul_assoc]
      refine congrArg _ ?_
      rw [Nat.mul_comm]
theorem lv_le {nt : Nat} {x : Int32} (hn : nt ≤ 8) (h : cnN x nt ≤ 3) : lvG nt x nt ≤ 8 := by
  have := lv_cn (x := x) hn (Nat.le_refl nt)
  rw [Nat.sub_self] at this
  have e : lvG nt x nt = 2 ^ cnN x nt := by
    have e0 : cnN x 0 = 0 := rfl
    rw [e0, Nat.pow_zero, Nat.mul_one] at this
    exact this
  rw [e]
  rcases (show cnN x nt = 0 ∨ cnN x nt = 1 ∨ cnN x nt = 2 ∨ cnN x nt = 3 by omega) with q | q | q | q <;> rw [q] <;> decide
theorem tu_cn {s1 fr : Int32} {r : Nat} : ∀ n : Nat, cnN (tuF s1 fr n) r ≤ n
  | 0 => by show cnN (nI 0) r ≤ 0; rw [cnN_z]; exact Nat.le_refl _
  | n + 1 => by
    have := tu_cn (s1 := s1) (fr := fr) (r := r) n
    exact Nat.le_trans cnN_or (Nat.add_le_add this cnN_sh)
theorem gr_cn {W : Nat → Int32} {nt r : Nat} : ∀ n : Nat, cnN (grF W nt n) r ≤ n
  | 0 => by show cnN (nI 0) r ≤ 0; rw [cnN_z]; exact Nat.le_refl _
  | n + 1 => by
    have := gr_cn (W := W) (nt := nt) (r := r) n
    exact Nat.le_trans cnN_or (Nat.add_le_add this cnN_sh)
theorem to_cn {all : Int32} {lk : Nat} (hl : lk < 2 ^ 31) : ∀ t : Nat, cnN (toF all (nI lk) t) 8 ≤ lk
  | 0 => by show cnN (nI 0) 8 ≤ lk; rw [cnN_z]; exact Nat.zero_le _
  | t + 1 => by
    have ih := to_cn (all := all) hl t
    unfold toF
    split
    · rename_i q
      have q2 := q.2
      rw [cnF_N (Nat.le_refl 8)] at q2
      have c8 := cnN_le (x := toF all (nI lk) t) (k := 8)
      have := (nI_ltI (by omega) hl).mp q2
      refine Nat.le_trans cnN_or ?_
      have := cnN_sh (k := nI t &&& 31) (r := 8)
      omega
    · refine Nat.le_trans cnN_or ?_
      rw [cnN_z]
      omega
theorem wh_cn {st : MS} {p dd nt lk : Nat} (hn : nt ≤ 8) (hl : lk < 2 ^ 31) : cnN (whF st p dd nt lk) nt ≤ lk := by
  unfold whF
  split
  · rw [cnN_z]; omega
  · split
    · exact tu_cn _
    · split
      · exact tu_cn _
      · split
        · unfold tdF
          split
          · rw [cnN_z]; omega
          · exact Nat.le_trans (cnN_mono hn) (to_cn hl _)
        · exact gr_cn _
theorem whF_fr {st st1 : MS} {ks : List Nat} (h : FrM ks st st1) (h1 : 1 ∉ ks) (h2 : 10 ∉ ks) (h3 : 11 ∉ ks) {p dd nt lk : Nat} : whF st1 p dd nt lk = whF st p dd nt lk := by
  unfold whF
  rw [h.ofa 1 h1, show woF st1 p = woF st p from funext fun t => woF_fr h h1 h2 h3]
theorem MS0.fr {nt : Nat} {S0 st : MS} (h : MS0 nt S0 st) : FrM KL (msa S0 1 (ma st 1)) st := by
  have := fr_cg1 (f := ma st 1) h.1
  rw [msa_msa, msa_self] at this
  exact this
theorem LkOk_ag {s s' : Nat → Int32} (h : AgS s s') {nt lk : Nat} (hl : LkOk s nt lk) : LkOk s' nt lk := by
  obtain ⟨h1, h2, h3, h4⟩ := hl
  refine ⟨(h 1 (by omega)).trans h1, h2, ?_, h4⟩
  unfold lkF
  rw [h 1 (by omega), h 4 (by omega)]
  exact h3
theorem PrOk_ag {s s' : Nat → Int32} (h : AgS s s') {p : Nat} (hp : PrOk s p) : PrOk s' p := by
  obtain ⟨⟨q1, q2, q3, q4, q5⟩, q6, q7⟩ := hp
  have e1 := h (1070 + p) (by omega)
  have e2 := h (1082 + p) (by omega)
  have e3 := h (1094 + p) (by omega)
  have f1 := sN_ag h (k := 1070 + p) (by omega)
  have f2 := sN_ag h (k := 1082 + p) (by omega)
  have f3 := sN_ag h (k := 1094 + p) (by omega)
  exact ⟨⟨q1, by rw [e1, f1]; exact q2, by rw [f1]; exact q3, by rw [e2, f2]; exact q4, by rw [f2]; exact q5⟩, by rw [e3, f3]; exact q6, by rw [f3]; exact q7⟩
set_option maxRecDepth 100000 in
set_option maxHeartbeats 4000000 in
/-- a plan chooses -/
theorem ch_plan {G : Gx} {b : Nat} {h0 : Hp} {nx : Nat} {S0 : MS} {nt lk p : Nat} (hL : LkOk (ma S0 1) nt lk) (hl3 : lk ≤ 3) (ht : ∀ t, t < nt → ThOk (ma S0 1) t) (hp : PrOk (ma S0 1) p) (h25 : mi S0 25 = nI 0) : ChOk G b h0 nx nt S0 (nI p) (fun s dd => whF (msa S0 1 s) p dd nt lk) 1608 0 := by
  have hn := hL.2.1
  refine ⟨fun st N dd hS hN hb hd _ => ?_, Or.inr fun s dd _ => ?_, Or.inl ?_⟩
  · have hA := hS.2.ag hn
    obtain ⟨st2, N2, e2, f2, n2, l2⟩ := f_whomOn (G := G) (b := b) (h0 := h0) (nx := nx) (dd := dd) (LkOk_ag hA hL) (PrOk_ag hA hp) (fun t q => ThOk_ag hA (ht t q)) hN hb hd
    refine ⟨st2, N2, ?_, f2, n2, l2⟩
    have q25 : mi st 25 = nI 0 := by rw [hS.1.f1 25 (by decide)]; exact h25
    unfold F_X12_lookedAt F_X12_lookedAt_36
    simp (maxSteps := 3000000) (disch := omega) only [q25, e2, ma_msa_n, ma_msa_s, mi_msi_n, mi_msi_s, ml_msl_n, ml_msl_s, ma_msi, ma_msl, mi_msa, mi_msl, ml_msa, ml_msi, msa_msa, msi_msi, msl_msl, ck_m, gf_s, gf_image, gf_truths, gf_knownRow, gf_daysRow, gf_bests, gf_nots, gf_lookeds, gf_bestsAt, gf_worths, gf_keptKnown, gf_keptDays, gf_round, gf_sums, gf_bestRound, gf_bodies, gf_thrown, gf_hasImage, gf_act, gf_spot, gf_size, gf_isWrong, gf_open, gf_edgeThing, gf_edgeMore, gf_stamp, gf_whose, gf_wage, gf_roundMany, gf_bestSet, gf_ran, gf_kind, gf_who, gf_tellsV, pf_thrown, pf_hasImage, pf_act, pf_spot, pf_size, pf_isWrong, pf_open, pf_edgeThing, pf_edgeMore, pf_stamp, pf_whose, pf_wage, pf_roundMany, pf_bestSet, pf_ran, pf_kind, pf_who, pf_tellsV, al_s, as_s, al_image, as_image, al_truths, as_truths0, as_truths1, al_knownRow, as_knownRow, al_daysRow, as_daysRow, al_bests, as_bests, al_nots, as_nots, al_lookeds, as_lookeds, al_bestsAt, as_bestsAt, al_worths, as_worths, al_keptKnown, as_keptKnown, al_keptDays, as_keptDays, al_round, as_round, al_sums, as_sums, al_bestRound, as_bestRound, al_bodies, as_bodies, cl_some, nm_b, nn_some, qn_some, qn_none, zk_0, zk_1, zk_n0, zk_n1, nI_add, pk_mul, pk_sub, nI_leE, nI_ltE, nI_eqE, nI_lt0, nI_ge0, nI_eq0, nI_gt0, nI_le0, ilt_t, ilt_f, ile_t, ile_f, ieq_t, ieq_f, if_tt, if_ff, Nat.add_sub_cancel]
    rw [whF_fr hS.fr (by decide) (by decide) (by decide)]
  · exact lv_le hn (Nat.le_trans (wh_cn hn (by omega)) hl3)
  · have := hp.1.1
    rw [show (-1 : Int32) = -1 from rfl]
    intro q
    have h := congrArg Int32.toNatClampNeg q
    have h2 : (0 : Int32) ≤ nI p := nI_pos' (by omega)
    rw [q] at h2
    exact absurd h2 (by decide)
set_option maxRecDepth 100000 in
set_option maxHeartbeats 4000000 in
/-- a round chooses -/
theorem ch_round {G : Gx} {b : Nat} {h0 : Hp} {nx : Nat} {S0 : MS} {nt td many : Nat} (hn : nt ≤ 8) (h3 : ma S0 1 3 = nI td) (h0m : 0 < many) (hm : many < 4) (h25 : mi S0 25 = nI many) : ChOk G b h0 nx nt S0 (-1) (fun s dd => nI 1 <<< (ma S0 24 ((dd - td) % many) &&& 31)) 0 td := by
  refine ⟨fun st N dd hS hN hb hd hdt => ?_, Or.inl rfl, Or.inr ⟨many, h0m, hm, h25⟩⟩
  refine ⟨st, N, ?_, FrM.rf, hN, by omega⟩
  have q25 : mi st 25 = nI many := by rw [hS.1.f1 25 (by decide)]; exact h25
  have q24 : ma st 24 = ma S0 24 := by
    have := hS.1.ofa 24 (by decide)
    rw [ma_msa_n (by decide)] at this
    exact this
  have q3 : ma st 1 3 = nI td := by rw [hS.2 3 (by omega)]; exact h3
  have hr : (dd - td) % many < 3 := Nat.lt_of_lt_of_le (Nat.mod_lt _ h0m) (by omega)
  unfold F_X12_lookedAt F_X12_lookedAt_36
  simp (maxSteps := 3000000) (disch := omega) only [q25, q3, dzI_n, ma_msa_n, ma_msa_s, mi_msi_n, mi_msi_s, ml_msl_n, ml_msl_s, ma_msi, ma_msl, mi_msa, mi_msl, ml_msa, ml_msi, msa_msa, msi_msi, msl_msl, ck_m, gf_s, gf_image, gf_truths, gf_knownRow, gf_daysRow, gf_bests, gf_nots, gf_lookeds, gf_bestsAt, gf_worths, gf_keptKnown, gf_keptDays, gf_round, gf_sums, gf_bestRound, gf_bodies, gf_thrown, gf_hasImage, gf_act, gf_spot, gf_size, gf_isWrong, gf_open, gf_edgeThing, gf_edgeMore, gf_stamp, gf_whose, gf_wage, gf_roundMany, gf_bestSet, gf_ran, gf_kind, gf_who, gf_tellsV, pf_thrown, pf_hasImage, pf_act, pf_spot, pf_size, pf_isWrong, pf_open, pf_edgeThing, pf_edgeMore, pf_stamp, pf_whose, pf_wage, pf_roundMany, pf_bestSet, pf_ran, pf_kind, pf_who, pf_tellsV, al_s, as_s, al_image, as_image, al_truths, as_truths0, as_truths1, al_knownRow, as_knownRow, al_daysRow, as_daysRow, al_bests, as_bests, al_nots, as_nots, al_lookeds, as_lookeds, al_bestsAt, as_bestsAt, al_worths, as_worths, al_keptKnown, as_keptKnown, al_keptDays, as_keptDays, al_round, as_round, al_sums, as_sums, al_bestRound, as_bestRound, al_bodies, as_bodies, cl_some, nm_b, nn_some, qn_some, qn_none, zk_0, zk_1, zk_n0, zk_n1, nI_add, pk_mul, pk_sub, nI_leE, nI_ltE, nI_eqE, nI_lt0, nI_ge0, nI_eq0, nI_gt0, nI_le0, ilt_t, ilt_f, ile_t, ile_f, ieq_t, ieq_f, if_tt, if_ff, Nat.add_sub_cancel]
  rw [pk_rem (by omega) h0m (by omega)]
  simp (maxSteps := 3000000) (disch := omega) only [q24, ma_msa_n, ma_msa_s, mi_msi_n, mi_msi_s, ml_msl_n, ml_msl_s, ma_msi, ma_msl, mi_msa, mi_msl, ml_msa, ml_msi, msa_msa, msi_msi, msl_msl, ck_m, gf_s, gf_image, gf_truths, gf_knownRow, gf_daysRow, gf_bests, gf_nots, gf_lookeds, gf_bestsAt, gf_worths, gf_keptKnown, gf_keptDays, gf_round, gf_sums, gf_bestRound, gf_bodies, gf_thrown, gf_hasImage, gf_act, gf_spot, gf_size, gf_isWrong, gf_open, gf_edgeThing, gf_edgeMore, gf_stamp, gf_whose, gf_wage, gf_roundMany, gf_bestSet, gf_ran, gf_kind, gf_who, gf_tellsV, pf_thrown, pf_hasImage, pf_act, pf_spot, pf_size, pf_isWrong, pf_open, pf_edgeThing, pf_edgeMore, pf_stamp, pf_whose, pf_wage, pf_roundMany, pf_bestSet, pf_ran, pf_kind, pf_who, pf_tellsV, al_s, as_s, al_image, as_image, al_truths, as_truths0, as_truths1, al_knownRow, as_knownRow, al_daysRow, as_daysRow, al_bests, as_bests, al_nots, as_nots, al_lookeds, as_lookeds, al_bestsAt, as_bestsAt, al_worths, as_worths, al_keptKnown, as_keptKnown, al_keptDays, as_keptDays, al_round, as_round, al_sums, as_sums, al_bestRound, as_bestRound, al_bodies, as_bodies, cl_some, nm_b, nn_some, qn_some, qn_none, zk_0, zk_1, zk_n0, zk_n1, nI_add, pk_mul, pk_sub, nI_leE, nI_ltE, nI_eqE, nI_lt0, nI_ge0, nI_eq0, nI_gt0, nI_le0, ilt_t, ilt_f, ile_t, ile_f, ieq_t, ieq_f, if_tt, if_ff, Nat.add_sub_cancel]
/-! THE REFERENCE: the best mean, over all sets of a day -/
/-- the first greatest among the sets of lk things: is there one, its worth, the set -/
def bsS (f : Int32 → Int64) (lk : Nat) : Nat → Int32 × Int64 × Int32
  | 0 => (nI 0, 0, nI 0)
  | n + 1 => if cnF (nI n) 8 = nI lk then (if (bsS f lk n).1 = 0 ∨ (bsS f lk n).2.1 < f (nI n) then (nI 1, f (nI n), nI n) else bsS f lk n) else bsS f lk n
/-- the best mean of the days to come -/
def beG (S0 : MS) (nt lk : Nat) : Nat → (Nat → Int32) → Int64
  | 0, _ => 0
  | left + 1, s => baF s nt + (bsS (fun set => loG nt set (fun s' => beG S0 nt lk left (ovP S0 s' nt)) nt s) lk (2 ^ nt)).2.1
theorem bsS_1 {f : Int32 → Int64} {lk : Nat} : ∀ n : Nat, (bsS f lk n).1 = nI 0 ∨ (bsS f lk n).1 = nI 1
  | 0 => Or.inl rfl
  | n + 1 => by
    unfold bsS
    split
    · split
      · exact Or.inr rfl
      · exact bsS_1 n
    · exact bsS_1 n
theorem shl_n {nt : Nat} (hn : nt ≤ 8) : nI 1 <<< (nI nt &&& 31) = nI (2 ^ nt) := by
  rcases (show nt = 0 ∨ nt = 1 ∨ nt = 2 ∨ nt = 3 ∨ nt = 4 ∨ nt = 5 ∨ nt = 6 ∨ nt = 7 ∨ nt = 8 by omega) with rfl | rfl | rfl | rfl | rfl | rfl | rfl | rfl | rfl <;> decide
theorem two_le {nt : Nat} (hn : nt ≤ 8) : 2 ^ nt ≤ 256 := by
  rcases (show nt = 0 ∨ nt = 1 ∨ nt = 2 ∨ nt = 3 ∨ nt = 4 ∨ nt = 5 ∨ nt = 6 ∨ nt = 7 ∨ nt = 8 by omega) with rfl | rfl | rfl | rfl | rfl | rfl | rfl | rfl | rfl <;> decide
/-- what the best of a day leaves: as MLk, and the set -/
def MBs (left nt : Nat) (st st' : MS) (N N' : Nat) (set : Int32) : Prop := MLk left nt st st' N N' 0 ∧ mi st' 26 = set
set_option maxRecDepth 100000 in
set_option maxHeartbeats 4000000 in
theorem f_best50 {G : Gx} {b : Nat} {h0 : Hp} {nx : Nat} {S0 : MS} {nt left lk N : Nat} {dd : Nat} {V : (Nat → Int32) → Int64} {cm : Hp → Nat → Nat → Int32 → Int32 → Int32 → Rz Int64} {m' : Nat} {sA : Nat → Int32} (hL : LkOk (ma S0 1) nt lk) (ht : ∀ t, t < nt → ThOk (ma S0 1) t) (hl1 : 1 ≤ left) (hl : left ≤ 3) (hC : ∀ (st : MS) (set : Int32) (N1 : Nat), MS0 nt S0 st → StOk st N1 → N1 ≤ N → ma st 1 = sA → ∃ (st' : MS) (N' : Nat), F_X12_looksFrom G m' (encM G b st h0) nx b (-1) (nI dd) (nI left) set (nI 0) = some (loG nt set V nt sA, encM G b st' h0, nx) ∧ MLk left nt st st' N1 N' 0) (S1 : MS) (hS1 : MS0 nt S0 S1) (hs1 : ma S1 1 = sA) : ∀ (r n m : Nat) (st : MS) (Nc : Nat), n + r = 2 ^ nt → r < m → MLk left nt S1 st N Nc 0 → ∃ (st' : MS) (N' : Nat), F_X12_meanFrom_50 G (F_X12_looksFrom G m') cm m (encM G b st h0) nx b (nI dd) (nI left) (bsS (fun set => loG nt set V nt sA) lk n).2.1 (bsS (fun set => loG nt set V nt sA) lk n).1 (bsS (fun set => loG nt set V nt sA) lk n).2.2 (nI n) = some (baF sA nt + (bsS (fun set => loG nt set V nt sA) lk (2 ^ nt)).2.1, encM G b st' h0, nx) ∧ MBs left nt S1 st' N N' (bsS (fun set => loG nt set V nt sA) lk (2 ^ nt)).2.2 := by
  have hn := hL.2.1
  have h2n := two_le hn
  have hl4 := hL.2.2.2
  generalize hf : (fun set => loG nt set V nt sA) = f
  have hfe : ∀ x, loG nt x V nt sA = f x := fun x => by rw [← hf]
  intro r
  induction r with
  | zero =>
    intro n m st Nc hr hm hS
    obtain ⟨m, rfl⟩ : ∃ q, m = q + 1 := ⟨m - 1, by omega⟩
    have hr : n = 2 ^ nt := by omega
    subst hr
    have s1 : ma st 1 = sA := (hS.1.ofa 1 (by decide)).trans hs1
    have hS2 : MS0 nt S0 st := hS1.mk (FX.of hS.1) (by rw [s1, hs1]; exact AgN.rf)
    have hA := hS2.2.ag hn
    have a1 : ma st 1 1 = nI nt := (LkOk_ag hA hL).1
    have eb := f_bringsAll (G := G) (b := b) (h0 := h0) (nx := nx) (st := msi st 26 (bsS f lk (2 ^ nt)).2.2) (nt := nt) (by rw [ma_msi]; exact a1) hn (fun t q => by rw [ma_msi]; exact ThOk_ag hA (ht t q))
    rw [F_X12_meanFrom_50_s]
    simp (maxSteps := 3000000) (disch := omega) only [a1, shl_n hn, eb, ma_msa_n, ma_msa_s, mi_msi_n, mi_msi_s, ml_msl_n, ml_msl_s, ma_msi, ma_msl, mi_msa, mi_msl, ml_msa, ml_msi, msa_msa, msi_msi, msl_msl, ck_m, gf_s, gf_image, gf_truths, gf_knownRow, gf_daysRow, gf_bests, gf_nots, gf_lookeds, gf_bestsAt, gf_worths, gf_keptKnown, gf_keptDays, gf_round, gf_sums, gf_bestRound, gf_bodies, gf_thrown, gf_hasImage, gf_act, gf_spot, gf_size, gf_isWrong, gf_open, gf_edgeThing, gf_edgeMore, gf_stamp, gf_whose, gf_wage, gf_roundMany, gf_bestSet, gf_ran, gf_kind, gf_who, gf_tellsV, pf_thrown, pf_hasImage, pf_act, pf_spot, pf_size, pf_isWrong, pf_open, pf_edgeThing, pf_edgeMore, pf_stamp, pf_whose, pf_wage, pf_roundMany, pf_bestSet, pf_ran, pf_kind, pf_who, pf_tellsV, al_s, as_s, al_image, as_image, al_truths, as_truths0, as_truths1, al_knownRow, as_knownRow, al_daysRow, as_daysRow, al_bests, as_bests, al_nots, as_nots, al_lookeds, as_lookeds, al_bestsAt, as_bestsAt, al_worths, as_worths, al_keptKnown, as_keptKnown, al_keptDays, as_keptDays, al_round, as_round, al_sums, as_sums, al_bestRound, as_bestRound, al_bodies, as_bodies, cl_some, nm_b, nn_some, qn_some, qn_none, zk_0, zk_1, zk_n0, zk_n1, nI_add, pk_mul, pk_sub, nI_leE, nI_ltE, nI_eqE, nI_lt0, nI_ge0, nI_eq0, nI_gt0, nI_le0, ilt_t, ilt_f, ile_t, ile_f, ieq_t, ieq_f, if_tt, if_ff, Nat.add_sub_cancel]
    refine ⟨msi st 26 (bsS f lk (2 ^ nt)).2.2, Nc, ?_, ⟨(hS.1.trans (FrM.msi (ks := [26]) (by decide))).mono (by decide), StOk_fr (FrM.msi (k := 26) (ks := [26]) (by decide)) (by decide) (by decide) hS.2.1, hS.2.2.1, hS.2.2.2⟩, mi_msi_s⟩
    rw [s1]
  | succ r ih =>
    intro n m st Nc hr hm hS
    obtain ⟨m, rfl⟩ : ∃ q, m = q + 1 := ⟨m - 1, by omega⟩
    have s1 : ma st 1 = sA := (hS.1.ofa 1 (by decide)).trans hs1
    have hS2 : MS0 nt S0 st := hS1.mk (FX.of hS.1) (by rw [s1, hs1]; exact AgN.rf)
    have hA := hS2.2.ag hn
    have hLs := LkOk_ag hA hL
    have a1 : ma st 1 1 = nI nt := hLs.1
    have es : bsS f lk (n + 1) = if cnF (nI n) 8 = nI lk then (if (bsS f lk n).1 = 0 ∨ (bsS f lk n).2.1 < f (nI n) then (nI 1, f (nI n), nI n) else bsS f lk n) else bsS f lk n := rfl
    have h01 := bsS_1 (f := f) (lk := lk) n
    rw [F_X12_meanFrom_50_s]
    unfold F_X12_meanFrom_100 F_X12_meanFrom_107 F_X12_meanFrom_122 F_X12_meanFrom_129 F_X12_meanFrom_134
    simp (maxSteps := 3000000) (disch := omega) only [a1, shl_n hn, f_count1, f_looking, hLs.2.2.1, ma_msa_n, ma_msa_s, mi_msi_n, mi_msi_s, ml_msl_n, ml_msl_s, ma_msi, ma_msl, mi_msa, mi_msl, ml_msa, ml_msi, msa_msa, msi_msi, msl_msl, ck_m, gf_s, gf_image, gf_truths, gf_knownRow, gf_daysRow, gf_bests, gf_nots, gf_lookeds, gf_bestsAt, gf_worths, gf_keptKnown, gf_keptDays, gf_round, gf_sums, gf_bestRound, gf_bodies, gf_thrown, gf_hasImage, gf_act, gf_spot, gf_size, gf_isWrong, gf_open, gf_edgeThing, gf_edgeMore, gf_stamp, gf_whose, gf_wage, gf_roundMany, gf_bestSet, gf_ran, gf_kind, gf_who, gf_tellsV, pf_thrown, pf_hasImage, pf_act, pf_spot, pf_size, pf_isWrong, pf_open, pf_edgeThing, pf_edgeMore, pf_stamp, pf_whose, pf_wage, pf_roundMany, pf_bestSet, pf_ran, pf_kind, pf_who, pf_tellsV, al_s, as_s, al_image, as_image, al_truths, as_truths0, as_truths1, al_knownRow, as_knownRow, al_daysRow, as_daysRow, al_bests, as_bests, al_nots, as_nots, al_lookeds, as_lookeds, al_bestsAt, as_bestsAt, al_worths, as_worths, al_keptKnown, as_keptKnown, al_keptDays, as_keptDays, al_round, as_round, al_sums, as_sums, al_bestRound, as_bestRound, al_bodies, as_bodies, cl_some, nm_b, nn_some, qn_some, qn_none, zk_0, zk_1, zk_n0, zk_n1, nI_add, pk_mul, pk_sub, nI_leE, nI_ltE, nI_eqE, nI_lt0, nI_ge0, nI_eq0, nI_gt0, nI_le0, ilt_t, ilt_f, ile_t, ile_f, ieq_t, ieq_f, if_tt, if_ff, Nat.add_sub_cancel]
    by_cases c : cnF (nI n) 8 = nI lk
    · rw [if_pos c] at es ⊢
      obtain ⟨st2, N2, e2, m2⟩ := hC st (nI n) Nc hS2 hS.2.1 hS.2.2.1 s1
      rw [hfe] at e2
      have hS3 : MLk left nt S1 st2 N N2 0 := ⟨(hS.1.trans m2.1).mono (by decide), m2.2.1, by have := m2.2.2.1; have := hS.2.2.1; omega, fun i hi => ⟨((m2.2.2.2 i hi).1).trans (hS.2.2.2 i hi).1, ((m2.2.2.2 i hi).2).trans (hS.2.2.2 i hi).2⟩⟩
      have go := ih (n + 1) m st2 N2 (by omega) (by omega) hS3
      rw [es] at go
      simp (maxSteps := 3000000) (disch := omega) only [e2, ma_msa_n, ma_msa_s, mi_msi_n, mi_msi_s, ml_msl_n, ml_msl_s, ma_msi, ma_msl, mi_msa, mi_msl, ml_msa, ml_msi, msa_msa, msi_msi, msl_msl, ck_m, gf_s, gf_image, gf_truths, gf_knownRow, gf_daysRow, gf_bests, gf_nots, gf_lookeds, gf_bestsAt, gf_worths, gf_keptKnown, gf_keptDays, gf_round, gf_sums, gf_bestRound, gf_bodies, gf_thrown, gf_hasImage, gf_act, gf_spot, gf_size, gf_isWrong, gf_open, gf_edgeThing, gf_edgeMore, gf_stamp, gf_whose, gf_wage, gf_roundMany, gf_bestSet, gf_ran, gf_kind, gf_who, gf_tellsV, pf_thrown, pf_hasImage, pf_act, pf_spot, pf_size, pf_isWrong, pf_open, pf_edgeThing, pf_edgeMore, pf_stamp, pf_whose, pf_wage, pf_roundMany, pf_bestSet, pf_ran, pf_kind, pf_who, pf_tellsV, al_s, as_s, al_image, as_image, al_truths, as_truths0, as_truths1, al_knownRow, as_knownRow, al_daysRow, as_daysRow, al_bests, as_bests, al_nots, as_nots, al_lookeds, as_lookeds, al_bestsAt, as_bestsAt, al_worths, as_worths, al_keptKnown, as_keptKnown, al_keptDays, as_keptDays, al_round, as_round, al_sums, as_sums, al_bestRound, as_bestRound, al_bodies, as_bodies, cl_some, nm_b, nn_some, qn_some, qn_none, zk_0, zk_1, zk_n0, zk_n1, nI_add, pk_mul, pk_sub, nI_leE, nI_ltE, nI_eqE, nI_lt0, nI_ge0, nI_eq0, nI_gt0, nI_le0, ilt_t, ilt_f, ile_t, ile_f, ieq_t, ieq_f, if_tt, if_ff, Nat.add_sub_cancel]
      by_cases c0 : (bsS f lk n).1 = 0
      · rw [if_pos c0, if_pos c0]
        rw [if_pos (Or.inl c0)] at go
        exact go
      · rw [if_neg c0, if_neg c0]
        by_cases c2 : f (nI n) ≤ (bsS f lk n).2.1
        · rw [if_pos ((lg_cmp_le _ _).mpr c2), if_pos ((lg_cmp_le _ _).mpr c2)]
          rw [if_neg (fun q => q.elim c0 (fun z => Int64.not_lt.mpr c2 z))] at go
          have h1 : (bsS f lk n).1 = nI 1 := h01.resolve_left c0
          rw [h1] at go
          exact go
        · rw [if_neg (fun q => c2 ((lg_cmp_le _ _).mp q)), if_neg c0, if_neg (fun q => c2 ((lg_cmp_le _ _).mp q))]
          rw [if_pos (Or.inr (Int64.not_le.mp c2))] at go
          exact go
    · rw [if_neg c] at es ⊢
      have go := ih (n + 1) m st Nc (by omega) (by omega) hS
      rw [es] at go
      exact go
set_option maxRecDepth 100000 in
set_option maxHeartbeats 4000000 in
theorem f_meanBest {G : Gx} {b : Nat} {h0 : Hp} {nx : Nat} {S0 : MS} {nt lk : Nat} (hL : LkOk (ma S0 1) nt lk) (ht : ∀ t, t < nt → ThOk (ma S0 1) t) (h25 : mi S0 25 = nI 0) : ∀ (left dd m : Nat), left ≤ 3 → MF nt left ≤ m → ∀ (st : MS) (N : Nat), MS0 nt S0 st → StOk st N → N < 2 ^ 31 → ∃ (st' : MS) (N' : Nat), F_X12_meanFrom G m (encM G b st h0) nx b (-1) (nI dd) (nI left) = some (beG S0 nt lk left (ma st 1), encM G b st' h0, nx) ∧ MLk left nt st st' N N' 0 ∧ (1 ≤ left → mi st' 26 = (bsS (fun set => loG nt set (fun s' => beG S0 nt lk (left - 1) (ovP S0 s' nt)) nt (ma st 1)) lk (2 ^ nt)).2.2) := by
  have hn := hL.2.1
  intro left
  induction left with
  | zero =>
    intro dd m hl hm st N hS hN hb
    obtain ⟨m', rfl⟩ : ∃ z, m = z + 1 := ⟨m - 1, by unfold MF at hm; omega⟩
    refine ⟨st, N, ?_, ⟨FrM.rf, hN, by omega, fun i _ => ⟨rfl, rfl⟩⟩, fun q => by omega⟩
    rw [F_X12_meanFrom_s]
    unfold B_X12_meanFrom
    simp (maxSteps := 3000000) (disch := omega) only [ma_msa_n, ma_msa_s, mi_msi_n, mi_msi_s, ml_msl_n, ml_msl_s, ma_msi, ma_msl, mi_msa, mi_msl, ml_msa, ml_msi, msa_msa, msi_msi, msl_msl, ck_m, gf_s, gf_image, gf_truths, gf_knownRow, gf_daysRow, gf_bests, gf_nots, gf_lookeds, gf_bestsAt, gf_worths, gf_keptKnown, gf_keptDays, gf_round, gf_sums, gf_bestRound, gf_bodies, gf_thrown, gf_hasImage, gf_act, gf_spot, gf_size, gf_isWrong, gf_open, gf_edgeThing, gf_edgeMore, gf_stamp, gf_whose, gf_wage, gf_roundMany, gf_bestSet, gf_ran, gf_kind, gf_who, gf_tellsV, pf_thrown, pf_hasImage, pf_act, pf_spot, pf_size, pf_isWrong, pf_open, pf_edgeThing, pf_edgeMore, pf_stamp, pf_whose, pf_wage, pf_roundMany, pf_bestSet, pf_ran, pf_kind, pf_who, pf_tellsV, al_s, as_s, al_image, as_image, al_truths, as_truths0, as_truths1, al_knownRow, as_knownRow, al_daysRow, as_daysRow, al_bests, as_bests, al_nots, as_nots, al_lookeds, as_lookeds, al_bestsAt, as_bestsAt, al_worths, as_worths, al_keptKnown, as_keptKnown, al_keptDays, as_keptDays, al_round, as_round, al_sums, as_sums, al_bestRound, as_bestRound, al_bodies, as_bodies, cl_some, nm_b, nn_some, qn_some, qn_none, zk_0, zk_1, zk_n0, zk_n1, nI_add, pk_mul, pk_sub, nI_leE, nI_ltE, nI_eqE, nI_lt0, nI_ge0, nI_eq0, nI_gt0, nI_le0, ilt_t, ilt_f, ile_t, ile_f, ieq_t, ieq_f, if_tt, if_ff, Nat.add_sub_cancel]
    rfl
  | succ left ih =>
    intro dd m hl hm st N hS hN hb
    have hMF : MF nt (left + 1) = MF nt left + nt + 2 := rfl
    obtain ⟨m', rfl⟩ : ∃ z, m = z + 1 := ⟨m - 1, by omega⟩
    have h2n := two_le hn
    have q25 : mi st 25 = nI 0 := by rw [hS.1.f1 25 (by decide)]; exact h25
    have ec : (fun s => if left + 1 = 1 then (0 : Int64) else beG S0 nt lk left (ovP S0 s nt)) = fun s' => beG S0 nt lk left (ovP S0 s' nt) := by
      funext s
      cases left with
      | zero => rfl
      | succ l => exact if_neg (by omega)
    obtain ⟨st', N', e, hM⟩ := f_best50 (G := G) (b := b) (h0 := h0) (nx := nx) (S0 := S0) (nt := nt) (left := left + 1) (lk := lk) (N := N) (dd := dd) (V := fun s' => beG S0 nt lk left (ovP S0 s' nt)) (cm := F_X12_meanFrom G m') (m' := m') (sA := ma st 1) hL ht (by omega) hl (fun st1 set N1 q1 q2 q3 q4 => by
      obtain ⟨st3, N3, e3, m3⟩ := f_looks (G := G) (b := b) (h0 := h0) (nx := nx) (S0 := S0) (nt := nt) (left := left + 1) (dd := dd) (w := 0) (M0 := MF nt left) (pl := -1) (set := set) (V := beG S0 nt lk left) hL.1 hn ht (by omega) hl (fun _ m hm st N a1 a2 a3 => by
        obtain ⟨st4, N4, e4, m4, _⟩ := ih (dd + 1) m (by omega) hm st N a1 a2 (by omega)
        exact ⟨st4, N4, e4, m4⟩) m' st1 N1 (by omega) q1 q2 (by rw [Nat.zero_mul]; omega)
      rw [ec, q4] at e3
      rw [Nat.zero_mul] at m3
      exact ⟨st3, N3, e3, m3⟩) st hS rfl (2 ^ nt) 0 fuelL st N (by omega) (by unfold fuelL; omega) ⟨FrM.rf, hN, by omega, fun i _ => ⟨rfl, rfl⟩⟩
    refine ⟨st', N', ?_, hM.1, fun _ => hM.2⟩
    rw [F_X12_meanFrom_s]
    unfold B_X12_meanFrom
    simp (maxSteps := 3000000) (disch := omega) only [q25, ma_msa_n, ma_msa_s, mi_msi_n, mi_msi_s, ml_msl_n, ml_msl_s, ma_msi, ma_msl, mi_msa, mi_msl, ml_msa, ml_msi, msa_msa, msi_msi, msl_msl, ck_m, gf_s, gf_image, gf_truths, gf_knownRow, gf_daysRow, gf_bests, gf_nots, gf_lookeds, gf_bestsAt, gf_worths, gf_keptKnown, gf_keptDays, gf_round, gf_sums, gf_bestRound, gf_bodies, gf_thrown, gf_hasImage, gf_act, gf_spot, gf_size, gf_isWrong, gf_open, gf_edgeThing, gf_edgeMore, gf_stamp, gf_whose, gf_wage, gf_roundMany, gf_bestSet, gf_ran, gf_kind, gf_who, gf_tellsV, pf_thrown, pf_hasImage, pf_act, pf_spot, pf_size, pf_isWrong, pf_open, pf_edgeThing, pf_edgeMore, pf_stamp, pf_whose, pf_wage, pf_roundMany, pf_bestSet, pf_ran, pf_kind, pf_who, pf_tellsV, al_s, as_s, al_image, as_image, al_truths, as_truths0, as_truths1, al_knownRow, as_knownRow, al_daysRow, as_daysRow, al_bests, as_bests, al_nots, as_nots, al_lookeds, as_lookeds, al_bestsAt, as_bestsAt, al_worths, as_worths, al_keptKnown, as_keptKnown, al_keptDays, as_keptDays, al_round, as_round, al_sums, as_sums, al_bestRound, as_bestRound, al_bodies, as_bodies, cl_some, nm_b, nn_some, qn_some, qn_none, zk_0, zk_1, zk_n0, zk_n1, nI_add, pk_mul, pk_sub, nI_leE, nI_ltE, nI_eqE, nI_lt0, nI_ge0, nI_eq0, nI_gt0, nI_le0, ilt_t, ilt_f, ile_t, ile_f, ieq_t, ieq_f, if_tt, if_ff, Nat.add_sub_cancel]
    exact e
