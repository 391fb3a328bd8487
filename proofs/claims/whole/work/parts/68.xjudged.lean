/-! THE CLASS: the greatest set; a told plan judged -/
def smB (W : Nat → Nat) (b : Nat → Bool) : Nat → Nat
  | 0 => 0
  | t + 1 => smB W b t + if b t = true then W t else 0
def cnB (b : Nat → Bool) (t : Nat) : Nat := smB (fun _ => 1) b t
theorem smB_cg {W : Nat → Nat} {b b' : Nat → Bool} : ∀ t, (∀ j, j < t → b' j = b j) → smB W b' t = smB W b t
  | 0, _ => rfl
  | t + 1, h => by
    show smB W b' t + (if b' t = true then W t else 0) = smB W b t + (if b t = true then W t else 0)
    rw [smB_cg t (fun j hj => h j (by omega)), h t (by omega)]
def rmB (b : Nat → Bool) (j : Nat) : Nat → Bool := fun i => if i = j then false else b i
theorem smB_rm {W : Nat → Nat} {b : Nat → Bool} {j : Nat} : ∀ t, j < t → b j = true → smB W b t = W j + smB W (rmB b j) t
  | 0, h, _ => absurd h (by omega)
  | t + 1, h, hb => by
    show smB W b t + (if b t = true then W t else 0) = W j + (smB W (rmB b j) t + (if rmB b j t = true then W t else 0))
    by_cases e : t = j
    · subst e
      have e1 : smB W (rmB b t) t = smB W b t := smB_cg t (fun i hi => if_neg (by omega))
      have e2 : rmB b t t = false := if_pos rfl
      rw [e1, e2, if_pos hb, if_neg (by decide)]
      omega
    · have e2 : rmB b j t = b t := if_neg e
      rw [smB_rm t (by omega) hb, e2]
      omega
theorem cnB_le {b g : Nat → Bool} : ∀ t, (∀ j, j < t → b j = true → g j = true) → cnB b t ≤ cnB g t
  | 0, _ => Nat.le_refl _
  | t + 1, h => by
    have ih := cnB_le (b := b) (g := g) t (fun j hj => h j (by omega))
    unfold cnB at *
    show smB (fun _ => 1) b t + (if b t = true then 1 else 0) ≤ smB (fun _ => 1) g t + (if g t = true then 1 else 0)
    by_cases c : b t = true
    · rw [if_pos c, if_pos (h t (by omega) c)]
      omega
    · rw [if_neg c]
      omega
theorem cnB_ex {b g : Nat → Bool} {t : Nat} (h : cnB g t < cnB b t) : ∃ j, j < t ∧ b j = true ∧ g j = false := by
  refine Decidable.byContradiction (fun hn => ?_)
  have := cnB_le (b := b) (g := g) t (fun j hj hb => by
    cases hg : g j
    · exact absurd ⟨j, hj, hb, hg⟩ hn
    · rfl)
  omega
theorem cnB_N {x : Int32} : ∀ t, cnN x t = cnB (bt x) t
  | 0 => rfl
  | t + 1 => by
    have ih := cnB_N (x := x) t
    unfold cnB at *
    show _ = smB (fun _ => 1) (bt x) t + (if bt x t = true then 1 else 0)
    unfold cnN
    rw [ih]
theorem bitI_n0 {x : Int32} {t : Nat} (ht : t < 8) : bitI x t = nI 0 ↔ bt x t = false := bitI_0 ht
theorem pick_spec {Wi : Nat → Int32} {set : Int32} : ∀ t, t ≤ 8 → (pickF Wi set t = -1 ∧ ∀ j, j < t → bt set j = true) ∨ ∃ p, p < t ∧ pickF Wi set t = nI p ∧ bt set p = false ∧ ∀ j, j < t → bt set j = false → ¬ Wi p < Wi j
  | 0, _ => Or.inl ⟨rfl, fun j hj => absurd hj (by omega)⟩
  | t + 1, ht => by
    rw [pick_s]
    by_cases cb : bt set t = false
    · have c0 : bitI set t = nI 0 := (bitI_n0 (by omega)).mpr cb
      rcases pick_spec (Wi := Wi) (set := set) t (by omega) with ⟨e, h⟩ | ⟨p, hp, e, hb, h⟩
      · rw [if_pos ⟨c0, Or.inl e⟩]
        refine Or.inr ⟨t, by omega, rfl, cb, fun j hj hjb => ?_⟩
        by_cases ej : j = t
        · subst ej; rw [fa_lt]; omega
        · have := h j (by omega)
          rw [this] at hjb
          exact absurd hjb (by decide)
      · have en : ¬ nI p = -1 := fun z => by
          have h2 : (0 : Int32) ≤ nI p := nI_pos' (by omega)
          rw [z] at h2
          exact absurd h2 (by decide)
        by_cases cw : Wi p < Wi t
        · rw [if_pos ⟨c0, Or.inr (by rw [e, nI_clamp (by omega)]; exact cw)⟩]
          refine Or.inr ⟨t, by omega, rfl, cb, fun j hj hjb => ?_⟩
          by_cases ej : j = t
          · subst ej; rw [fa_lt]; omega
          · have := h j (by omega) hjb
            rw [fa_lt] at *
            omega
        · rw [if_neg (fun z => z.2.elim (fun z => en (e ▸ z)) (fun z => by rw [e, nI_clamp (by omega)] at z; exact cw z))]
          refine Or.inr ⟨p, by omega, e, hb, fun j hj hjb => ?_⟩
          by_cases ej : j = t
          · subst ej; exact cw
          · exact h j (by omega) hjb
    · have cb : bt set t = true := by cases hh : bt set t; exact absurd hh cb; rfl
      have c0 : ¬ bitI set t = nI 0 := fun z => by
        rw [(bitI_n0 (by omega)).mp z] at cb
        exact absurd cb (by decide)
      rw [if_neg (fun z => c0 z.1)]
      rcases pick_spec (Wi := Wi) (set := set) t (by omega) with ⟨e, h⟩ | ⟨p, hp, e, hb, h⟩
      · refine Or.inl ⟨e, fun j hj => ?_⟩
        by_cases ej : j = t
        · subst ej; exact cb
        · exact h j (by omega)
      · refine Or.inr ⟨p, by omega, e, hb, fun j hj hjb => ?_⟩
        by_cases ej : j = t
        · subst ej; rw [cb] at hjb; exact absurd hjb (by decide)
        · exact h j (by omega) hjb
theorem gr_step {Wi : Nat → Int32} {nt n : Nat} (h8 : nt ≤ 8) (hn : n < nt) : ∃ p, p < nt ∧ bt (grF Wi nt n) p = false ∧ (∀ j, j < nt → bt (grF Wi nt n) j = false → ¬ Wi p < Wi j) ∧ ∀ j, j < nt → bt (grF Wi nt (n + 1)) j = if j = p then true else bt (grF Wi nt n) j := by
  rcases pick_spec (Wi := Wi) (set := grF Wi nt n) nt h8 with ⟨e, h⟩ | ⟨p, hp, e, hb, h⟩
  · obtain ⟨j, hj, ej⟩ := pick_some (W := Wi) (n := n) h8 hn
    rw [ej] at e
    have h2 : (0 : Int32) ≤ nI j := nI_pos' (by omega)
    rw [e] at h2
    exact absurd h2 (by decide)
  · refine ⟨p, hp, hb, h, fun j hj => ?_⟩
    show bt (grF Wi nt n ||| (nI 1 <<< (pickF Wi (grF Wi nt n) nt &&& 31))) j = _
    rw [bt_or, e, bt_shN (by omega) (by omega)]
    by_cases c : j = p
    · subst c
      rw [if_pos rfl, decide_eq_true rfl, Bool.or_true]
    · rw [if_neg c, decide_eq_false c, Bool.or_false]
theorem gr_ad2 {Wi : Nat → Int32} {nt n p : Nat} (V : Nat → Nat) (hp : p < nt) (hb : bt (grF Wi nt n) p = false) (h : ∀ j, j < nt → bt (grF Wi nt (n + 1)) j = if j = p then true else bt (grF Wi nt n) j) : smB V (bt (grF Wi nt (n + 1))) nt = V p + smB V (bt (grF Wi nt n)) nt := by
  rw [smB_rm nt hp (by rw [h p hp, if_pos rfl]), smB_cg (b := bt (grF Wi nt n)) nt (fun j hj => by
    unfold rmB
    by_cases c : j = p
    · subst c; rw [if_pos rfl, hb]
    · rw [if_neg c, h j hj, if_neg c])]
theorem gr_cnt {Wi : Nat → Int32} {nt : Nat} (h8 : nt ≤ 8) : ∀ n, n ≤ nt → cnB (bt (grF Wi nt n)) nt = n
  | 0, _ => by
    have : ∀ t, cnB (bt (grF Wi nt 0)) t = 0 := fun t => by
      have e := cnB_N (x := nI 0) t
      show cnB (bt (nI 0)) t = 0
      rw [← e]
      exact cnN_z
    exact this nt
  | n + 1, hn => by
    obtain ⟨p, hp, hb, _, h⟩ := gr_step (Wi := Wi) h8 (show n < nt by omega)
    have ih := gr_cnt (Wi := Wi) h8 n (by omega)
    unfold cnB at *
    rw [gr_ad2 (fun _ => 1) hp hb h, ih]
    omega
theorem gr_max {Wi : Nat → Int32} {W : Nat → Nat} {nt : Nat} (h8 : nt ≤ 8) (hW : ∀ j, j < nt → Wi j = nI (W j) ∧ W j < 2 ^ 31) : ∀ n, n ≤ nt → ∀ b : Nat → Bool, cnB b nt = n → smB W b nt ≤ smB W (bt (grF Wi nt n)) nt
  | 0, _, b, hb => by
    have : ∀ t, cnB b t = 0 → smB W b t = 0 := fun t => by
      induction t with
      | zero => intro _; rfl
      | succ t ih =>
        intro h
        unfold cnB at *
        have h : smB (fun _ => 1) b t + (if b t = true then 1 else 0) = 0 := h
        show smB W b t + (if b t = true then W t else 0) = 0
        by_cases c : b t = true
        · rw [if_pos c] at h; omega
        · rw [if_neg c, ih (by omega)]
    rw [this nt hb]
    omega
  | n + 1, hn, b, hb => by
    obtain ⟨p, hp, hpb, hm, h⟩ := gr_step (Wi := Wi) h8 (show n < nt by omega)
    have gc := gr_cnt (Wi := Wi) h8 n (by omega)
    obtain ⟨j, hj, hjb, hjg⟩ := cnB_ex (b := b) (g := bt (grF Wi nt n)) (t := nt) (by omega)
    have hc : cnB (rmB b j) nt = n := by
      unfold cnB at *
      rw [smB_rm nt hj hjb] at hb
      omega
    have ih := gr_max h8 hW n (by omega) (rmB b j) hc
    have hle := hm j hj hjg
    rw [(hW p hp).1, (hW j hj).1, nI_ltE (hW p hp).2 (hW j hj).2] at hle
    rw [gr_ad2 W hp hpb h, smB_rm nt hj hjb]
    omega
theorem smB_le {W : Nat → Nat} {b : Nat → Bool} : ∀ t, t ≤ 8 → (∀ j, j < t → W j ≤ 1000000) → smB W b t ≤ 1000000 * t
  | 0, _, _ => Nat.le_refl _
  | t + 1, ht, h => by
    have ih := smB_le (b := b) t (by omega) (fun j hj => h j (by omega))
    have := h t (by omega)
    show smB W b t + (if b t = true then W t else 0) ≤ _
    split <;> omega
theorem db_sm {s : Nat → Int32} {W : Nat → Nat} {x : Int32} : ∀ t, t ≤ 8 → (∀ j, j < t → nI 1000000 - s (1034 + j) = nI (W j) ∧ W j ≤ 1000000) → dbF s x t = lN (smB W (bt x) t)
  | 0, _, _ => rfl
  | t + 1, ht, h => by
    have ih := db_sm (x := x) t (by omega) (fun j hj => h j (by omega))
    have hw := h t (by omega)
    show dbF s x t + (if bitI x t = nI 1 then (nI 1000000 - s (1034 + t)).toInt64 else 0) = lN (smB W (bt x) t + (if bt x t = true then W t else 0))
    rw [ih, hw.1]
    by_cases c : bt x t = true
    · rw [if_pos ((bitI_1 (by omega)).mpr c), if_pos c, nI_l (by omega), lN_add]
    · rw [if_neg (fun z => c ((bitI_1 (by omega)).mp z)), if_neg c]
      exact Int64.add_zero _
theorem to_sm {s Wi : Nat → Int32} {W : Nat → Nat} {x : Int32} : ∀ t, t ≤ 8 → (∀ j, j < t → Wi j = nI (W j)) → (toA s Wi x t).1 = nI (smB W (bt x) t)
  | 0, _, _ => rfl
  | t + 1, ht, h => by
    have ih := to_sm (s := s) (x := x) t (by omega) (fun j hj => h j (by omega))
    have hw := h t (by omega)
    show (if bitI x t = nI 1 then _ else _ : Int32 × Int32).1 = nI (smB W (bt x) t + (if bt x t = true then W t else 0))
    by_cases c : bt x t = true
    · rw [if_pos ((bitI_1 (by omega)).mpr c), if_pos c]
      show (toA s Wi x t).1 + Wi t = _
      rw [ih, hw, nI_add]
    · rw [if_neg (fun z => c ((bitI_1 (by omega)).mp z)), if_neg c]
      show (toA s Wi x t).1 + nI 0 = _
      rw [ih, nI_add]
theorem jdT_all {s : Nat → Int32} {set : Int32} {nt lk i : Nat} : ∀ n, (∀ m, m < n → cnF (nI m) 8 = nI lk → dbF s (nI m) nt ≤ dbF s set nt) → jdT s set nt lk i n = -5
  | 0, _ => rfl
  | n + 1, h => by
    have ih := jdT_all (i := i) n (fun m hm => h m (by omega))
    unfold jdT
    by_cases c : cnF (nI n) 8 = nI lk
    · rw [if_pos c, if_pos (h n (by omega) c), ih]
    · rw [if_neg c, ih]
theorem jdT_ex {s : Nat → Int32} {set : Int32} {nt lk i : Nat} : ∀ n, (∃ m, m < n ∧ cnF (nI m) 8 = nI lk ∧ ¬ dbF s (nI m) nt ≤ dbF s set nt) → jdT s set nt lk i n = nI i
  | 0, h => by
    obtain ⟨m, hm, _⟩ := h
    exact absurd hm (by omega)
  | n + 1, h => by
    obtain ⟨m, hm, h1, h2⟩ := h
    unfold jdT
    by_cases e : m = n
    · subst e
      rw [if_pos h1, if_neg h2]
    · have ih := jdT_ex (i := i) n ⟨m, by omega, h1, h2⟩
      rw [ih]
      split
      · split <;> rfl
      · rfl
theorem cn_nt {m nt : Nat} (h8 : nt ≤ 8) (hm : m < 2 ^ nt) : cnN (nI m) 8 = cnN (nI m) nt := by
  have h256 := two_le h8
  have key : ∀ r, nt + r ≤ 8 → cnN (nI m) (nt + r) = cnN (nI m) nt := by
    intro r
    induction r with
    | zero => intro _; rfl
    | succ r ih =>
      intro hr
      have hz : bt (nI m) (nt + r) = false := (bitI_0 (by omega)).mp (bit_lt ⟨m, by omega⟩ ⟨nt + r, by omega⟩ (Nat.lt_of_lt_of_le hm (Nat.pow_le_pow_right (by decide) (Nat.le_add_right nt r))))
      show cnN (nI m) (nt + r) + (if bt (nI m) (nt + r) = true then 1 else 0) = _
      rw [hz, ih (by omega), if_neg (by decide)]
      rfl
  have := key (8 - nt) (by omega)
  rw [show nt + (8 - nt) = 8 by omega] at this
  exact this
/-- the greatest sum of a set is that of the greatest one after the other -/
theorem jd_eq {s Wi : Nat → Int32} {W : Nat → Nat} {set : Int32} {nt lk i : Nat} (h8 : nt ≤ 8) (hlk : lk ≤ nt) (hs : ∀ j, j < nt → nI 1000000 - s (1034 + j) = nI (W j) ∧ W j ≤ 1000000) (hW : ∀ j, j < nt → Wi j = nI (W j)) : jdT s set nt lk i (2 ^ nt) = if (toA s Wi (grF Wi nt lk) nt).1 ≤ (toA s Wi set nt).1 then -5 else nI i := by
  have b1 := smB_le (W := W) (b := bt (grF Wi nt lk)) nt h8 (fun j hj => (hs j hj).2)
  have b2 := smB_le (W := W) (b := bt set) nt h8 (fun j hj => (hs j hj).2)
  have hle : ∀ x y : Int32, dbF s x nt ≤ dbF s y nt ↔ smB W (bt x) nt ≤ smB W (bt y) nt := fun x y => by
    have c1 := smB_le (W := W) (b := bt x) nt h8 (fun j hj => (hs j hj).2)
    have c2 := smB_le (W := W) (b := bt y) nt h8 (fun j hj => (hs j hj).2)
    have e1 : (lN (smB W (bt x) nt)).toInt = ((smB W (bt x) nt : Nat) : Int) := lN_toInt (by omega)
    have e2 : (lN (smB W (bt y) nt)).toInt = ((smB W (bt y) nt : Nat) : Int) := lN_toInt (by omega)
    rw [db_sm nt h8 hs, db_sm nt h8 hs, fa_le64, e1, e2]
    omega
  rw [to_sm nt h8 hW, to_sm nt h8 hW]
  have hil : nI (smB W (bt (grF Wi nt lk)) nt) ≤ nI (smB W (bt set) nt) ↔ smB W (bt (grF Wi nt lk)) nt ≤ smB W (bt set) nt := by rw [nI_leE (by omega) (by omega)]
  by_cases c : smB W (bt (grF Wi nt lk)) nt ≤ smB W (bt set) nt
  · rw [if_pos (hil.mpr c)]
    refine jdT_all _ (fun m hm hc => (hle _ _).mpr ?_)
    have hcn : cnB (bt (nI m)) nt = lk := by
      rw [← cnB_N, ← cn_nt h8 hm]
      rw [cnF_N (by omega)] at hc
      have := cnN_le (x := nI m) (k := 8)
      exact (nI_eq (by omega) (by omega)).mp hc
    exact Nat.le_trans (gr_max h8 (fun j hj => ⟨hW j hj, by have := (hs j hj).2; omega⟩) lk hlk _ hcn) c
  · rw [if_neg (fun z => c (hil.mp z))]
    obtain ⟨g, hg, eg⟩ := set_gr (W := Wi) h8 lk hlk
    refine jdT_ex _ ⟨g, hg, ?_, fun z => c ?_⟩
    · rw [cnF_N (by omega), cn_nt h8 hg, cnB_N, ← eg, gr_cnt h8 lk hlk]
    · rw [← eg] at z
      exact (hle _ _).mp z
theorem sh_up2 {s : Nat → Int32} {t : Nat} {x : Int32} : shF s t x = up2 s t (if x = 0 ∧ valF s t 3 ≤ 0 then nI 0 else nI 1000000) := rfl
section XJD
variable {G : Gx} {X lo nx : Nat} {h0 : Hp} {S : MS} {ns nt np lk td q N days : Nat} {Md : CS → Prop}
theorem TI.over (hMd : MdOk Md) {c : CS} {s : Nat → Int32} {Q : Nat → Nat × Nat} {dd day left : Nat} (hl : 1 ≤ left) (hd : day < 10) {g : Nat → Int32} (hg : ∀ i, i < nt → g i = nI (11 * (Q i).1 + (Q i).2 + 1)) (hT : TI G X lo h0 S ns nt np lk td q N dd days Md c s Q day left) : TI G X lo h0 S ns nt np lk td q N dd days Md (xsa c (92 + day + 1) g) (ovP S s nt) (fun t => ((Q t).1, (Q t).2 + 1)) (day + 1) (left - 1) := by
  obtain ⟨hB, hMm, hA, hS⟩ := hT
  have h8 := x_nt8 hB.1
  have f1 : FrX PA c (xsa c (92 + day + 1) g) := FrX.sa (P := PA) (Or.inr (Or.inl (by omega)))
  have ov := ovP_at (S := S) h8 hA (fun t ht => x_ThOk hB.1 ht) nt (Nat.le_refl _)
  refine ⟨hB.fr hMd f1, hMm.fr (FrX.sa (P := fun k => k = 92 + day + 1) rfl) (fun k h1 h2 z => by omega), hA.trans (ovP_agN h8 (Nat.le_refl _)), fun t ht => ?_⟩
  obtain ⟨s1, s2, s3, s4⟩ := hS t ht
  refine ⟨s1, by show (Q t).2 + 1 + _ ≤ _; omega, ?_, ?_⟩
  · rw [show 92 + (day + 1) = 92 + day + 1 by omega, xa_xsa_s]
    exact hg t ht
  · show (overF S t (paK S t _ (Q t).2).1 (paK S t _ (Q t).2).2, laterF (paK S t _ (Q t).2).2) = _
    rw [s4, (ov.1 t ht).1, (ov.1 t ht).2]
set_option maxRecDepth 100000 in
set_option maxHeartbeats 1000000 in
theorem x_sl2 (hMd : MdOk Md) {day left dd : Nat} {set : Int32} {s : Nat → Int32} (hd10 : day < 10) (hN : dd + left ≤ N) (hN10 : N ≤ 10) : ∀ (r t m : Nat) (c : CS) (Q : Nat → Nat × Nat), t + r = nt → r < m → TI G X lo h0 S ns nt np lk td q N dd days Md c (jsF s set t) Q day left → ∃ (c' : CS) (Q' : Nat → Nat × Nat), F_X9_showLikely_2 G m (encX G X c h0) nx (X + 90) (nI day) set (nI t) = some ((), encX G X c' h0, nx) ∧ TI G X lo h0 S ns nt np lk td q N dd days Md c' (jsF s set nt) Q' day left ∧ FrX PA c c' := by
  intro r
  induction r with
  | zero =>
    intro t m c Q ht hm hT
    obtain ⟨m, rfl⟩ : ∃ q, m = q + 1 := ⟨m - 1, by omega⟩
    obtain rfl : t = nt := by omega
    have h5 := x_thC hT.1.1
    have h8 := x_nt8 hT.1.1
    refine ⟨c, Q, ?_, hT, FrX.rf⟩
    rw [F_X9_showLikely_2_s]
    simp (maxSteps := 3000000) (disch := omega) only [h5, xi_xsi_s, xi_xsi_n, xl_xsi, xa_xsi, xj_xsi, xr_xsi, xsi_xsi, xi_xsl, xl_xsl_s, xl_xsl_n, xa_xsl, xj_xsl, xr_xsl, xsl_xsl, xi_xsa, xl_xsa, xa_xsa_s, xa_xsa_n, xj_xsa, xr_xsa, xsa_xsa, xi_xsj, xl_xsj, xa_xsj, xj_xsj_s, xj_xsj_n, xr_xsj, xsj_xsj, xi_xsr, xl_xsr, xa_xsr, xj_xsr, xr_xsr_s, xr_xsr_n, xsr_xsr, xk_0, xg_0_0, xg_0_1, xg_0_2, xp_0_2, xg_0_3, xg_0_4, xg_0_5, xg_0_6, xk_1, xg_1_0, xg_1_1, xp_1_1, xg_1_2, xg_1_3, xp_1_3, xg_1_4, xg_1_5, xg_1_6, xg_1_7, xg_1_8, xg_1_9, xg_1_10, xg_1_11, xp_1_11, xg_1_12, xg_1_13, xg_1_14, xg_1_15, xp_1_15, xg_1_16, xp_1_16, xg_1_17, xp_1_17, xk_26, xg_26_0, xg_26_1, xp_26_1, xg_26_2, xg_26_3, xp_26_3, xg_26_4, xg_26_5, xg_26_6, xg_26_7, xg_26_8, xg_26_9, xg_26_10, xg_26_11, xp_26_11, xg_26_12, xg_26_13, xg_26_14, xg_26_15, xp_26_15, xg_26_16, xp_26_16, xg_26_17, xp_26_17, xk_51, xg_51_0, xg_51_1, xg_51_2, xg_51_3, xg_51_4, xg_51_5, xg_51_6, xg_51_7, xp_51_7, xg_51_8, xp_51_8, xk_90, xg_90_0, xg_90_1, xg_90_2, xg_90_3, xp_90_3, xg_90_4, xg_90_5, xp_90_5, xg_90_6, xg_90_7, xp_90_7, xg_90_8, xp_90_8, xg_90_9, xp_90_9, xg_90_10, xas_2, xal_2, xal_3, xas_4, xal_4, xln_4, xas_5, xal_5, xln_5, xas_6, xal_6, xln_6, xas_7, xal_7, xln_7, xas_8, xal_8, xln_8, xas_9, xal_9, xln_9, xas0_10, xas1_10, xasb_10, xal_10, xal_11, xas_12, xal_12, xln_12, xas_27, xal_27, xal_28, xas_29, xal_29, xln_29, xas_30, xal_30, xln_30, xas_31, xal_31, xln_31, xas_32, xal_32, xln_32, xas_33, xal_33, xln_33, xas_34, xal_34, xln_34, xas0_35, xas1_35, xasb_35, xal_35, xal_36, xas_37, xal_37, xln_37, xas_88, xal_88, xln_88, xal_89, xas_89, xln_89, xas_103, xal_103, xln_103, xas_104, xal_104, xln_104, xas_105, xal_105, xln_105, xas_106, xal_106, xln_106, xas_107, xal_107, xln_107, xal_13, xal_in14, xas_in14, xln_in14, xal_38, xal_in39, xas_in39, xln_in39, xal_52, xal_in53, xas_in53, xln_in53, xal_61, xal_in62, xas_in62, xln_in62, xal_70, xal_in71, xas_in71, xln_in71, xal_79, xal_in80, xas_in80, xln_in80, xal_91, xal_in92, xas_in92, xln_in92, cl_some, nm_b, nn_some, qn_some, qn_none, zk_0, zk_1, zk_n0, zk_n1, nI_add, pk_mul, pk_sub, nI_leE, nI_ltE, nI_eqE, nI_lt0, nI_ge0, nI_eq0, nI_gt0, nI_le0, ilt_t, ilt_f, ile_t, ile_f, ieq_t, ieq_f, if_tt, if_ff, Nat.add_sub_cancel]
  | succ r ih =>
    intro t m c Q ht hm hT
    obtain ⟨m, rfl⟩ : ∃ q, m = q + 1 := ⟨m - 1, by omega⟩
    obtain ⟨⟨hC, hL, h79, hM⟩, hMm, hA, hS⟩ := id hT
    have h5 := x_thC hC
    have h8 := x_nt8 hC
    have htn : t < nt := by omega
    obtain ⟨a, p, hX⟩ := hC.th htn
    have ha : sN (ma S 1) (1010 + t) = a := hX.2.1
    have hth : ThOk (ma S 1) t := x_ThOk hC htn
    obtain ⟨s1, s2, s3, s4⟩ := hS t htn
    obtain ⟨kn, dn, hkn, _, ekd⟩ := hT.kn t htn
    have ekn : jsF s set t (1034 + t) = nI kn := congrArg Prod.fst ekd
    have hLt := hL t htn
    rw [ha] at hLt
    have q1 : xa c (53 + t) (11 * (Q t).1 + (Q t).2) = nI kn := by
      rw [(hLt (Q t).1 s1 (Q t).2 (by omega)).1, s4]; exact ekn
    have ev : valF (jsF s set t) t 3 = valF (ma S 1) t 3 := valF_ag (hA.ag h8) hth (by omega)
    rw [F_X9_showLikely_2_s]
    unfold F_X9_showLikely_50 F_X9_showLikely_77 F_X9_showLikely_78
    by_cases cb : bitI set t = nI 1
    · have cb' : set >>> (nI t &&& 31) &&& nI 1 = nI 1 := cb
      have js : jsF s set (t + 1) = shF (jsF s set t) t (if jsF s set t (1034 + t) < nI 500000 then nI 0 else nI 1) := if_pos cb
      rw [ekn] at js
      by_cases ck : kn < 500000
      · have hlt : nI kn < nI 500000 := by rw [nI_ltE (by omega) (by omega)]; exact ck
        rw [if_pos hlt, sh_up2, ev] at js
        have ei := x_spotIll (nx := nx) (by omega : t < 8) hX
        by_cases c3 : valF (ma S 1) t 3 ≤ 0
        · rw [if_pos c3] at ei
          rw [if_pos ⟨rfl, c3⟩] at js
          have hT2 := hT.look hMd (kk := 2) (x := nI 0) (by omega) hN htn (Or.inr ⟨rfl, rfl⟩) (f := upK (xa c (92 + day)) t (nI 22)) (fun i _ => rfl)
          rw [← js] at hT2
          obtain ⟨c', Q', r1, r2, r3⟩ := ih (t + 1) m _ _ (by omega) (by omega) hT2
          refine ⟨c', Q', ?_, r2, (FrX.sa (P := PA) (Or.inr (Or.inl (by omega)))).trans r3 (fun _ z => z) (fun _ z => z)⟩
          simp (maxSteps := 3000000) (disch := omega) only [h5, cb', s3, q1, ei, xi_xsi_s, xi_xsi_n, xl_xsi, xa_xsi, xj_xsi, xr_xsi, xsi_xsi, xi_xsl, xl_xsl_s, xl_xsl_n, xa_xsl, xj_xsl, xr_xsl, xsl_xsl, xi_xsa, xl_xsa, xa_xsa_s, xa_xsa_n, xj_xsa, xr_xsa, xsa_xsa, xi_xsj, xl_xsj, xa_xsj, xj_xsj_s, xj_xsj_n, xr_xsj, xsj_xsj, xi_xsr, xl_xsr, xa_xsr, xj_xsr, xr_xsr_s, xr_xsr_n, xsr_xsr, xk_0, xg_0_0, xg_0_1, xg_0_2, xp_0_2, xg_0_3, xg_0_4, xg_0_5, xg_0_6, xk_1, xg_1_0, xg_1_1, xp_1_1, xg_1_2, xg_1_3, xp_1_3, xg_1_4, xg_1_5, xg_1_6, xg_1_7, xg_1_8, xg_1_9, xg_1_10, xg_1_11, xp_1_11, xg_1_12, xg_1_13, xg_1_14, xg_1_15, xp_1_15, xg_1_16, xp_1_16, xg_1_17, xp_1_17, xk_26, xg_26_0, xg_26_1, xp_26_1, xg_26_2, xg_26_3, xp_26_3, xg_26_4, xg_26_5, xg_26_6, xg_26_7, xg_26_8, xg_26_9, xg_26_10, xg_26_11, xp_26_11, xg_26_12, xg_26_13, xg_26_14, xg_26_15, xp_26_15, xg_26_16, xp_26_16, xg_26_17, xp_26_17, xk_51, xg_51_0, xg_51_1, xg_51_2, xg_51_3, xg_51_4, xg_51_5, xg_51_6, xg_51_7, xp_51_7, xg_51_8, xp_51_8, xk_90, xg_90_0, xg_90_1, xg_90_2, xg_90_3, xp_90_3, xg_90_4, xg_90_5, xp_90_5, xg_90_6, xg_90_7, xp_90_7, xg_90_8, xp_90_8, xg_90_9, xp_90_9, xg_90_10, xas_2, xal_2, xal_3, xas_4, xal_4, xln_4, xas_5, xal_5, xln_5, xas_6, xal_6, xln_6, xas_7, xal_7, xln_7, xas_8, xal_8, xln_8, xas_9, xal_9, xln_9, xas0_10, xas1_10, xasb_10, xal_10, xal_11, xas_12, xal_12, xln_12, xas_27, xal_27, xal_28, xas_29, xal_29, xln_29, xas_30, xal_30, xln_30, xas_31, xal_31, xln_31, xas_32, xal_32, xln_32, xas_33, xal_33, xln_33, xas_34, xal_34, xln_34, xas0_35, xas1_35, xasb_35, xal_35, xal_36, xas_37, xal_37, xln_37, xas_88, xal_88, xln_88, xal_89, xas_89, xln_89, xas_103, xal_103, xln_103, xas_104, xal_104, xln_104, xas_105, xal_105, xln_105, xas_106, xal_106, xln_106, xas_107, xal_107, xln_107, xal_13, xal_in14, xas_in14, xln_in14, xal_38, xal_in39, xas_in39, xln_in39, xal_52, xal_in53, xas_in53, xln_in53, xal_61, xal_in62, xas_in62, xln_in62, xal_70, xal_in71, xas_in71, xln_in71, xal_79, xal_in80, xas_in80, xln_in80, xal_91, xal_in92, xas_in92, xln_in92, cl_some, nm_b, nn_some, qn_some, qn_none, zk_0, zk_1, zk_n0, zk_n1, nI_add, pk_mul, pk_sub, nI_leE, nI_ltE, nI_eqE, nI_lt0, nI_ge0, nI_eq0, nI_gt0, nI_le0, ilt_t, ilt_f, ile_t, ile_f, ieq_t, ieq_f, if_tt, if_ff, Nat.add_sub_cancel]
          exact r1
        · rw [if_neg c3] at ei
          rw [if_neg (fun z => c3 z.2)] at js
          have hT2 := hT.look hMd (kk := 1) (x := nI 1000000) (by omega) hN htn (Or.inl ⟨rfl, rfl⟩) (f := upK (xa c (92 + day)) t (nI 11)) (fun i _ => rfl)
          rw [← js] at hT2
          obtain ⟨c', Q', r1, r2, r3⟩ := ih (t + 1) m _ _ (by omega) (by omega) hT2
          refine ⟨c', Q', ?_, r2, (FrX.sa (P := PA) (Or.inr (Or.inl (by omega)))).trans r3 (fun _ z => z) (fun _ z => z)⟩
          simp (maxSteps := 3000000) (disch := omega) only [h5, cb', s3, q1, ei, xi_xsi_s, xi_xsi_n, xl_xsi, xa_xsi, xj_xsi, xr_xsi, xsi_xsi, xi_xsl, xl_xsl_s, xl_xsl_n, xa_xsl, xj_xsl, xr_xsl, xsl_xsl, xi_xsa, xl_xsa, xa_xsa_s, xa_xsa_n, xj_xsa, xr_xsa, xsa_xsa, xi_xsj, xl_xsj, xa_xsj, xj_xsj_s, xj_xsj_n, xr_xsj, xsj_xsj, xi_xsr, xl_xsr, xa_xsr, xj_xsr, xr_xsr_s, xr_xsr_n, xsr_xsr, xk_0, xg_0_0, xg_0_1, xg_0_2, xp_0_2, xg_0_3, xg_0_4, xg_0_5, xg_0_6, xk_1, xg_1_0, xg_1_1, xp_1_1, xg_1_2, xg_1_3, xp_1_3, xg_1_4, xg_1_5, xg_1_6, xg_1_7, xg_1_8, xg_1_9, xg_1_10, xg_1_11, xp_1_11, xg_1_12, xg_1_13, xg_1_14, xg_1_15, xp_1_15, xg_1_16, xp_1_16, xg_1_17, xp_1_17, xk_26, xg_26_0, xg_26_1, xp_26_1, xg_26_2, xg_26_3, xp_26_3, xg_26_4, xg_26_5, xg_26_6, xg_26_7, xg_26_8, xg_26_9, xg_26_10, xg_26_11, xp_26_11, xg_26_12, xg_26_13, xg_26_14, xg_26_15, xp_26_15, xg_26_16, xp_26_16, xg_26_17, xp_26_17, xk_51, xg_51_0, xg_51_1, xg_51_2, xg_51_3, xg_51_4, xg_51_5, xg_51_6, xg_51_7, xp_51_7, xg_51_8, xp_51_8, xk_90, xg_90_0, xg_90_1, xg_90_2, xg_90_3, xp_90_3, xg_90_4, xg_90_5, xp_90_5, xg_90_6, xg_90_7, xp_90_7, xg_90_8, xp_90_8, xg_90_9, xp_90_9, xg_90_10, xas_2, xal_2, xal_3, xas_4, xal_4, xln_4, xas_5, xal_5, xln_5, xas_6, xal_6, xln_6, xas_7, xal_7, xln_7, xas_8, xal_8, xln_8, xas_9, xal_9, xln_9, xas0_10, xas1_10, xasb_10, xal_10, xal_11, xas_12, xal_12, xln_12, xas_27, xal_27, xal_28, xas_29, xal_29, xln_29, xas_30, xal_30, xln_30, xas_31, xal_31, xln_31, xas_32, xal_32, xln_32, xas_33, xal_33, xln_33, xas_34, xal_34, xln_34, xas0_35, xas1_35, xasb_35, xal_35, xal_36, xas_37, xal_37, xln_37, xas_88, xal_88, xln_88, xal_89, xas_89, xln_89, xas_103, xal_103, xln_103, xas_104, xal_104, xln_104, xas_105, xal_105, xln_105, xas_106, xal_106, xln_106, xas_107, xal_107, xln_107, xal_13, xal_in14, xas_in14, xln_in14, xal_38, xal_in39, xas_in39, xln_in39, xal_52, xal_in53, xas_in53, xln_in53, xal_61, xal_in62, xas_in62, xln_in62, xal_70, xal_in71, xas_in71, xln_in71, xal_79, xal_in80, xas_in80, xln_in80, xal_91, xal_in92, xas_in92, xln_in92, cl_some, nm_b, nn_some, qn_some, qn_none, zk_0, zk_1, zk_n0, zk_n1, nI_add, pk_mul, pk_sub, nI_leE, nI_ltE, nI_eqE, nI_lt0, nI_ge0, nI_eq0, nI_gt0, nI_le0, ilt_t, ilt_f, ile_t, ile_f, ieq_t, ieq_f, if_tt, if_ff, Nat.add_sub_cancel]
          exact r1
      · have hlt : ¬ nI kn < nI 500000 := by rw [nI_ltE (by omega) (by omega)]; exact ck
        rw [if_neg hlt, sh_up2, if_neg (fun z => absurd z.1 (show ¬ nI 1 = 0 by decide))] at js
        have hT2 := hT.look hMd (kk := 1) (x := nI 1000000) (by omega) hN htn (Or.inl ⟨rfl, rfl⟩) (f := upK (xa c (92 + day)) t (nI 11)) (fun i _ => rfl)
        rw [← js] at hT2
        obtain ⟨c', Q', r1, r2, r3⟩ := ih (t + 1) m _ _ (by omega) (by omega) hT2
        refine ⟨c', Q', ?_, r2, (FrX.sa (P := PA) (Or.inr (Or.inl (by omega)))).trans r3 (fun _ z => z) (fun _ z => z)⟩
        simp (maxSteps := 3000000) (disch := omega) only [h5, cb', s3, q1, xi_xsi_s, xi_xsi_n, xl_xsi, xa_xsi, xj_xsi, xr_xsi, xsi_xsi, xi_xsl, xl_xsl_s, xl_xsl_n, xa_xsl, xj_xsl, xr_xsl, xsl_xsl, xi_xsa, xl_xsa, xa_xsa_s, xa_xsa_n, xj_xsa, xr_xsa, xsa_xsa, xi_xsj, xl_xsj, xa_xsj, xj_xsj_s, xj_xsj_n, xr_xsj, xsj_xsj, xi_xsr, xl_xsr, xa_xsr, xj_xsr, xr_xsr_s, xr_xsr_n, xsr_xsr, xk_0, xg_0_0, xg_0_1, xg_0_2, xp_0_2, xg_0_3, xg_0_4, xg_0_5, xg_0_6, xk_1, xg_1_0, xg_1_1, xp_1_1, xg_1_2, xg_1_3, xp_1_3, xg_1_4, xg_1_5, xg_1_6, xg_1_7, xg_1_8, xg_1_9, xg_1_10, xg_1_11, xp_1_11, xg_1_12, xg_1_13, xg_1_14, xg_1_15, xp_1_15, xg_1_16, xp_1_16, xg_1_17, xp_1_17, xk_26, xg_26_0, xg_26_1, xp_26_1, xg_26_2, xg_26_3, xp_26_3, xg_26_4, xg_26_5, xg_26_6, xg_26_7, xg_26_8, xg_26_9, xg_26_10, xg_26_11, xp_26_11, xg_26_12, xg_26_13, xg_26_14, xg_26_15, xp_26_15, xg_26_16, xp_26_16, xg_26_17, xp_26_17, xk_51, xg_51_0, xg_51_1, xg_51_2, xg_51_3, xg_51_4, xg_51_5, xg_51_6, xg_51_7, xp_51_7, xg_51_8, xp_51_8, xk_90, xg_90_0, xg_90_1, xg_90_2, xg_90_3, xp_90_3, xg_90_4, xg_90_5, xp_90_5, xg_90_6, xg_90_7, xp_90_7, xg_90_8, xp_90_8, xg_90_9, xp_90_9, xg_90_10, xas_2, xal_2, xal_3, xas_4, xal_4, xln_4, xas_5, xal_5, xln_5, xas_6, xal_6, xln_6, xas_7, xal_7, xln_7, xas_8, xal_8, xln_8, xas_9, xal_9, xln_9, xas0_10, xas1_10, xasb_10, xal_10, xal_11, xas_12, xal_12, xln_12, xas_27, xal_27, xal_28, xas_29, xal_29, xln_29, xas_30, xal_30, xln_30, xas_31, xal_31, xln_31, xas_32, xal_32, xln_32, xas_33, xal_33, xln_33, xas_34, xal_34, xln_34, xas0_35, xas1_35, xasb_35, xal_35, xal_36, xas_37, xal_37, xln_37, xas_88, xal_88, xln_88, xal_89, xas_89, xln_89, xas_103, xal_103, xln_103, xas_104, xal_104, xln_104, xas_105, xal_105, xln_105, xas_106, xal_106, xln_106, xas_107, xal_107, xln_107, xal_13, xal_in14, xas_in14, xln_in14, xal_38, xal_in39, xas_in39, xln_in39, xal_52, xal_in53, xas_in53, xln_in53, xal_61, xal_in62, xas_in62, xln_in62, xal_70, xal_in71, xas_in71, xln_in71, xal_79, xal_in80, xas_in80, xln_in80, xal_91, xal_in92, xas_in92, xln_in92, cl_some, nm_b, nn_some, qn_some, qn_none, zk_0, zk_1, zk_n0, zk_n1, nI_add, pk_mul, pk_sub, nI_leE, nI_ltE, nI_eqE, nI_lt0, nI_ge0, nI_eq0, nI_gt0, nI_le0, ilt_t, ilt_f, ile_t, ile_f, ieq_t, ieq_f, if_tt, if_ff, Nat.add_sub_cancel]
        exact r1
    · have cb' : ¬ set >>> (nI t &&& 31) &&& nI 1 = nI 1 := cb
      have js : jsF s set (t + 1) = jsF s set t := if_neg cb
      obtain ⟨c', Q', r1, r2, r3⟩ := ih (t + 1) m c Q (by omega) (by omega) (by rw [js]; exact hT)
      refine ⟨c', Q', ?_, r2, r3⟩
      simp (maxSteps := 3000000) (disch := omega) only [h5, cb', xi_xsi_s, xi_xsi_n, xl_xsi, xa_xsi, xj_xsi, xr_xsi, xsi_xsi, xi_xsl, xl_xsl_s, xl_xsl_n, xa_xsl, xj_xsl, xr_xsl, xsl_xsl, xi_xsa, xl_xsa, xa_xsa_s, xa_xsa_n, xj_xsa, xr_xsa, xsa_xsa, xi_xsj, xl_xsj, xa_xsj, xj_xsj_s, xj_xsj_n, xr_xsj, xsj_xsj, xi_xsr, xl_xsr, xa_xsr, xj_xsr, xr_xsr_s, xr_xsr_n, xsr_xsr, xk_0, xg_0_0, xg_0_1, xg_0_2, xp_0_2, xg_0_3, xg_0_4, xg_0_5, xg_0_6, xk_1, xg_1_0, xg_1_1, xp_1_1, xg_1_2, xg_1_3, xp_1_3, xg_1_4, xg_1_5, xg_1_6, xg_1_7, xg_1_8, xg_1_9, xg_1_10, xg_1_11, xp_1_11, xg_1_12, xg_1_13, xg_1_14, xg_1_15, xp_1_15, xg_1_16, xp_1_16, xg_1_17, xp_1_17, xk_26, xg_26_0, xg_26_1, xp_26_1, xg_26_2, xg_26_3, xp_26_3, xg_26_4, xg_26_5, xg_26_6, xg_26_7, xg_26_8, xg_26_9, xg_26_10, xg_26_11, xp_26_11, xg_26_12, xg_26_13, xg_26_14, xg_26_15, xp_26_15, xg_26_16, xp_26_16, xg_26_17, xp_26_17, xk_51, xg_51_0, xg_51_1, xg_51_2, xg_51_3, xg_51_4, xg_51_5, xg_51_6, xg_51_7, xp_51_7, xg_51_8, xp_51_8, xk_90, xg_90_0, xg_90_1, xg_90_2, xg_90_3, xp_90_3, xg_90_4, xg_90_5, xp_90_5, xg_90_6, xg_90_7, xp_90_7, xg_90_8, xp_90_8, xg_90_9, xp_90_9, xg_90_10, xas_2, xal_2, xal_3, xas_4, xal_4, xln_4, xas_5, xal_5, xln_5, xas_6, xal_6, xln_6, xas_7, xal_7, xln_7, xas_8, xal_8, xln_8, xas_9, xal_9, xln_9, xas0_10, xas1_10, xasb_10, xal_10, xal_11, xas_12, xal_12, xln_12, xas_27, xal_27, xal_28, xas_29, xal_29, xln_29, xas_30, xal_30, xln_30, xas_31, xal_31, xln_31, xas_32, xal_32, xln_32, xas_33, xal_33, xln_33, xas_34, xal_34, xln_34, xas0_35, xas1_35, xasb_35, xal_35, xal_36, xas_37, xal_37, xln_37, xas_88, xal_88, xln_88, xal_89, xas_89, xln_89, xas_103, xal_103, xln_103, xas_104, xal_104, xln_104, xas_105, xal_105, xln_105, xas_106, xal_106, xln_106, xas_107, xal_107, xln_107, xal_13, xal_in14, xas_in14, xln_in14, xal_38, xal_in39, xas_in39, xln_in39, xal_52, xal_in53, xas_in53, xln_in53, xal_61, xal_in62, xas_in62, xln_in62, xal_70, xal_in71, xas_in71, xln_in71, xal_79, xal_in80, xas_in80, xln_in80, xal_91, xal_in92, xas_in92, xln_in92, cl_some, nm_b, nn_some, qn_some, qn_none, zk_0, zk_1, zk_n0, zk_n1, nI_add, pk_mul, pk_sub, nI_leE, nI_ltE, nI_eqE, nI_lt0, nI_ge0, nI_eq0, nI_gt0, nI_le0, ilt_t, ilt_f, ile_t, ile_f, ieq_t, ieq_f, if_tt, if_ff, Nat.add_sub_cancel]
      exact r1
set_option maxRecDepth 100000 in
set_option maxHeartbeats 1000000 in
theorem x_fo46 {k7 : Hp → Nat → Nat → Nat → Int32 → Int32 → Rz Int32} {q0 : Nat} {l2 set : Int32} {c : CS} {s : Nat → Int32} {Q : Nat → Nat × Nat} {day left dd : Nat} (hd10 : day < 10) (hN : dd + left ≤ N) (hN10 : N ≤ 10) (hT : TI G X lo h0 S ns nt np lk td q N dd days Md c s Q day left) : ∀ (r t m : Nat) (w : Nat → Int32), t + r = nt → r < m → (∀ i, i < t → w i = nI 1000000 - s (1034 + i)) → ∃ (m' : Nat) (w' : Nat → Int32), F_X9_firstOutdone_46 G k7 m (encX G X (xsa c 88 w) h0) nx (X + 90) q0 l2 (nI day) set (nI t) = F_X9_firstOutdone_46 G k7 (m' + 1) (encX G X (xsa c 88 w') h0) nx (X + 90) q0 l2 (nI day) set (nI nt) ∧ ∀ i, i < nt → w' i = nI 1000000 - s (1034 + i) := by
  obtain ⟨⟨hC, hL, h79, hM⟩, hMm, hA, hS⟩ := id hT
  have h8 := x_nt8 hC
  have h5 := x_thC hC
  intro r
  induction r with
  | zero =>
    intro t m w ht hm hw
    obtain ⟨m, rfl⟩ : ∃ q, m = q + 1 := ⟨m - 1, by omega⟩
    obtain rfl : t = nt := by omega
    exact ⟨m, w, rfl, hw⟩
  | succ r ih =>
    intro t m w ht hm hw
    obtain ⟨m, rfl⟩ : ∃ q, m = q + 1 := ⟨m - 1, by omega⟩
    have htn : t < nt := by omega
    obtain ⟨s1, s2, s3, s4⟩ := hS t htn
    obtain ⟨a, p, hX⟩ := hC.th htn
    have ha : sN (ma S 1) (1010 + t) = a := hX.2.1
    have hLt := hL t htn
    rw [ha] at hLt
    have q1 : xa c (53 + t) (11 * (Q t).1 + (Q t).2) = s (1034 + t) := by
      rw [(hLt (Q t).1 s1 (Q t).2 (by omega)).1, s4]
    obtain ⟨m', w', e, hw'⟩ := ih (t + 1) m (upK w t (nI 1000000 - s (1034 + t))) (by omega) (by omega) (fun i hi => by
      by_cases ei : i = t
      · subst ei; exact upK_s
      · rw [upK_n ei]; exact hw i (by omega))
    refine ⟨m', w', ?_, hw'⟩
    rw [F_X9_firstOutdone_46_s]
    simp (maxSteps := 3000000) (disch := omega) only [h5, s3, q1, xi_xsi_s, xi_xsi_n, xl_xsi, xa_xsi, xj_xsi, xr_xsi, xsi_xsi, xi_xsl, xl_xsl_s, xl_xsl_n, xa_xsl, xj_xsl, xr_xsl, xsl_xsl, xi_xsa, xl_xsa, xa_xsa_s, xa_xsa_n, xj_xsa, xr_xsa, xsa_xsa, xi_xsj, xl_xsj, xa_xsj, xj_xsj_s, xj_xsj_n, xr_xsj, xsj_xsj, xi_xsr, xl_xsr, xa_xsr, xj_xsr, xr_xsr_s, xr_xsr_n, xsr_xsr, xk_0, xg_0_0, xg_0_1, xg_0_2, xp_0_2, xg_0_3, xg_0_4, xg_0_5, xg_0_6, xk_1, xg_1_0, xg_1_1, xp_1_1, xg_1_2, xg_1_3, xp_1_3, xg_1_4, xg_1_5, xg_1_6, xg_1_7, xg_1_8, xg_1_9, xg_1_10, xg_1_11, xp_1_11, xg_1_12, xg_1_13, xg_1_14, xg_1_15, xp_1_15, xg_1_16, xp_1_16, xg_1_17, xp_1_17, xk_26, xg_26_0, xg_26_1, xp_26_1, xg_26_2, xg_26_3, xp_26_3, xg_26_4, xg_26_5, xg_26_6, xg_26_7, xg_26_8, xg_26_9, xg_26_10, xg_26_11, xp_26_11, xg_26_12, xg_26_13, xg_26_14, xg_26_15, xp_26_15, xg_26_16, xp_26_16, xg_26_17, xp_26_17, xk_51, xg_51_0, xg_51_1, xg_51_2, xg_51_3, xg_51_4, xg_51_5, xg_51_6, xg_51_7, xp_51_7, xg_51_8, xp_51_8, xk_90, xg_90_0, xg_90_1, xg_90_2, xg_90_3, xp_90_3, xg_90_4, xg_90_5, xp_90_5, xg_90_6, xg_90_7, xp_90_7, xg_90_8, xp_90_8, xg_90_9, xp_90_9, xg_90_10, xas_2, xal_2, xal_3, xas_4, xal_4, xln_4, xas_5, xal_5, xln_5, xas_6, xal_6, xln_6, xas_7, xal_7, xln_7, xas_8, xal_8, xln_8, xas_9, xal_9, xln_9, xas0_10, xas1_10, xasb_10, xal_10, xal_11, xas_12, xal_12, xln_12, xas_27, xal_27, xal_28, xas_29, xal_29, xln_29, xas_30, xal_30, xln_30, xas_31, xal_31, xln_31, xas_32, xal_32, xln_32, xas_33, xal_33, xln_33, xas_34, xal_34, xln_34, xas0_35, xas1_35, xasb_35, xal_35, xal_36, xas_37, xal_37, xln_37, xas_88, xal_88, xln_88, xal_89, xas_89, xln_89, xas_103, xal_103, xln_103, xas_104, xal_104, xln_104, xas_105, xal_105, xln_105, xas_106, xal_106, xln_106, xas_107, xal_107, xln_107, xal_13, xal_in14, xas_in14, xln_in14, xal_38, xal_in39, xas_in39, xln_in39, xal_52, xal_in53, xas_in53, xln_in53, xal_61, xal_in62, xas_in62, xln_in62, xal_70, xal_in71, xas_in71, xln_in71, xal_79, xal_in80, xas_in80, xln_in80, xal_91, xal_in92, xas_in92, xln_in92, cl_some, nm_b, nn_some, qn_some, qn_none, zk_0, zk_1, zk_n0, zk_n1, nI_add, pk_mul, pk_sub, nI_leE, nI_ltE, nI_eqE, nI_lt0, nI_ge0, nI_eq0, nI_gt0, nI_le0, ilt_t, ilt_f, ile_t, ile_f, ieq_t, ieq_f, if_tt, if_ff, Nat.add_sub_cancel]
    exact e
def MdJ (G : Gx) (X : Nat) (h0 : Hp) (S : MS) (nt p q0 k v : Nat) (c : CS) : Prop := XP G X h0 c (ma S 1) nt p q0 k v
theorem MdJ.ok {p q0 k v : Nat} : MdOk (MdJ G X h0 S nt p q0 k v) := fun c c' f h => XP.fr h f (fun k z => by unfold PA PWA PW at z; omega)
theorem jdR_s {p r i : Nat} {s : Nat → Int32} : jdR S p nt lk td (r + 1) i s = if jdT s (whF (msa S 1 s) p (td + i) nt lk) nt lk i (2 ^ nt) = -5 then jdR S p nt lk td r (i + 1) (ovP S (jsF s (whF (msa S 1 s) p (td + i) nt lk) nt) nt) else jdT s (whF (msa S 1 s) p (td + i) nt lk) nt lk i (2 ^ nt) := rfl
set_option maxRecDepth 100000 in
set_option maxHeartbeats 1000000 in
theorem x_fo7 {p q0 v n : Nat} (hn10 : n ≤ 10) (hnN : n ≤ N) (hN10 : N ≤ 10) : ∀ (r day m : Nat) (c : CS) (s : Nat → Int32) (Q : Nat → Nat × Nat), day + r = n → r < m → TI G X lo h0 S ns nt np lk td q N 0 days (MdJ G X h0 S nt p q0 6 v) c s Q day r → ∃ c' : CS, F_X9_firstOutdone_7 G m (encX G X c h0) nx (X + 90) q0 (nI n) (nI day) = some (jdR S p nt lk td r day s, encX G X c' h0, nx) ∧ FrX PA c c' := by
  intro r
  induction r with
  | zero =>
    intro day m c s Q hr hm hT
    obtain ⟨m, rfl⟩ : ∃ q, m = q + 1 := ⟨m - 1, by omega⟩
    obtain rfl : day = n := by omega
    refine ⟨c, ?_, FrX.rf⟩
    rw [F_X9_firstOutdone_7_s]
    unfold F_X9_firstOutdone_143
    rw [if_pos (Int32.le_refl _)]
    rfl
  | succ r ih =>
    intro day m c s Q hr hm hT
    obtain ⟨m, rfl⟩ : ∃ q, m = q + 1 := ⟨m - 1, by omega⟩
    obtain ⟨⟨hC, hL, h79, hP⟩, hMm, hA, hS⟩ := id hT
    have hP : XP G X h0 c (ma S 1) nt p q0 6 v := hP
    have h5 := x_thC hC
    have h8 := x_nt8 hC
    have hlk := lk_le hC
    have etd : xi c 115 = nI td := (hC.2.1.1.2.2.2.2.1).trans hC.2.2.2.2.2.2.2.2.1
    have htd : td ≤ 999 := hC.2.2.2.2.2.2.2.2.2.1
    have e3 := x_ch8 (nx := nx) (sp := X + 92 + day) (dd := td + day) hC hP (by omega) hA
    have hck : ∀ {β : Type} {f : Nat → Option β}, ck (encX G X c h0) q0 [1, 2, 3, 4, 6, 8, 10] f = f 8 := ck_at (hP.2.1 c) (by decide)
    have eal : ∀ {β : Type} {f : Option Nat → Option β}, alR (g_c G 6) (encX G X c h0) (X + 91) (nI day) f = f (some (X + 92 + day)) := fun {β f} => xal_91 (by omega)
    rw [jdR_s]
    generalize hset : whF (msa S 1 s) p (td + day) nt lk = set at e3 ⊢
    obtain ⟨m', w', e46, hw'⟩ := x_fo46 (nx := nx) (k7 := F_X9_firstOutdone_7 G m) (q0 := q0) (l2 := nI n) (set := set) (by omega) (by omega) hN10 hT nt 0 fuelL (xa c 88) (by omega) (by unfold fuelL; omega) (fun i hi => absurd hi (by omega))
    rw [xsa_self] at e46
    have f88 : FrX PA c (xsa c 88 w') := FrX.sa (P := PA) (Or.inl (Or.inr (by omega)))
    have hT2 := hT.go MdJ.ok f88 (fun _ z => z) (by rw [xa_xsa_n (by omega)]) (hMm.fr (FrX.sa (P := fun k => k = 88) rfl) (fun k h1 h2 z => by omega))
    have hC2 := hT2.1.1
    have ews := x_worthiestSet (nx := nx) hC2
    rw [show xa (xsa c 88 w') 88 = w' from xa_xsa_s] at ews
    have ewo : ∀ x : Int32, F_X5_worthOf G (encX G X (xsa c 88 w') h0) nx (X + 51) x = some ((toA s w' x nt).1, encX G X (xsa c 88 w') h0, nx) := fun x => x_worthOf (x_thC hC2) h8 s (fun i _ => by rw [xa_xsa_s])
    have hkn := hT.kn
    let W : Nat → Nat := fun j => 1000000 - sN s (1034 + j)
    have hs : ∀ j, j < nt → nI 1000000 - s (1034 + j) = nI (W j) ∧ W j ≤ 1000000 := fun j hj => by
      obtain ⟨k, d, hk, _, ek⟩ := hkn j hj
      have ek : s (1034 + j) = nI k := congrArg Prod.fst ek
      have e : sN s (1034 + j) = k := by unfold sN; rw [ek, nI_clamp (by omega)]
      refine ⟨?_, Nat.sub_le _ _⟩
      show _ = nI (1000000 - sN s (1034 + j))
      rw [e, ek, pk_sub hk]
    have hj := jd_eq (i := day) (set := set) (s := s) (Wi := w') (W := W) h8 hlk.1 hs (fun j hj => (hw' j hj).trans (hs j hj).1)
    have h5' : xi (xsa c 88 w') 113 = nI nt := x_thC hC2
    rw [hj]
    by_cases cl : (toA s w' (grF w' nt lk) nt).1 ≤ (toA s w' set nt).1
    · rw [if_pos cl, if_pos rfl]
      obtain ⟨c3, Q3, e5, hT3, f3⟩ := x_sl2 (nx := nx) (set := set) (s := s) MdJ.ok (by omega) (by omega) hN10 nt 0 fuelL (xsa c 88 w') Q (by omega) (by unfold fuelL; omega) hT2
      have e5 : F_X9_showLikely G (encX G X (xsa c 88 w') h0) nx (X + 90) (nI day) set = _ := e5
      obtain ⟨g, e6, hg⟩ := x_goOver (G := G) (X := X) (nx := nx) (h0 := h0) (x_thC hT3.1.1) h8 (day := day) (by omega) (fun t ht => (hT3.2.2.2 t ht).2.2.1)
      have hT4 := hT3.over MdJ.ok (by omega) (by omega) hg
      obtain ⟨c', r1, r2⟩ := ih (day + 1) m _ _ _ (by omega) (by omega) hT4
      refine ⟨c', ?_, ((f88.trans f3 (fun _ z => z) (fun _ z => z)).trans (FrX.sa (P := PA) (Or.inr (Or.inl (by omega)))) (fun _ z => z) (fun _ z => z)).trans r2 (fun _ z => z) (fun _ z => z)⟩
      rw [F_X9_firstOutdone_7_s]
      simp (maxSteps := 3000000) (disch := omega) only [etd, hck, e3, eal, xi_xsi_s, xi_xsi_n, xl_xsi, xa_xsi, xj_xsi, xr_xsi, xsi_xsi, xi_xsl, xl_xsl_s, xl_xsl_n, xa_xsl, xj_xsl, xr_xsl, xsl_xsl, xi_xsa, xl_xsa, xa_xsa_s, xa_xsa_n, xj_xsa, xr_xsa, xsa_xsa, xi_xsj, xl_xsj, xa_xsj, xj_xsj_s, xj_xsj_n, xr_xsj, xsj_xsj, xi_xsr, xl_xsr, xa_xsr, xj_xsr, xr_xsr_s, xr_xsr_n, xsr_xsr, xk_0, xg_0_0, xg_0_1, xg_0_2, xp_0_2, xg_0_3, xg_0_4, xg_0_5, xg_0_6, xk_1, xg_1_0, xg_1_1, xp_1_1, xg_1_2, xg_1_3, xp_1_3, xg_1_4, xg_1_5, xg_1_6, xg_1_7, xg_1_8, xg_1_9, xg_1_10, xg_1_11, xp_1_11, xg_1_12, xg_1_13, xg_1_14, xg_1_15, xp_1_15, xg_1_16, xp_1_16, xg_1_17, xp_1_17, xk_26, xg_26_0, xg_26_1, xp_26_1, xg_26_2, xg_26_3, xp_26_3, xg_26_4, xg_26_5, xg_26_6, xg_26_7, xg_26_8, xg_26_9, xg_26_10, xg_26_11, xp_26_11, xg_26_12, xg_26_13, xg_26_14, xg_26_15, xp_26_15, xg_26_16, xp_26_16, xg_26_17, xp_26_17, xk_51, xg_51_0, xg_51_1, xg_51_2, xg_51_3, xg_51_4, xg_51_5, xg_51_6, xg_51_7, xp_51_7, xg_51_8, xp_51_8, xk_90, xg_90_0, xg_90_1, xg_90_2, xg_90_3, xp_90_3, xg_90_4, xg_90_5, xp_90_5, xg_90_6, xg_90_7, xp_90_7, xg_90_8, xp_90_8, xg_90_9, xp_90_9, xg_90_10, xas_2, xal_2, xal_3, xas_4, xal_4, xln_4, xas_5, xal_5, xln_5, xas_6, xal_6, xln_6, xas_7, xal_7, xln_7, xas_8, xal_8, xln_8, xas_9, xal_9, xln_9, xas0_10, xas1_10, xasb_10, xal_10, xal_11, xas_12, xal_12, xln_12, xas_27, xal_27, xal_28, xas_29, xal_29, xln_29, xas_30, xal_30, xln_30, xas_31, xal_31, xln_31, xas_32, xal_32, xln_32, xas_33, xal_33, xln_33, xas_34, xal_34, xln_34, xas0_35, xas1_35, xasb_35, xal_35, xal_36, xas_37, xal_37, xln_37, xas_88, xal_88, xln_88, xal_89, xas_89, xln_89, xas_103, xal_103, xln_103, xas_104, xal_104, xln_104, xas_105, xal_105, xln_105, xas_106, xal_106, xln_106, xas_107, xal_107, xln_107, xal_13, xal_in14, xas_in14, xln_in14, xal_38, xal_in39, xas_in39, xln_in39, xal_52, xal_in53, xas_in53, xln_in53, xal_61, xal_in62, xas_in62, xln_in62, xal_70, xal_in71, xas_in71, xln_in71, xal_79, xal_in80, xas_in80, xln_in80, xal_91, xal_in92, xas_in92, xln_in92, cl_some, nm_b, nn_some, qn_some, qn_none, zk_0, zk_1, zk_n0, zk_n1, nI_add, pk_mul, pk_sub, nI_leE, nI_ltE, nI_eqE, nI_lt0, nI_ge0, nI_eq0, nI_gt0, nI_le0, ilt_t, ilt_f, ile_t, ile_f, ieq_t, ieq_f, if_tt, if_ff, Nat.add_sub_cancel]
      rw [e46, F_X9_firstOutdone_46_s]
      simp (maxSteps := 3000000) (disch := omega) only [h5', ews, ewo, xi_xsi_s, xi_xsi_n, xl_xsi, xa_xsi, xj_xsi, xr_xsi, xsi_xsi, xi_xsl, xl_xsl_s, xl_xsl_n, xa_xsl, xj_xsl, xr_xsl, xsl_xsl, xi_xsa, xl_xsa, xa_xsa_s, xa_xsa_n, xj_xsa, xr_xsa, xsa_xsa, xi_xsj, xl_xsj, xa_xsj, xj_xsj_s, xj_xsj_n, xr_xsj, xsj_xsj, xi_xsr, xl_xsr, xa_xsr, xj_xsr, xr_xsr_s, xr_xsr_n, xsr_xsr, xk_0, xg_0_0, xg_0_1, xg_0_2, xp_0_2, xg_0_3, xg_0_4, xg_0_5, xg_0_6, xk_1, xg_1_0, xg_1_1, xp_1_1, xg_1_2, xg_1_3, xp_1_3, xg_1_4, xg_1_5, xg_1_6, xg_1_7, xg_1_8, xg_1_9, xg_1_10, xg_1_11, xp_1_11, xg_1_12, xg_1_13, xg_1_14, xg_1_15, xp_1_15, xg_1_16, xp_1_16, xg_1_17, xp_1_17, xk_26, xg_26_0, xg_26_1, xp_26_1, xg_26_2, xg_26_3, xp_26_3, xg_26_4, xg_26_5, xg_26_6, xg_26_7, xg_26_8, xg_26_9, xg_26_10, xg_26_11, xp_26_11, xg_26_12, xg_26_13, xg_26_14, xg_26_15, xp_26_15, xg_26_16, xp_26_16, xg_26_17, xp_26_17, xk_51, xg_51_0, xg_51_1, xg_51_2, xg_51_3, xg_51_4, xg_51_5, xg_51_6, xg_51_7, xp_51_7, xg_51_8, xp_51_8, xk_90, xg_90_0, xg_90_1, xg_90_2, xg_90_3, xp_90_3, xg_90_4, xg_90_5, xp_90_5, xg_90_6, xg_90_7, xp_90_7, xg_90_8, xp_90_8, xg_90_9, xp_90_9, xg_90_10, xas_2, xal_2, xal_3, xas_4, xal_4, xln_4, xas_5, xal_5, xln_5, xas_6, xal_6, xln_6, xas_7, xal_7, xln_7, xas_8, xal_8, xln_8, xas_9, xal_9, xln_9, xas0_10, xas1_10, xasb_10, xal_10, xal_11, xas_12, xal_12, xln_12, xas_27, xal_27, xal_28, xas_29, xal_29, xln_29, xas_30, xal_30, xln_30, xas_31, xal_31, xln_31, xas_32, xal_32, xln_32, xas_33, xal_33, xln_33, xas_34, xal_34, xln_34, xas0_35, xas1_35, xasb_35, xal_35, xal_36, xas_37, xal_37, xln_37, xas_88, xal_88, xln_88, xal_89, xas_89, xln_89, xas_103, xal_103, xln_103, xas_104, xal_104, xln_104, xas_105, xal_105, xln_105, xas_106, xal_106, xln_106, xas_107, xal_107, xln_107, xal_13, xal_in14, xas_in14, xln_in14, xal_38, xal_in39, xas_in39, xln_in39, xal_52, xal_in53, xas_in53, xln_in53, xal_61, xal_in62, xas_in62, xln_in62, xal_70, xal_in71, xas_in71, xln_in71, xal_79, xal_in80, xas_in80, xln_in80, xal_91, xal_in92, xas_in92, xln_in92, cl_some, nm_b, nn_some, qn_some, qn_none, zk_0, zk_1, zk_n0, zk_n1, nI_add, pk_mul, pk_sub, nI_leE, nI_ltE, nI_eqE, nI_lt0, nI_ge0, nI_eq0, nI_gt0, nI_le0, ilt_t, ilt_f, ile_t, ile_f, ieq_t, ieq_f, if_tt, if_ff, Nat.add_sub_cancel]
      rw [if_pos cl]
      simp (maxSteps := 3000000) (disch := omega) only [e5, e6, xi_xsi_s, xi_xsi_n, xl_xsi, xa_xsi, xj_xsi, xr_xsi, xsi_xsi, xi_xsl, xl_xsl_s, xl_xsl_n, xa_xsl, xj_xsl, xr_xsl, xsl_xsl, xi_xsa, xl_xsa, xa_xsa_s, xa_xsa_n, xj_xsa, xr_xsa, xsa_xsa, xi_xsj, xl_xsj, xa_xsj, xj_xsj_s, xj_xsj_n, xr_xsj, xsj_xsj, xi_xsr, xl_xsr, xa_xsr, xj_xsr, xr_xsr_s, xr_xsr_n, xsr_xsr, xk_0, xg_0_0, xg_0_1, xg_0_2, xp_0_2, xg_0_3, xg_0_4, xg_0_5, xg_0_6, xk_1, xg_1_0, xg_1_1, xp_1_1, xg_1_2, xg_1_3, xp_1_3, xg_1_4, xg_1_5, xg_1_6, xg_1_7, xg_1_8, xg_1_9, xg_1_10, xg_1_11, xp_1_11, xg_1_12, xg_1_13, xg_1_14, xg_1_15, xp_1_15, xg_1_16, xp_1_16, xg_1_17, xp_1_17, xk_26, xg_26_0, xg_26_1, xp_26_1, xg_26_2, xg_26_3, xp_26_3, xg_26_4, xg_26_5, xg_26_6, xg_26_7, xg_26_8, xg_26_9, xg_26_10, xg_26_11, xp_26_11, xg_26_12, xg_26_13, xg_26_14, xg_26_15, xp_26_15, xg_26_16, xp_26_16, xg_26_17, xp_26_17, xk_51, xg_51_0, xg_51_1, xg_51_2, xg_51_3, xg_51_4, xg_51_5, xg_51_6, xg_51_7, xp_51_7, xg_51_8, xp_51_8, xk_90, xg_90_0, xg_90_1, xg_90_2, xg_90_3, xp_90_3, xg_90_4, xg_90_5, xp_90_5, xg_90_6, xg_90_7, xp_90_7, xg_90_8, xp_90_8, xg_90_9, xp_90_9, xg_90_10, xas_2, xal_2, xal_3, xas_4, xal_4, xln_4, xas_5, xal_5, xln_5, xas_6, xal_6, xln_6, xas_7, xal_7, xln_7, xas_8, xal_8, xln_8, xas_9, xal_9, xln_9, xas0_10, xas1_10, xasb_10, xal_10, xal_11, xas_12, xal_12, xln_12, xas_27, xal_27, xal_28, xas_29, xal_29, xln_29, xas_30, xal_30, xln_30, xas_31, xal_31, xln_31, xas_32, xal_32, xln_32, xas_33, xal_33, xln_33, xas_34, xal_34, xln_34, xas0_35, xas1_35, xasb_35, xal_35, xal_36, xas_37, xal_37, xln_37, xas_88, xal_88, xln_88, xal_89, xas_89, xln_89, xas_103, xal_103, xln_103, xas_104, xal_104, xln_104, xas_105, xal_105, xln_105, xas_106, xal_106, xln_106, xas_107, xal_107, xln_107, xal_13, xal_in14, xas_in14, xln_in14, xal_38, xal_in39, xas_in39, xln_in39, xal_52, xal_in53, xas_in53, xln_in53, xal_61, xal_in62, xas_in62, xln_in62, xal_70, xal_in71, xas_in71, xln_in71, xal_79, xal_in80, xas_in80, xln_in80, xal_91, xal_in92, xas_in92, xln_in92, cl_some, nm_b, nn_some, qn_some, qn_none, zk_0, zk_1, zk_n0, zk_n1, nI_add, pk_mul, pk_sub, nI_leE, nI_ltE, nI_eqE, nI_lt0, nI_ge0, nI_eq0, nI_gt0, nI_le0, ilt_t, ilt_f, ile_t, ile_f, ieq_t, ieq_f, if_tt, if_ff, Nat.add_sub_cancel]
      exact r1
    · rw [if_neg cl, if_neg (ne_m5 (by omega))]
      refine ⟨_, ?_, f88⟩
      rw [F_X9_firstOutdone_7_s]
      simp (maxSteps := 3000000) (disch := omega) only [etd, hck, e3, eal, xi_xsi_s, xi_xsi_n, xl_xsi, xa_xsi, xj_xsi, xr_xsi, xsi_xsi, xi_xsl, xl_xsl_s, xl_xsl_n, xa_xsl, xj_xsl, xr_xsl, xsl_xsl, xi_xsa, xl_xsa, xa_xsa_s, xa_xsa_n, xj_xsa, xr_xsa, xsa_xsa, xi_xsj, xl_xsj, xa_xsj, xj_xsj_s, xj_xsj_n, xr_xsj, xsj_xsj, xi_xsr, xl_xsr, xa_xsr, xj_xsr, xr_xsr_s, xr_xsr_n, xsr_xsr, xk_0, xg_0_0, xg_0_1, xg_0_2, xp_0_2, xg_0_3, xg_0_4, xg_0_5, xg_0_6, xk_1, xg_1_0, xg_1_1, xp_1_1, xg_1_2, xg_1_3, xp_1_3, xg_1_4, xg_1_5, xg_1_6, xg_1_7, xg_1_8, xg_1_9, xg_1_10, xg_1_11, xp_1_11, xg_1_12, xg_1_13, xg_1_14, xg_1_15, xp_1_15, xg_1_16, xp_1_16, xg_1_17, xp_1_17, xk_26, xg_26_0, xg_26_1, xp_26_1, xg_26_2, xg_26_3, xp_26_3, xg_26_4, xg_26_5, xg_26_6, xg_26_7, xg_26_8, xg_26_9, xg_26_10, xg_26_11, xp_26_11, xg_26_12, xg_26_13, xg_26_14, xg_26_15, xp_26_15, xg_26_16, xp_26_16, xg_26_17, xp_26_17, xk_51, xg_51_0, xg_51_1, xg_51_2, xg_51_3, xg_51_4, xg_51_5, xg_51_6, xg_51_7, xp_51_7, xg_51_8, xp_51_8, xk_90, xg_90_0, xg_90_1, xg_90_2, xg_90_3, xp_90_3, xg_90_4, xg_90_5, xp_90_5, xg_90_6, xg_90_7, xp_90_7, xg_90_8, xp_90_8, xg_90_9, xp_90_9, xg_90_10, xas_2, xal_2, xal_3, xas_4, xal_4, xln_4, xas_5, xal_5, xln_5, xas_6, xal_6, xln_6, xas_7, xal_7, xln_7, xas_8, xal_8, xln_8, xas_9, xal_9, xln_9, xas0_10, xas1_10, xasb_10, xal_10, xal_11, xas_12, xal_12, xln_12, xas_27, xal_27, xal_28, xas_29, xal_29, xln_29, xas_30, xal_30, xln_30, xas_31, xal_31, xln_31, xas_32, xal_32, xln_32, xas_33, xal_33, xln_33, xas_34, xal_34, xln_34, xas0_35, xas1_35, xasb_35, xal_35, xal_36, xas_37, xal_37, xln_37, xas_88, xal_88, xln_88, xal_89, xas_89, xln_89, xas_103, xal_103, xln_103, xas_104, xal_104, xln_104, xas_105, xal_105, xln_105, xas_106, xal_106, xln_106, xas_107, xal_107, xln_107, xal_13, xal_in14, xas_in14, xln_in14, xal_38, xal_in39, xas_in39, xln_in39, xal_52, xal_in53, xas_in53, xln_in53, xal_61, xal_in62, xas_in62, xln_in62, xal_70, xal_in71, xas_in71, xln_in71, xal_79, xal_in80, xas_in80, xln_in80, xal_91, xal_in92, xas_in92, xln_in92, cl_some, nm_b, nn_some, qn_some, qn_none, zk_0, zk_1, zk_n0, zk_n1, nI_add, pk_mul, pk_sub, nI_leE, nI_ltE, nI_eqE, nI_lt0, nI_ge0, nI_eq0, nI_gt0, nI_le0, ilt_t, ilt_f, ile_t, ile_f, ieq_t, ieq_f, if_tt, if_ff, Nat.add_sub_cancel]
      rw [e46, F_X9_firstOutdone_46_s]
      simp (maxSteps := 3000000) (disch := omega) only [h5', ews, ewo, xi_xsi_s, xi_xsi_n, xl_xsi, xa_xsi, xj_xsi, xr_xsi, xsi_xsi, xi_xsl, xl_xsl_s, xl_xsl_n, xa_xsl, xj_xsl, xr_xsl, xsl_xsl, xi_xsa, xl_xsa, xa_xsa_s, xa_xsa_n, xj_xsa, xr_xsa, xsa_xsa, xi_xsj, xl_xsj, xa_xsj, xj_xsj_s, xj_xsj_n, xr_xsj, xsj_xsj, xi_xsr, xl_xsr, xa_xsr, xj_xsr, xr_xsr_s, xr_xsr_n, xsr_xsr, xk_0, xg_0_0, xg_0_1, xg_0_2, xp_0_2, xg_0_3, xg_0_4, xg_0_5, xg_0_6, xk_1, xg_1_0, xg_1_1, xp_1_1, xg_1_2, xg_1_3, xp_1_3, xg_1_4, xg_1_5, xg_1_6, xg_1_7, xg_1_8, xg_1_9, xg_1_10, xg_1_11, xp_1_11, xg_1_12, xg_1_13, xg_1_14, xg_1_15, xp_1_15, xg_1_16, xp_1_16, xg_1_17, xp_1_17, xk_26, xg_26_0, xg_26_1, xp_26_1, xg_26_2, xg_26_3, xp_26_3, xg_26_4, xg_26_5, xg_26_6, xg_26_7, xg_26_8, xg_26_9, xg_26_10, xg_26_11, xp_26_11, xg_26_12, xg_26_13, xg_26_14, xg_26_15, xp_26_15, xg_26_16, xp_26_16, xg_26_17, xp_26_17, xk_51, xg_51_0, xg_51_1, xg_51_2, xg_51_3, xg_51_4, xg_51_5, xg_51_6, xg_51_7, xp_51_7, xg_51_8, xp_51_8, xk_90, xg_90_0, xg_90_1, xg_90_2, xg_90_3, xp_90_3, xg_90_4, xg_90_5, xp_90_5, xg_90_6, xg_90_7, xp_90_7, xg_90_8, xp_90_8, xg_90_9, xp_90_9, xg_90_10, xas_2, xal_2, xal_3, xas_4, xal_4, xln_4, xas_5, xal_5, xln_5, xas_6, xal_6, xln_6, xas_7, xal_7, xln_7, xas_8, xal_8, xln_8, xas_9, xal_9, xln_9, xas0_10, xas1_10, xasb_10, xal_10, xal_11, xas_12, xal_12, xln_12, xas_27, xal_27, xal_28, xas_29, xal_29, xln_29, xas_30, xal_30, xln_30, xas_31, xal_31, xln_31, xas_32, xal_32, xln_32, xas_33, xal_33, xln_33, xas_34, xal_34, xln_34, xas0_35, xas1_35, xasb_35, xal_35, xal_36, xas_37, xal_37, xln_37, xas_88, xal_88, xln_88, xal_89, xas_89, xln_89, xas_103, xal_103, xln_103, xas_104, xal_104, xln_104, xas_105, xal_105, xln_105, xas_106, xal_106, xln_106, xas_107, xal_107, xln_107, xal_13, xal_in14, xas_in14, xln_in14, xal_38, xal_in39, xas_in39, xln_in39, xal_52, xal_in53, xas_in53, xln_in53, xal_61, xal_in62, xas_in62, xln_in62, xal_70, xal_in71, xas_in71, xln_in71, xal_79, xal_in80, xas_in80, xln_in80, xal_91, xal_in92, xas_in92, xln_in92, cl_some, nm_b, nn_some, qn_some, qn_none, zk_0, zk_1, zk_n0, zk_n1, nI_add, pk_mul, pk_sub, nI_leE, nI_ltE, nI_eqE, nI_lt0, nI_ge0, nI_eq0, nI_gt0, nI_le0, ilt_t, ilt_f, ile_t, ile_f, ieq_t, ieq_f, if_tt, if_ff, Nat.add_sub_cancel]
      rw [if_neg cl]
theorem x_firstOutdone {c : CS} {p q0 v n : Nat} (hC : XC G X lo h0 c (ma S 1) ns nt np lk td q) (hP : XP G X h0 c (ma S 1) nt p q0 6 v) (hn1 : 1 ≤ n) (hn10 : n ≤ 10) (hL : LdA c S nt n) (hM : MemoA c S nt n 0) : ∃ c' : CS, F_X9_firstOutdone G (encX G X c h0) nx (X + 90) q0 (nI n) = some (jdR S p nt lk td n 0 (ma S 1), encX G X c' h0, nx) ∧ FrX PQ c c' := by
  have h8 := x_nt8 hC
  obtain ⟨c2, e2, f2, t79, t92⟩ := x_begin (G := G) (X := X) (nx := nx) (h0 := h0) (c := c) (n := nI n)
  have f12 : FrX PQ c c2 := f2.mono pe_pq
  have hC2 := hC.fr f12 (fun k z => by have := pq_po k z; unfold PO at this; omega)
  have hP2 := hP.fr f12 (fun k z => by have := pq_po k z; unfold PO at this; omega)
  have hL2 : LdA c2 S nt n := hL.fr f12 (fun t k ht z1 z => by unfold PT at z1; unfold PQ PA PWA PW at z; omega) h8
  have hM2 : MemoA c2 S nt n 0 := hM.fr f2 (fun k h1 h2 z => by unfold PE at z; omega)
  have e79 : mnI (nI n) (nI 3) = nI (min n 3) := by
    unfold mnI
    have hl : nI 3 < nI n ↔ 3 < n := by rw [nI_ltE (by omega) (by omega)]
    by_cases c : 3 < n
    · rw [if_pos (hl.mpr c), Nat.min_eq_right (by omega)]
    · rw [if_neg (fun z => c (hl.mp z)), Nat.min_eq_left (by omega)]
  have hT : TI G X lo h0 S ns nt np lk td q n 0 (min n 3) (MdJ G X h0 S nt p q0 6 v) c2 (ma S 1) (fun _ => (0, 0)) 0 n := by
    refine ⟨⟨hC2, hL2, t79.trans e79, hP2⟩, hM2, AgN.rf, fun t ht => ⟨by show 0 < 3; decide, by show 0 + (0 + n) ≤ n; omega, ?_, rfl⟩⟩
    exact t92 t (by omega)
  obtain ⟨c3, e3, f3⟩ := x_fo7 (nx := nx) hn10 (Nat.le_refl _) hn10 n 0 fuelL c2 (ma S 1) (fun _ => (0, 0)) (by omega) (by unfold fuelL; omega) hT
  refine ⟨c3, ?_, f12.trans f3 (fun _ z => z) pa_pq⟩
  unfold F_X9_firstOutdone
  simp (maxSteps := 3000000) (disch := omega) only [e2, xi_xsi_s, xi_xsi_n, xl_xsi, xa_xsi, xj_xsi, xr_xsi, xsi_xsi, xi_xsl, xl_xsl_s, xl_xsl_n, xa_xsl, xj_xsl, xr_xsl, xsl_xsl, xi_xsa, xl_xsa, xa_xsa_s, xa_xsa_n, xj_xsa, xr_xsa, xsa_xsa, xi_xsj, xl_xsj, xa_xsj, xj_xsj_s, xj_xsj_n, xr_xsj, xsj_xsj, xi_xsr, xl_xsr, xa_xsr, xj_xsr, xr_xsr_s, xr_xsr_n, xsr_xsr, xk_0, xg_0_0, xg_0_1, xg_0_2, xp_0_2, xg_0_3, xg_0_4, xg_0_5, xg_0_6, xk_1, xg_1_0, xg_1_1, xp_1_1, xg_1_2, xg_1_3, xp_1_3, xg_1_4, xg_1_5, xg_1_6, xg_1_7, xg_1_8, xg_1_9, xg_1_10, xg_1_11, xp_1_11, xg_1_12, xg_1_13, xg_1_14, xg_1_15, xp_1_15, xg_1_16, xp_1_16, xg_1_17, xp_1_17, xk_26, xg_26_0, xg_26_1, xp_26_1, xg_26_2, xg_26_3, xp_26_3, xg_26_4, xg_26_5, xg_26_6, xg_26_7, xg_26_8, xg_26_9, xg_26_10, xg_26_11, xp_26_11, xg_26_12, xg_26_13, xg_26_14, xg_26_15, xp_26_15, xg_26_16, xp_26_16, xg_26_17, xp_26_17, xk_51, xg_51_0, xg_51_1, xg_51_2, xg_51_3, xg_51_4, xg_51_5, xg_51_6, xg_51_7, xp_51_7, xg_51_8, xp_51_8, xk_90, xg_90_0, xg_90_1, xg_90_2, xg_90_3, xp_90_3, xg_90_4, xg_90_5, xp_90_5, xg_90_6, xg_90_7, xp_90_7, xg_90_8, xp_90_8, xg_90_9, xp_90_9, xg_90_10, xas_2, xal_2, xal_3, xas_4, xal_4, xln_4, xas_5, xal_5, xln_5, xas_6, xal_6, xln_6, xas_7, xal_7, xln_7, xas_8, xal_8, xln_8, xas_9, xal_9, xln_9, xas0_10, xas1_10, xasb_10, xal_10, xal_11, xas_12, xal_12, xln_12, xas_27, xal_27, xal_28, xas_29, xal_29, xln_29, xas_30, xal_30, xln_30, xas_31, xal_31, xln_31, xas_32, xal_32, xln_32, xas_33, xal_33, xln_33, xas_34, xal_34, xln_34, xas0_35, xas1_35, xasb_35, xal_35, xal_36, xas_37, xal_37, xln_37, xas_88, xal_88, xln_88, xal_89, xas_89, xln_89, xas_103, xal_103, xln_103, xas_104, xal_104, xln_104, xas_105, xal_105, xln_105, xas_106, xal_106, xln_106, xas_107, xal_107, xln_107, xal_13, xal_in14, xas_in14, xln_in14, xal_38, xal_in39, xas_in39, xln_in39, xal_52, xal_in53, xas_in53, xln_in53, xal_61, xal_in62, xas_in62, xln_in62, xal_70, xal_in71, xas_in71, xln_in71, xal_79, xal_in80, xas_in80, xln_in80, xal_91, xal_in92, xas_in92, xln_in92, cl_some, nm_b, nn_some, qn_some, qn_none, zk_0, zk_1, zk_n0, zk_n1, nI_add, pk_mul, pk_sub, nI_leE, nI_ltE, nI_eqE, nI_lt0, nI_ge0, nI_eq0, nI_gt0, nI_le0, ilt_t, ilt_f, ile_t, ile_f, ieq_t, ieq_f, if_tt, if_ff, Nat.add_sub_cancel]
  exact e3
set_option maxRecDepth 100000 in
set_option maxHeartbeats 1000000 in
theorem x_judged {c : CS} (hC : XC G X lo h0 c (ma S 1) ns nt np lk td q) (h10 : mi S 10 = -1) (p d : Int32) : ∃ c' : CS, F_X11_judged G (encX G X c h0) nx X p d = some (judgedF S nt lk td p d, encX G X c' h0, nx) ∧ FrX PO c c' := by
  obtain ⟨h5, h12⟩ := x_npC hC
  have h2 : ma S 1 2 = nI np := hC.2.2.2.2.2.2.1
  have ep : F_X0_planAt G (encX G X c h0) nx (X + 1) p = _ := x_planAt h5 h12
  unfold F_X11_judged F_X11_judged_47 judgedF
  rw [h2]
  simp (maxSteps := 3000000) (disch := omega) only [ep, xi_xsi_s, xi_xsi_n, xl_xsi, xa_xsi, xj_xsi, xr_xsi, xsi_xsi, xi_xsl, xl_xsl_s, xl_xsl_n, xa_xsl, xj_xsl, xr_xsl, xsl_xsl, xi_xsa, xl_xsa, xa_xsa_s, xa_xsa_n, xj_xsa, xr_xsa, xsa_xsa, xi_xsj, xl_xsj, xa_xsj, xj_xsj_s, xj_xsj_n, xr_xsj, xsj_xsj, xi_xsr, xl_xsr, xa_xsr, xj_xsr, xr_xsr_s, xr_xsr_n, xsr_xsr, xk_0, xg_0_0, xg_0_1, xg_0_2, xp_0_2, xg_0_3, xg_0_4, xg_0_5, xg_0_6, xk_1, xg_1_0, xg_1_1, xp_1_1, xg_1_2, xg_1_3, xp_1_3, xg_1_4, xg_1_5, xg_1_6, xg_1_7, xg_1_8, xg_1_9, xg_1_10, xg_1_11, xp_1_11, xg_1_12, xg_1_13, xg_1_14, xg_1_15, xp_1_15, xg_1_16, xp_1_16, xg_1_17, xp_1_17, xk_26, xg_26_0, xg_26_1, xp_26_1, xg_26_2, xg_26_3, xp_26_3, xg_26_4, xg_26_5, xg_26_6, xg_26_7, xg_26_8, xg_26_9, xg_26_10, xg_26_11, xp_26_11, xg_26_12, xg_26_13, xg_26_14, xg_26_15, xp_26_15, xg_26_16, xp_26_16, xg_26_17, xp_26_17, xk_51, xg_51_0, xg_51_1, xg_51_2, xg_51_3, xg_51_4, xg_51_5, xg_51_6, xg_51_7, xp_51_7, xg_51_8, xp_51_8, xk_90, xg_90_0, xg_90_1, xg_90_2, xg_90_3, xp_90_3, xg_90_4, xg_90_5, xp_90_5, xg_90_6, xg_90_7, xp_90_7, xg_90_8, xp_90_8, xg_90_9, xp_90_9, xg_90_10, xas_2, xal_2, xal_3, xas_4, xal_4, xln_4, xas_5, xal_5, xln_5, xas_6, xal_6, xln_6, xas_7, xal_7, xln_7, xas_8, xal_8, xln_8, xas_9, xal_9, xln_9, xas0_10, xas1_10, xasb_10, xal_10, xal_11, xas_12, xal_12, xln_12, xas_27, xal_27, xal_28, xas_29, xal_29, xln_29, xas_30, xal_30, xln_30, xas_31, xal_31, xln_31, xas_32, xal_32, xln_32, xas_33, xal_33, xln_33, xas_34, xal_34, xln_34, xas0_35, xas1_35, xasb_35, xal_35, xal_36, xas_37, xal_37, xln_37, xas_88, xal_88, xln_88, xal_89, xas_89, xln_89, xas_103, xal_103, xln_103, xas_104, xal_104, xln_104, xas_105, xal_105, xln_105, xas_106, xal_106, xln_106, xas_107, xal_107, xln_107, xal_13, xal_in14, xas_in14, xln_in14, xal_38, xal_in39, xas_in39, xln_in39, xal_52, xal_in53, xas_in53, xln_in53, xal_61, xal_in62, xas_in62, xln_in62, xal_70, xal_in71, xas_in71, xln_in71, xal_79, xal_in80, xas_in80, xln_in80, xal_91, xal_in92, xas_in92, xln_in92, cl_some, nm_b, nn_some, qn_some, qn_none, zk_0, zk_1, zk_n0, zk_n1, nI_add, pk_mul, pk_sub, nI_leE, nI_ltE, nI_eqE, nI_lt0, nI_ge0, nI_eq0, nI_gt0, nI_le0, ilt_t, ilt_f, ile_t, ile_f, ieq_t, ieq_f, if_tt, if_ff, Nat.add_sub_cancel]
  by_cases c1 : bIn p (nI 0) (nI np - nI 1) = 0
  · rw [if_pos c1, if_pos c1]
    exact ⟨c, rfl, FrX.rf⟩
  · rw [if_neg c1, if_neg c1]
    obtain ⟨p, hp, rfl⟩ := bIn_nI (by omega) c1
    obtain ⟨q0, k, v, hP⟩ := hC.pl hp
    rw [nI_clamp (by omega), hP.1]
    simp (maxSteps := 3000000) (disch := omega) only [x_within, xi_xsi_s, xi_xsi_n, xl_xsi, xa_xsi, xj_xsi, xr_xsi, xsi_xsi, xi_xsl, xl_xsl_s, xl_xsl_n, xa_xsl, xj_xsl, xr_xsl, xsl_xsl, xi_xsa, xl_xsa, xa_xsa_s, xa_xsa_n, xj_xsa, xr_xsa, xsa_xsa, xi_xsj, xl_xsj, xa_xsj, xj_xsj_s, xj_xsj_n, xr_xsj, xsj_xsj, xi_xsr, xl_xsr, xa_xsr, xj_xsr, xr_xsr_s, xr_xsr_n, xsr_xsr, xk_0, xg_0_0, xg_0_1, xg_0_2, xp_0_2, xg_0_3, xg_0_4, xg_0_5, xg_0_6, xk_1, xg_1_0, xg_1_1, xp_1_1, xg_1_2, xg_1_3, xp_1_3, xg_1_4, xg_1_5, xg_1_6, xg_1_7, xg_1_8, xg_1_9, xg_1_10, xg_1_11, xp_1_11, xg_1_12, xg_1_13, xg_1_14, xg_1_15, xp_1_15, xg_1_16, xp_1_16, xg_1_17, xp_1_17, xk_26, xg_26_0, xg_26_1, xp_26_1, xg_26_2, xg_26_3, xp_26_3, xg_26_4, xg_26_5, xg_26_6, xg_26_7, xg_26_8, xg_26_9, xg_26_10, xg_26_11, xp_26_11, xg_26_12, xg_26_13, xg_26_14, xg_26_15, xp_26_15, xg_26_16, xp_26_16, xg_26_17, xp_26_17, xk_51, xg_51_0, xg_51_1, xg_51_2, xg_51_3, xg_51_4, xg_51_5, xg_51_6, xg_51_7, xp_51_7, xg_51_8, xp_51_8, xk_90, xg_90_0, xg_90_1, xg_90_2, xg_90_3, xp_90_3, xg_90_4, xg_90_5, xp_90_5, xg_90_6, xg_90_7, xp_90_7, xg_90_8, xp_90_8, xg_90_9, xp_90_9, xg_90_10, xas_2, xal_2, xal_3, xas_4, xal_4, xln_4, xas_5, xal_5, xln_5, xas_6, xal_6, xln_6, xas_7, xal_7, xln_7, xas_8, xal_8, xln_8, xas_9, xal_9, xln_9, xas0_10, xas1_10, xasb_10, xal_10, xal_11, xas_12, xal_12, xln_12, xas_27, xal_27, xal_28, xas_29, xal_29, xln_29, xas_30, xal_30, xln_30, xas_31, xal_31, xln_31, xas_32, xal_32, xln_32, xas_33, xal_33, xln_33, xas_34, xal_34, xln_34, xas0_35, xas1_35, xasb_35, xal_35, xal_36, xas_37, xal_37, xln_37, xas_88, xal_88, xln_88, xal_89, xas_89, xln_89, xas_103, xal_103, xln_103, xas_104, xal_104, xln_104, xas_105, xal_105, xln_105, xas_106, xal_106, xln_106, xas_107, xal_107, xln_107, xal_13, xal_in14, xas_in14, xln_in14, xal_38, xal_in39, xas_in39, xln_in39, xal_52, xal_in53, xas_in53, xln_in53, xal_61, xal_in62, xas_in62, xln_in62, xal_70, xal_in71, xas_in71, xln_in71, xal_79, xal_in80, xas_in80, xln_in80, xal_91, xal_in92, xas_in92, xln_in92, cl_some, nm_b, nn_some, qn_some, qn_none, zk_0, zk_1, zk_n0, zk_n1, nI_add, pk_mul, pk_sub, nI_leE, nI_ltE, nI_eqE, nI_lt0, nI_ge0, nI_eq0, nI_gt0, nI_le0, ilt_t, ilt_f, ile_t, ile_f, ieq_t, ieq_f, if_tt, if_ff, Nat.add_sub_cancel]
    by_cases c2 : bIn d (nI 1) (nI 10) = 0
    · rw [if_pos c2, if_pos c2]
      exact ⟨c, rfl, FrX.rf⟩
    · rw [if_neg c2, if_neg c2]
      obtain ⟨d, hd1, hd3, rfl⟩ := bIn_lh (by omega) (by omega) c2
      rw [nI_clamp (by omega)]
      have hq := hP.2.1 c
      have k6 := hP.2.2.1
      have e70 : ma S 1 (1070 + p) = nI k := hP.2.2.2.2.2.2.1
      have ein : ∀ {β : Type} {f : Int32 → Option β}, inC (encX G X c h0) q0 [1, 2, 3, 4, 6, 8, 10] [8] f = f (if k = 6 then nI 1 else nI 0) := by
        intro β f
        unfold inC
        rw [hq]
        rcases (show k = 0 ∨ k = 1 ∨ k = 2 ∨ k = 3 ∨ k = 4 ∨ k = 5 ∨ k = 6 by omega) with rfl | rfl | rfl | rfl | rfl | rfl | rfl <;> rfl
      by_cases ck6 : k = 6
      · subst ck6
        rw [if_pos e70]
        have e12 : xa c 12 p = ma S 1 (1094 + p) := hP.2.2.2.2.2.2.2.2.1
        have hp12 := hP.2.2.2.2.2.2.2.2.2.1
        rw [if_pos rfl] at ein
        simp (maxSteps := 3000000) (disch := omega) only [ein, e12, xi_xsi_s, xi_xsi_n, xl_xsi, xa_xsi, xj_xsi, xr_xsi, xsi_xsi, xi_xsl, xl_xsl_s, xl_xsl_n, xa_xsl, xj_xsl, xr_xsl, xsl_xsl, xi_xsa, xl_xsa, xa_xsa_s, xa_xsa_n, xj_xsa, xr_xsa, xsa_xsa, xi_xsj, xl_xsj, xa_xsj, xj_xsj_s, xj_xsj_n, xr_xsj, xsj_xsj, xi_xsr, xl_xsr, xa_xsr, xj_xsr, xr_xsr_s, xr_xsr_n, xsr_xsr, xk_0, xg_0_0, xg_0_1, xg_0_2, xp_0_2, xg_0_3, xg_0_4, xg_0_5, xg_0_6, xk_1, xg_1_0, xg_1_1, xp_1_1, xg_1_2, xg_1_3, xp_1_3, xg_1_4, xg_1_5, xg_1_6, xg_1_7, xg_1_8, xg_1_9, xg_1_10, xg_1_11, xp_1_11, xg_1_12, xg_1_13, xg_1_14, xg_1_15, xp_1_15, xg_1_16, xp_1_16, xg_1_17, xp_1_17, xk_26, xg_26_0, xg_26_1, xp_26_1, xg_26_2, xg_26_3, xp_26_3, xg_26_4, xg_26_5, xg_26_6, xg_26_7, xg_26_8, xg_26_9, xg_26_10, xg_26_11, xp_26_11, xg_26_12, xg_26_13, xg_26_14, xg_26_15, xp_26_15, xg_26_16, xp_26_16, xg_26_17, xp_26_17, xk_51, xg_51_0, xg_51_1, xg_51_2, xg_51_3, xg_51_4, xg_51_5, xg_51_6, xg_51_7, xp_51_7, xg_51_8, xp_51_8, xk_90, xg_90_0, xg_90_1, xg_90_2, xg_90_3, xp_90_3, xg_90_4, xg_90_5, xp_90_5, xg_90_6, xg_90_7, xp_90_7, xg_90_8, xp_90_8, xg_90_9, xp_90_9, xg_90_10, xas_2, xal_2, xal_3, xas_4, xal_4, xln_4, xas_5, xal_5, xln_5, xas_6, xal_6, xln_6, xas_7, xal_7, xln_7, xas_8, xal_8, xln_8, xas_9, xal_9, xln_9, xas0_10, xas1_10, xasb_10, xal_10, xal_11, xas_12, xal_12, xln_12, xas_27, xal_27, xal_28, xas_29, xal_29, xln_29, xas_30, xal_30, xln_30, xas_31, xal_31, xln_31, xas_32, xal_32, xln_32, xas_33, xal_33, xln_33, xas_34, xal_34, xln_34, xas0_35, xas1_35, xasb_35, xal_35, xal_36, xas_37, xal_37, xln_37, xas_88, xal_88, xln_88, xal_89, xas_89, xln_89, xas_103, xal_103, xln_103, xas_104, xal_104, xln_104, xas_105, xal_105, xln_105, xas_106, xal_106, xln_106, xas_107, xal_107, xln_107, xal_13, xal_in14, xas_in14, xln_in14, xal_38, xal_in39, xas_in39, xln_in39, xal_52, xal_in53, xas_in53, xln_in53, xal_61, xal_in62, xas_in62, xln_in62, xal_70, xal_in71, xas_in71, xln_in71, xal_79, xal_in80, xas_in80, xln_in80, xal_91, xal_in92, xas_in92, xln_in92, cl_some, nm_b, nn_some, qn_some, qn_none, zk_0, zk_1, zk_n0, zk_n1, nI_add, pk_mul, pk_sub, nI_leE, nI_ltE, nI_eqE, nI_lt0, nI_ge0, nI_eq0, nI_gt0, nI_le0, ilt_t, ilt_f, ile_t, ile_f, ieq_t, ieq_f, if_tt, if_ff, Nat.add_sub_cancel]
        by_cases c3 : ma S 1 (1094 + p) = 0
        · rw [if_pos c3, if_pos c3]
          exact ⟨c, rfl, FrX.rf⟩
        · rw [if_neg c3, if_neg c3]
          obtain ⟨c2, e2, f2, l2, w2⟩ := x_layAll (nx := nx) hC h10 (n := d) (by omega)
          obtain ⟨c3, e3, f3⟩ := x_firstOutdone (nx := nx) (pua_fr f2 hC) (hP.fr f2 (fun k z => by unfold PUA at z; omega)) hd1 hd3 l2 (fun t ht kk j hk hj => Or.inl (w2 t ht _ (by omega)))
          refine ⟨c3, ?_, f2.trans f3 po_pua pq_po⟩
          simp (maxSteps := 3000000) (disch := omega) only [e2, e3, xi_xsi_s, xi_xsi_n, xl_xsi, xa_xsi, xj_xsi, xr_xsi, xsi_xsi, xi_xsl, xl_xsl_s, xl_xsl_n, xa_xsl, xj_xsl, xr_xsl, xsl_xsl, xi_xsa, xl_xsa, xa_xsa_s, xa_xsa_n, xj_xsa, xr_xsa, xsa_xsa, xi_xsj, xl_xsj, xa_xsj, xj_xsj_s, xj_xsj_n, xr_xsj, xsj_xsj, xi_xsr, xl_xsr, xa_xsr, xj_xsr, xr_xsr_s, xr_xsr_n, xsr_xsr, xk_0, xg_0_0, xg_0_1, xg_0_2, xp_0_2, xg_0_3, xg_0_4, xg_0_5, xg_0_6, xk_1, xg_1_0, xg_1_1, xp_1_1, xg_1_2, xg_1_3, xp_1_3, xg_1_4, xg_1_5, xg_1_6, xg_1_7, xg_1_8, xg_1_9, xg_1_10, xg_1_11, xp_1_11, xg_1_12, xg_1_13, xg_1_14, xg_1_15, xp_1_15, xg_1_16, xp_1_16, xg_1_17, xp_1_17, xk_26, xg_26_0, xg_26_1, xp_26_1, xg_26_2, xg_26_3, xp_26_3, xg_26_4, xg_26_5, xg_26_6, xg_26_7, xg_26_8, xg_26_9, xg_26_10, xg_26_11, xp_26_11, xg_26_12, xg_26_13, xg_26_14, xg_26_15, xp_26_15, xg_26_16, xp_26_16, xg_26_17, xp_26_17, xk_51, xg_51_0, xg_51_1, xg_51_2, xg_51_3, xg_51_4, xg_51_5, xg_51_6, xg_51_7, xp_51_7, xg_51_8, xp_51_8, xk_90, xg_90_0, xg_90_1, xg_90_2, xg_90_3, xp_90_3, xg_90_4, xg_90_5, xp_90_5, xg_90_6, xg_90_7, xp_90_7, xg_90_8, xp_90_8, xg_90_9, xp_90_9, xg_90_10, xas_2, xal_2, xal_3, xas_4, xal_4, xln_4, xas_5, xal_5, xln_5, xas_6, xal_6, xln_6, xas_7, xal_7, xln_7, xas_8, xal_8, xln_8, xas_9, xal_9, xln_9, xas0_10, xas1_10, xasb_10, xal_10, xal_11, xas_12, xal_12, xln_12, xas_27, xal_27, xal_28, xas_29, xal_29, xln_29, xas_30, xal_30, xln_30, xas_31, xal_31, xln_31, xas_32, xal_32, xln_32, xas_33, xal_33, xln_33, xas_34, xal_34, xln_34, xas0_35, xas1_35, xasb_35, xal_35, xal_36, xas_37, xal_37, xln_37, xas_88, xal_88, xln_88, xal_89, xas_89, xln_89, xas_103, xal_103, xln_103, xas_104, xal_104, xln_104, xas_105, xal_105, xln_105, xas_106, xal_106, xln_106, xas_107, xal_107, xln_107, xal_13, xal_in14, xas_in14, xln_in14, xal_38, xal_in39, xas_in39, xln_in39, xal_52, xal_in53, xas_in53, xln_in53, xal_61, xal_in62, xas_in62, xln_in62, xal_70, xal_in71, xas_in71, xln_in71, xal_79, xal_in80, xas_in80, xln_in80, xal_91, xal_in92, xas_in92, xln_in92, cl_some, nm_b, nn_some, qn_some, qn_none, zk_0, zk_1, zk_n0, zk_n1, nI_add, pk_mul, pk_sub, nI_leE, nI_ltE, nI_eqE, nI_lt0, nI_ge0, nI_eq0, nI_gt0, nI_le0, ilt_t, ilt_f, ile_t, ile_f, ieq_t, ieq_f, if_tt, if_ff, Nat.add_sub_cancel]
      · rw [if_neg (fun z => ck6 ((nI_eq (by omega) (by omega)).mp (e70.symm.trans z)))]
        rw [if_neg ck6] at ein
        refine ⟨c, ?_, FrX.rf⟩
        simp (maxSteps := 3000000) (disch := omega) only [ein, xi_xsi_s, xi_xsi_n, xl_xsi, xa_xsi, xj_xsi, xr_xsi, xsi_xsi, xi_xsl, xl_xsl_s, xl_xsl_n, xa_xsl, xj_xsl, xr_xsl, xsl_xsl, xi_xsa, xl_xsa, xa_xsa_s, xa_xsa_n, xj_xsa, xr_xsa, xsa_xsa, xi_xsj, xl_xsj, xa_xsj, xj_xsj_s, xj_xsj_n, xr_xsj, xsj_xsj, xi_xsr, xl_xsr, xa_xsr, xj_xsr, xr_xsr_s, xr_xsr_n, xsr_xsr, xk_0, xg_0_0, xg_0_1, xg_0_2, xp_0_2, xg_0_3, xg_0_4, xg_0_5, xg_0_6, xk_1, xg_1_0, xg_1_1, xp_1_1, xg_1_2, xg_1_3, xp_1_3, xg_1_4, xg_1_5, xg_1_6, xg_1_7, xg_1_8, xg_1_9, xg_1_10, xg_1_11, xp_1_11, xg_1_12, xg_1_13, xg_1_14, xg_1_15, xp_1_15, xg_1_16, xp_1_16, xg_1_17, xp_1_17, xk_26, xg_26_0, xg_26_1, xp_26_1, xg_26_2, xg_26_3, xp_26_3, xg_26_4, xg_26_5, xg_26_6, xg_26_7, xg_26_8, xg_26_9, xg_26_10, xg_26_11, xp_26_11, xg_26_12, xg_26_13, xg_26_14, xg_26_15, xp_26_15, xg_26_16, xp_26_16, xg_26_17, xp_26_17, xk_51, xg_51_0, xg_51_1, xg_51_2, xg_51_3, xg_51_4, xg_51_5, xg_51_6, xg_51_7, xp_51_7, xg_51_8, xp_51_8, xk_90, xg_90_0, xg_90_1, xg_90_2, xg_90_3, xp_90_3, xg_90_4, xg_90_5, xp_90_5, xg_90_6, xg_90_7, xp_90_7, xg_90_8, xp_90_8, xg_90_9, xp_90_9, xg_90_10, xas_2, xal_2, xal_3, xas_4, xal_4, xln_4, xas_5, xal_5, xln_5, xas_6, xal_6, xln_6, xas_7, xal_7, xln_7, xas_8, xal_8, xln_8, xas_9, xal_9, xln_9, xas0_10, xas1_10, xasb_10, xal_10, xal_11, xas_12, xal_12, xln_12, xas_27, xal_27, xal_28, xas_29, xal_29, xln_29, xas_30, xal_30, xln_30, xas_31, xal_31, xln_31, xas_32, xal_32, xln_32, xas_33, xal_33, xln_33, xas_34, xal_34, xln_34, xas0_35, xas1_35, xasb_35, xal_35, xal_36, xas_37, xal_37, xln_37, xas_88, xal_88, xln_88, xal_89, xas_89, xln_89, xas_103, xal_103, xln_103, xas_104, xal_104, xln_104, xas_105, xal_105, xln_105, xas_106, xal_106, xln_106, xas_107, xal_107, xln_107, xal_13, xal_in14, xas_in14, xln_in14, xal_38, xal_in39, xas_in39, xln_in39, xal_52, xal_in53, xas_in53, xln_in53, xal_61, xal_in62, xas_in62, xln_in62, xal_70, xal_in71, xas_in71, xln_in71, xal_79, xal_in80, xas_in80, xln_in80, xal_91, xal_in92, xas_in92, xln_in92, cl_some, nm_b, nn_some, qn_some, qn_none, zk_0, zk_1, zk_n0, zk_n1, nI_add, pk_mul, pk_sub, nI_leE, nI_ltE, nI_eqE, nI_lt0, nI_ge0, nI_eq0, nI_gt0, nI_le0, ilt_t, ilt_f, ile_t, ile_f, ieq_t, ieq_f, if_tt, if_ff, Nat.add_sub_cancel]
end XJD
