/-! what a SORT brings and costs -/
def ovI (s : Nat → Int32) (a : Nat) (kn d pl ch : Int32) : Int32 := (kn.toInt64 * (nI 1000 - clipF (sumF s a (nI 0) d pl + ch)).toInt64 / 1000 + (nI 1000000 - kn).toInt64 * (sumF s a (nI 1) d pl).toInt64 / 1000).toInt32
def brI (s : Nat → Int32) (a : Nat) (kn : Int32) : Int32 := kn * s (140 + 4 * a) / nI 1000 - (nI 1000000 - kn) * s (140 + 4 * a + 1) / nI 1000
theorem clip_eq {x : Int32} : mxI (nI 0) (mnI (nI 1000) x) = clipF x := by
  unfold mxI mnI clipF
  have e0 : (nI 0).toInt = 0 := by decide
  have e1 : (nI 1000).toInt = 1000 := by decide
  have e2 : (0 : Int32).toInt = 0 := by decide
  by_cases c1 : x < nI 1000
  · rw [if_pos c1]
    by_cases c2 : nI 0 < x
    · rw [if_pos c2, if_neg (by rw [fa_lt] at *; omega), if_neg (by rw [fa_lt] at *; omega)]
    · rw [if_neg c2]
      by_cases c3 : x < 0
      · rw [if_pos c3]; rfl
      · rw [if_neg c3, if_neg (by rw [fa_lt] at *; omega)]
        rw [fa_eq]; rw [fa_lt] at *; omega
  · rw [if_neg c1, if_pos (by decide), if_neg (by rw [fa_lt] at *; omega)]
    by_cases c2 : nI 1000 < x
    · rw [if_pos c2]
    · rw [if_neg c2]
      rw [fa_eq]; rw [fa_lt] at *; omega
theorem clip_le {x : Int32} : ∃ i, i ≤ 1000 ∧ clipF x = nI i := by
  unfold clipF
  by_cases c : x < 0
  · rw [if_pos c]; exact ⟨0, by omega, rfl⟩
  · rw [if_neg c]
    by_cases c2 : nI 1000 < x
    · rw [if_pos c2]; exact ⟨1000, by omega, rfl⟩
    · rw [if_neg c2]
      obtain ⟨j, hj, rfl⟩ := nI_of (x := x) c
      rw [nI_ltE (by omega) hj] at c2
      exact ⟨j, by omega, rfl⟩
theorem ov_nat {k i m : Nat} (hk : k ≤ 1000000) (hi : i ≤ 1000) (hm : m ≤ 1000) : k * (1000 - i) / 1000 + (1000000 - k) * m / 1000 ≤ 1000000 ∧ k * (1000 - i) ≤ 1000000000 ∧ (1000000 - k) * m ≤ 1000000000 := by
  have h1 : k * (1000 - i) ≤ k * 1000 := Nat.mul_le_mul_left _ (by omega)
  have h2 : (1000000 - k) * m ≤ (1000000 - k) * 1000 := Nat.mul_le_mul_left _ hm
  generalize k * (1000 - i) = u at *
  generalize (1000000 - k) * m = v at *
  omega
theorem lN_1000 : (1000 : Int64) = lN 1000 := rfl
theorem ovI_nat {s : Nat → Int32} {a k i m : Nat} {d pl ch : Int32} (hk : k ≤ 1000000) (hi : i ≤ 1000) (hm : m ≤ 1000) (ei : clipF (sumF s a (nI 0) d pl + ch) = nI i) (em : sumF s a (nI 1) d pl = nI m) : ovI s a (nI k) d pl ch = nI (k * (1000 - i) / 1000 + (1000000 - k) * m / 1000) := by
  obtain ⟨b1, b2, b3⟩ := ov_nat hk hi hm
  unfold ovI
  rw [ei, em, pk_sub hi, pk_sub hk, nI_l (by omega), nI_l (by omega), nI_l (by omega), nI_l (by omega), lN_mul, lN_mul, lN_1000, pk_lDiv (by omega) (by decide) (by decide), pk_lDiv (by omega) (by decide) (by decide), lN_add, lN_i]
section XB
variable {G : Gx} {h : Hp} {nx lo p a : Nat} {s : Nat → Int32}
theorem ovI_le (hs : SoAt G lo h p s a) {k : Nat} (hk : k ≤ 1000000) (d pl ch : Int32) : ∃ k', k' ≤ 1000000 ∧ ovI s a (nI k) d pl ch = nI k' := by
  obtain ⟨i, hi, ei⟩ := clip_le (x := sumF s a (nI 0) d pl + ch)
  obtain ⟨m, hm, em⟩ := hs.sum_le (w := 1) (by omega) d pl
  exact ⟨_, (ov_nat hk hi hm).1, ovI_nat hk hi hm ei em⟩
theorem x_knownOver (hs : SoAt G lo h p s a) {k : Nat} (hk : k ≤ 1000000) (d pl ch : Int32) : F_X7_knownOver G h nx p (nI k) d pl ch = some (ovI s a (nI k) d pl ch, h, nx) := by
  obtain ⟨i, hi, ei⟩ := clip_le (x := sumF s a (nI 0) d pl + ch)
  obtain ⟨m, hm, em⟩ := hs.sum_le (w := 1) (by omega) d pl
  obtain ⟨b1, b2, b3⟩ := ov_nat hk hi hm
  have e0 := x_chance (nx := nx) (w := 0) (d := d) (k := pl) hs (by omega)
  have e1 := x_chance (nx := nx) (w := 1) (d := d) (k := pl) hs (by omega)
  rw [ovI_nat hk hi hm ei em]
  obtain ⟨pl', pt, pc, pw, pn, pe, l, co, cw, cn, ce, x2, x3, x5, sg, _, hp, _⟩ := hs
  have ck7 : ∀ {α : Type} {f : Nat → Option α}, ck h p [7] f = f 7 := ck_at hp (by decide)
  unfold F_X7_knownOver
  simp (maxSteps := 3000000) (disch := omega) only [ck7, e0, e1, clip_eq, ei, em, cl_some, nm_b, nn_some, qn_some, qn_none, zk_0, zk_1, zk_n0, zk_n1, nI_add, pk_mul, pk_sub, nI_leE, nI_ltE, nI_eqE, nI_lt0, nI_ge0, nI_eq0, nI_gt0, nI_le0, ilt_t, ilt_f, ile_t, ile_f, ieq_t, ieq_f, if_tt, if_ff, Nat.add_sub_cancel]
  rw [pk_div (by omega) (by decide) (by decide), pk_div (by omega) (by decide) (by decide), nI_add]
theorem SoAt.val (hs : SoAt G lo h p s a) {w : Nat} (hw : w < 4) : ∃ v, v ≤ 999 ∧ s (140 + 4 * a + w) = nI v := by
  obtain ⟨pl', pt, pc, pw, pn, pe, l, co, cw, cn, ce, x2, x3, x5, sg, _, hp, _, _, _, _, _, hv, _⟩ := hs
  obtain ⟨e, v, hv, ev⟩ := hv w hw
  exact ⟨v, hv, e.symm.trans ev⟩
theorem x_mends (hs : SoAt G lo h p s a) : F_X7_mends G h nx p = some (if s (140 + 4 * a + 3) ≤ 0 then nI 0 else nI 1, h, nx) := by
  obtain ⟨pl', pt, pc, pw, pn, pe, l, co, cw, cn, ce, x2, x3, x5, sg, _, hp, hl, _, _, _, _, hv, _⟩ := hs
  have g0 : ∀ {f : Option Nat → Option (Int32 × Hp × Nat)}, gfR h p [7] 0 f = f (some pl') := gfR_at hp (by decide) rfl
  have al : ∀ {f : Int32 → Option (Int32 × Hp × Nat)}, alI (g_c G 0) h pl' (nI 5) f = f (s (140 + 4 * a + 3)) := fun {f} => (alI_at hl (by omega) (by decide)).trans (by rw [← (hv 3 (by omega)).1])
  unfold F_X7_mends F_X7_mends_14
  simp (maxSteps := 3000000) (disch := omega) only [g0, al, cl_some, nm_b, nn_some, qn_some, qn_none, zk_0, zk_1, zk_n0, zk_n1, nI_add, pk_mul, pk_sub, nI_leE, nI_ltE, nI_eqE, nI_lt0, nI_ge0, nI_eq0, nI_gt0, nI_le0, ilt_t, ilt_f, ile_t, ile_f, ieq_t, ieq_f, if_tt, if_ff, Nat.add_sub_cancel]
  split <;> rfl
theorem x_lookCost (hs : SoAt G lo h p s a) : F_X7_lookCost G h nx p = some (1000 * (s (140 + 4 * a + 2)).toInt64, h, nx) := by
  obtain ⟨pl', pt, pc, pw, pn, pe, l, co, cw, cn, ce, x2, x3, x5, sg, _, hp, hl, _, _, _, _, hv, _⟩ := hs
  have g0 : ∀ {f : Option Nat → Option (Int64 × Hp × Nat)}, gfR h p [7] 0 f = f (some pl') := gfR_at hp (by decide) rfl
  have al : ∀ {f : Int32 → Option (Int64 × Hp × Nat)}, alI (g_c G 0) h pl' (nI 4) f = f (s (140 + 4 * a + 2)) := fun {f} => (alI_at hl (by omega) (by decide)).trans (by rw [← (hv 2 (by omega)).1])
  unfold F_X7_lookCost
  simp (maxSteps := 3000000) (disch := omega) only [g0, al, cl_some, nm_b, nn_some, qn_some, qn_none, zk_0, zk_1, zk_n0, zk_n1, nI_add, pk_mul, pk_sub, nI_leE, nI_ltE, nI_eqE, nI_lt0, nI_ge0, nI_eq0, nI_gt0, nI_le0, ilt_t, ilt_f, ile_t, ile_f, ieq_t, ieq_f, if_tt, if_ff, Nat.add_sub_cancel]
  rw [Int64.mul_comm]
theorem x_mendCost (hs : SoAt G lo h p s a) : F_X7_mendCost G h nx p = some (1000 * (s (140 + 4 * a + 3)).toInt64, h, nx) := by
  obtain ⟨pl', pt, pc, pw, pn, pe, l, co, cw, cn, ce, x2, x3, x5, sg, _, hp, hl, _, _, _, _, hv, _⟩ := hs
  have g0 : ∀ {f : Option Nat → Option (Int64 × Hp × Nat)}, gfR h p [7] 0 f = f (some pl') := gfR_at hp (by decide) rfl
  have al : ∀ {f : Int32 → Option (Int64 × Hp × Nat)}, alI (g_c G 0) h pl' (nI 5) f = f (s (140 + 4 * a + 3)) := fun {f} => (alI_at hl (by omega) (by decide)).trans (by rw [← (hv 3 (by omega)).1])
  unfold F_X7_mendCost
  simp (maxSteps := 3000000) (disch := omega) only [g0, al, cl_some, nm_b, nn_some, qn_some, qn_none, zk_0, zk_1, zk_n0, zk_n1, nI_add, pk_mul, pk_sub, nI_leE, nI_ltE, nI_eqE, nI_lt0, nI_ge0, nI_eq0, nI_gt0, nI_le0, ilt_t, ilt_f, ile_t, ile_f, ieq_t, ieq_f, if_tt, if_ff, Nat.add_sub_cancel]
  rw [Int64.mul_comm]
theorem x_bringsBy (hs : SoAt G lo h p s a) (kn : Int32) : F_X7_bringsBy G h nx p kn = some (brI s a kn, h, nx) := by
  obtain ⟨pl', pt, pc, pw, pn, pe, l, co, cw, cn, ce, x2, x3, x5, sg, _, hp, hl, _, _, _, _, hv, _⟩ := hs
  have g0 : ∀ {f : Option Nat → Option (Int32 × Hp × Nat)}, gfR h p [7] 0 f = f (some pl') := gfR_at hp (by decide) rfl
  have a2 : ∀ {f : Int32 → Option (Int32 × Hp × Nat)}, alI (g_c G 0) h pl' (nI 2) f = f (s (140 + 4 * a)) := fun {f} => (alI_at hl (by omega) (by decide)).trans (by rw [← Nat.add_zero (140 + 4 * a), ← (hv 0 (by omega)).1])
  have a3 : ∀ {f : Int32 → Option (Int32 × Hp × Nat)}, alI (g_c G 0) h pl' (nI 3) f = f (s (140 + 4 * a + 1)) := fun {f} => (alI_at hl (by omega) (by decide)).trans (by rw [← (hv 1 (by omega)).1])
  unfold F_X7_bringsBy
  simp (maxSteps := 3000000) (disch := omega) only [g0, a2, a3, cl_some, nm_b, nn_some, qn_some, qn_none, zk_0, zk_1, zk_n0, zk_n1, nI_add, pk_mul, pk_sub, nI_leE, nI_ltE, nI_eqE, nI_lt0, nI_ge0, nI_eq0, nI_gt0, nI_le0, ilt_t, ilt_f, ile_t, ile_f, ieq_t, ieq_f, if_tt, if_ff, Nat.add_sub_cancel]
  rfl
theorem x_last2 (hs : SoAt G lo h p s a) {α : Type} {f : Int32 → Option α} {w : Nat} (hw : w < 4) : (gfR h p [7] 0 fun v => nn v fun q => alI (g_c G 0) h q (nI (2 + w)) f) = f (s (140 + 4 * a + w)) := by
  obtain ⟨pl', pt, pc, pw, pn, pe, l, co, cw, cn, ce, x2, x3, x5, sg, _, hp, hl, _, _, _, _, hv, _⟩ := hs
  rw [gfR_at hp (by decide) (r := some pl') rfl, nn_some, alI_at hl (by omega) (by decide), (hv w hw).1]
theorem br_nat {k v : Nat} (hk : k ≤ 1000000) (hv : v ≤ 999) : k * v ≤ 999000000 ∧ k * v / 1000 ≤ 999000 := by
  have h1 : k * v ≤ 1000000 * 999 := Nat.mul_le_mul hk hv
  generalize k * v = u at *
  omega
theorem brI_w (hs : SoAt G lo h p s a) {k : Nat} (hk : k ≤ 1000000) : (brI s a (nI k)).toInt64 = (nI k).toInt64 * (s (140 + 4 * a)).toInt64 / 1000 - (nI 1000000 - nI k).toInt64 * (s (140 + 4 * a + 1)).toInt64 / 1000 ∧ Bd (brI s a (nI k)).toInt64 999000 := by
  obtain ⟨u, hu, eu⟩ := hs.val (w := 0) (by omega)
  obtain ⟨v, hv, ev⟩ := hs.val (w := 1) (by omega)
  have eu : s (140 + 4 * a) = nI u := eu
  have b1 := br_nat hk hu
  have b2 := br_nat (k := 1000000 - k) (by omega) hv
  unfold brI
  rw [eu, ev, pk_sub hk, nI_l (by omega), nI_l (by omega), nI_l (by omega), nI_l (by omega), lN_mul, lN_mul, lN_1000, pk_lDiv (by omega) (by decide) (by decide), pk_lDiv (by omega) (by decide) (by decide), pk_mul, pk_mul, pk_div (by omega) (by decide) (by decide), pk_div (by omega) (by decide) (by decide)]
  have e1 : (nI (k * u / 1000)).toInt = ((k * u / 1000 : Nat) : Int) := nI_toInt (by omega)
  have e2 : (nI ((1000000 - k) * v / 1000)).toInt = (((1000000 - k) * v / 1000 : Nat) : Int) := nI_toInt (by omega)
  have f1 : (lN (k * u / 1000)).toInt = ((k * u / 1000 : Nat) : Int) := lN_toInt (by omega)
  have f2 : (lN ((1000000 - k) * v / 1000)).toInt = (((1000000 - k) * v / 1000 : Nat) : Int) := lN_toInt (by omega)
  have e3 := fb_subI (x := nI (k * u / 1000)) (y := nI ((1000000 - k) * v / 1000)) (by omega) (by omega)
  have f3 := fb_subL (x := lN (k * u / 1000)) (y := lN ((1000000 - k) * v / 1000)) (by omega) (by omega)
  constructor
  · refine i64_ext ?_
    rw [toI_w, e3, f3, e1, e2, f1, f2]
  · unfold Bd
    rw [toI_w, e3, e1, e2]
    generalize k * u / 1000 = x at *
    generalize (1000000 - k) * v / 1000 = y at *
    omega
end XB
/-! the class's book against a row -/
/-- the class of a KIND's objects -/
def kCl (k : Nat) : Nat := if k = 1 then 4 else if k = 2 then 10 else if k = 3 then 3 else if k = 4 then 1 else if k = 5 then 2 else if k = 6 then 8 else 6
def BkI (fi : Nat → Int32) (s : Nat → Int32) : Prop := fi 111 = s 5 ∧ fi 112 = s 0 ∧ fi 113 = s 1 ∧ fi 114 = s 2 ∧ fi 115 = s 3 ∧ fi 116 = s 4
def ThR (fa : Nat → Nat → Int32) (s : Nat → Int32) (nt : Nat) : Prop := ∀ t, t < nt → fa 4 t = s (1010 + t) ∧ fa 5 t = s (1018 + t) ∧ fa 6 t = s (1034 + t) ∧ fa 7 t = s (1042 + t) ∧ fa 8 t = s (1050 + t) ∧ fa 9 t = s (1058 + t) ∧ fa 10 t = s (1026 + t)
def SoR (G : Gx) (lo : Nat) (h : Hp) (fr : Nat → Nat → Option Nat) (s : Nat → Int32) (ns : Nat) : Prop := ∀ a, a < ns → ∃ p, fr 3 a = some p ∧ SoAt G lo h p s a
def PlR (lo : Nat) (h : Hp) (fa : Nat → Nat → Int32) (fr : Nat → Nat → Option Nat) (s : Nat → Int32) (np : Nat) : Prop := ∀ p, p < np → ∃ q, fr 11 p = some q ∧ lo ≤ q ∧ h q = some (ob (kCl (sN s (1070 + p))) [.int (nI p), .int (s (1082 + p))]) ∧ fa 12 p = s (1094 + p) ∧ ∀ j, j < sN s (1094 + p) → fa (14 + p) j = s (1110 + 10 * p + j)
def sxB (x : Int32) : Int32 := x.toInt8.toInt32
def TaR (fa : Nat → Nat → Int32) (s : Nat → Int32) (q : Nat) : Prop := ∀ j, j < q → fa 2 j = sxB (s (10 + j))
def RfR (lo : Nat) (h : Hp) (fr : Nat → Nat → Option Nat) : Prop := (∀ k q, k < 6 → fr 3 k = some q → lo ≤ q ∧ ∃ fs, h q = some (ob 7 fs)) ∧ (∀ k q, k < 12 → fr 11 k = some q → lo ≤ q ∧ ∃ c fs, c ∈ [1, 2, 3, 4, 6, 8, 10] ∧ h q = some (ob c fs))
def ByR (fa : Nat → Nat → Int32) : Prop := (∀ j, j < 120 → fits .byte (.int (fa 2 j)) = true) ∧ ∀ j, j < 8 → fa 10 j = 0 ∨ fa 10 j = 1
def BkR (G : Gx) (lo : Nat) (h : Hp) (fi : Nat → Int32) (fa : Nat → Nat → Int32) (fr : Nat → Nat → Option Nat) (s : Nat → Int32) (ns nt np q : Nat) : Prop := BkI fi s ∧ ThR fa s nt ∧ SoR G lo h fr s ns ∧ PlR lo h fa fr s np ∧ TaR fa s q
/-- a row that is as rows are -/
def ThV (s : Nat → Int32) (ns t : Nat) : Prop := (∃ a, a < ns ∧ s (1010 + t) = nI a) ∧ (∃ k, k ≤ 1000000 ∧ s (1034 + t) = nI k) ∧ (∃ d, d ≤ 999 ∧ s (1042 + t) = nI d) ∧ (s (1026 + t) = nI 0 ∨ s (1026 + t) = nI 1) ∧ ∃ k, k ≤ 99 ∧ s (1018 + t) = nI k
def PlV (s : Nat → Int32) (nt p : Nat) : Prop := (∃ k, k ≤ 6 ∧ s (1070 + p) = nI k) ∧ (∃ v, v ≤ 99 ∧ s (1082 + p) = nI v) ∧ ∃ r, r ≤ 10 ∧ s (1094 + p) = nI r ∧ ∀ j, j < r → ∃ m, m < 2 ^ nt ∧ s (1110 + 10 * p + j) = nI m
def VaR (s : Nat → Int32) (ns nt np lk td q : Nat) : Prop := s 0 = nI ns ∧ ns ≤ 6 ∧ s 1 = nI nt ∧ nt ≤ 8 ∧ s 2 = nI np ∧ np ≤ 12 ∧ s 3 = nI td ∧ td ≤ 999 ∧ (∃ l, 1 ≤ l ∧ l ≤ 3 ∧ s 4 = nI l ∧ lk = min l nt) ∧ s 5 = nI q ∧ q ≤ 120 ∧ (∀ t, t < nt → ThV s ns t) ∧ (∀ p, p < np → PlV s nt p) ∧ (∀ a, a < ns → CodeOk s a) ∧ ∀ j, j < q → ∃ m, m < 256 ∧ s (10 + j) = nI m
def XC (G : Gx) (X lo : Nat) (h0 : Hp) (c : CS) (s : Nat → Int32) (ns nt np lk td q : Nat) : Prop := X + 108 ≤ lo ∧ BkR G lo h0 (xi c) (xa c) (xr c) s ns nt np q ∧ VaR s ns nt np lk td q
/-- alike but for some keys -/
def FrX (P : Nat → Prop) (c c' : CS) : Prop := ∀ k, ¬ P k → xi c' k = xi c k ∧ xl c' k = xl c k ∧ xa c' k = xa c k ∧ xj c' k = xj c k ∧ xr c' k = xr c k
theorem FrX.rf {P : Nat → Prop} {c : CS} : FrX P c c := fun _ _ => ⟨rfl, rfl, rfl, rfl, rfl⟩
theorem FrX.trans {P Q R : Nat → Prop} {a b c : CS} (h1 : FrX P a b) (h2 : FrX Q b c) (hp : ∀ k, P k → R k) (hq : ∀ k, Q k → R k) : FrX R a c := fun k hk => by
  obtain ⟨a1, a2, a3, a4, a5⟩ := h1 k (fun z => hk (hp k z))
  obtain ⟨b1, b2, b3, b4, b5⟩ := h2 k (fun z => hk (hq k z))
  exact ⟨b1.trans a1, b2.trans a2, b3.trans a3, b4.trans a4, b5.trans a5⟩
theorem FrX.mono {P R : Nat → Prop} {a b : CS} (h1 : FrX P a b) (hp : ∀ k, P k → R k) : FrX R a b := fun k hk => h1 k (fun z => hk (hp k z))
theorem FrX.i {P : Nat → Prop} {a b : CS} (h : FrX P a b) (k : Nat) (hk : ¬ P k) : xi b k = xi a k := (h k hk).1
theorem FrX.l {P : Nat → Prop} {a b : CS} (h : FrX P a b) (k : Nat) (hk : ¬ P k) : xl b k = xl a k := (h k hk).2.1
theorem FrX.a {P : Nat → Prop} {a b : CS} (h : FrX P a b) (k : Nat) (hk : ¬ P k) : xa b k = xa a k := (h k hk).2.2.1
theorem FrX.j {P : Nat → Prop} {a b : CS} (h : FrX P a b) (k : Nat) (hk : ¬ P k) : xj b k = xj a k := (h k hk).2.2.2.1
theorem FrX.r {P : Nat → Prop} {a b : CS} (h : FrX P a b) (k : Nat) (hk : ¬ P k) : xr b k = xr a k := (h k hk).2.2.2.2
theorem FrX.si {P : Nat → Prop} {c : CS} {k : Nat} {x : Int32} (h : P k) : FrX P c (xsi c k x) := fun j hj => ⟨xi_xsi_n (fun e => hj (e ▸ h)), rfl, rfl, rfl, rfl⟩
theorem FrX.sl {P : Nat → Prop} {c : CS} {k : Nat} {x : Int64} (h : P k) : FrX P c (xsl c k x) := fun j hj => ⟨rfl, xl_xsl_n (fun e => hj (e ▸ h)), rfl, rfl, rfl⟩
theorem FrX.sa {P : Nat → Prop} {c : CS} {k : Nat} {x : Nat → Int32} (h : P k) : FrX P c (xsa c k x) := fun j hj => ⟨rfl, rfl, xa_xsa_n (fun e => hj (e ▸ h)), rfl, rfl⟩
theorem FrX.sj {P : Nat → Prop} {c : CS} {k : Nat} {x : Nat → Int64} (h : P k) : FrX P c (xsj c k x) := fun j hj => ⟨rfl, rfl, rfl, xj_xsj_n (fun e => hj (e ▸ h)), rfl⟩
theorem FrX.sr {P : Nat → Prop} {c : CS} {k : Nat} {x : Nat → Option Nat} (h : P k) : FrX P c (xsr c k x) := fun j hj => ⟨rfl, rfl, rfl, rfl, xr_xsr_n (fun e => hj (e ▸ h))⟩
/-- scratch: outlook, tree, today -/
def PO (k : Nat) : Prop := 51 ≤ k ∧ k < 106
theorem XC.fr {G : Gx} {X lo : Nat} {h0 : Hp} {c c' : CS} {s : Nat → Int32} {ns nt np lk td q : Nat} {P : Nat → Prop} (h : XC G X lo h0 c s ns nt np lk td q) (f : FrX P c c') (hP : ∀ k, P k → 26 ≤ k ∧ k < 111) : XC G X lo h0 c' s ns nt np lk td q := by
  obtain ⟨h1, ⟨⟨i1, i2, i3, i4, i5, i6⟩, t, so, pl, ta⟩, v⟩ := h
  have np : ∀ k, k < 26 ∨ 111 ≤ k → ¬ P k := fun k hk z => by have := hP k z; omega
  refine ⟨h1, ⟨⟨?_, ?_, ?_, ?_, ?_, ?_⟩, ?_, ?_, ?_, ?_⟩, v⟩
  · rw [f.i 111 (np _ (by omega))]; exact i1
  · rw [f.i 112 (np _ (by omega))]; exact i2
  · rw [f.i 113 (np _ (by omega))]; exact i3
  · rw [f.i 114 (np _ (by omega))]; exact i4
  · rw [f.i 115 (np _ (by omega))]; exact i5
  · rw [f.i 116 (np _ (by omega))]; exact i6
  · intro j hj
    rw [f.a 4 (np _ (by omega)), f.a 5 (np _ (by omega)), f.a 6 (np _ (by omega)), f.a 7 (np _ (by omega)), f.a 8 (np _ (by omega)), f.a 9 (np _ (by omega)), f.a 10 (np _ (by omega))]
    exact t j hj
  · intro j hj
    rw [f.r 3 (np _ (by omega))]
    exact so j hj
  · intro j hj
    have hj12 : j < 12 := by have := v.2.2.2.2.2.1; omega
    rw [f.r 11 (np _ (by omega)), f.a 12 (np _ (by omega)), f.a (14 + j) (np _ (by omega))]
    exact pl j hj
  · intro j hj
    rw [f.a 2 (np _ (by omega))]
    exact ta j hj
theorem XC.po {G : Gx} {X lo : Nat} {h0 : Hp} {c c' : CS} {s : Nat → Int32} {ns nt np lk td q : Nat} (h : XC G X lo h0 c s ns nt np lk td q) (f : FrX PO c c') : XC G X lo h0 c' s ns nt np lk td q := h.fr f (fun k z => by unfold PO at z; omega)
/-- a THING, with its SORT -/
def XT (G : Gx) (X lo : Nat) (h0 : Hp) (c : CS) (s : Nat → Int32) (t a p : Nat) : Prop := a < 6 ∧ sN s (1010 + t) = a ∧ s (1010 + t) = nI a ∧ xa c 4 t = nI a ∧ xr c 3 a = some p ∧ (∀ c' : CS, SoAt G lo (encX G X c' h0) p s a) ∧ xa c 5 t = s (1018 + t) ∧ xa c 6 t = s (1034 + t) ∧ xa c 7 t = s (1042 + t) ∧ xa c 10 t = s (1026 + t) ∧ ThV s a.succ t
section XB2
variable {G : Gx} {X lo nx : Nat} {h0 : Hp} {c : CS} {s : Nat → Int32} {ns nt np lk td q : Nat}
theorem XC.th (h : XC G X lo h0 c s ns nt np lk td q) {t : Nat} (ht : t < nt) : ∃ a p, XT G X lo h0 c s t a p := by
  obtain ⟨h1, ⟨_, ht1, so, _, _⟩, v⟩ := h
  obtain ⟨v1, v2, v3, v4, v5, v6, v7, v8, v9, v10, v11, v12, _⟩ := v
  obtain ⟨⟨a, ha, ea⟩, r⟩ := v12 t ht
  obtain ⟨p, hp, sp⟩ := so a ha
  obtain ⟨t1, t2, t3, t4, t5, t6, t7⟩ := ht1 t ht
  refine ⟨a, p, by omega, ?_, ea, t1.trans ea, hp, fun c' => sp.enc h1, t2, t3, t4, t7, ⟨⟨a, by omega, ea⟩, r⟩⟩
  unfold sN
  rw [ea, nI_clamp (by omega)]
theorem XT.fr {P : Nat → Prop} {c' : CS} {t a p : Nat} (h : XT G X lo h0 c s t a p) (f : FrX P c c') (hP : ∀ k, P k → 26 ≤ k ∧ k < 111) : XT G X lo h0 c' s t a p := by
  have np : ∀ k, k < 26 ∨ 111 ≤ k → ¬ P k := fun k hk z => by have := hP k z; omega
  unfold XT at *
  rw [f.a 4 (np _ (by omega)), f.a 5 (np _ (by omega)), f.a 6 (np _ (by omega)), f.a 7 (np _ (by omega)), f.a 10 (np _ (by omega)), f.r 3 (np _ (by omega))]
  exact h
theorem XT.po {c' : CS} {t a p : Nat} (h : XT G X lo h0 c s t a p) (f : FrX PO c c') : XT G X lo h0 c' s t a p := h.fr f (fun k z => by unfold PO at z; omega)
theorem x_sortAt {t a p : Nat} (h : XT G X lo h0 c s t a p) (ht : t < 8) : F_X0_sortAt G (encX G X c h0) nx (X + 1) (nI t) = some (some p, encX G X c h0, nx) := by
  obtain ⟨a6, _, _, e1, e2, _⟩ := h
  unfold F_X0_sortAt
  simp (maxSteps := 3000000) (disch := omega) only [e1, e2, xi_xsi_s, xi_xsi_n, xl_xsi, xa_xsi, xj_xsi, xr_xsi, xsi_xsi, xi_xsl, xl_xsl_s, xl_xsl_n, xa_xsl, xj_xsl, xr_xsl, xsl_xsl, xi_xsa, xl_xsa, xa_xsa_s, xa_xsa_n, xj_xsa, xr_xsa, xsa_xsa, xi_xsj, xl_xsj, xa_xsj, xj_xsj_s, xj_xsj_n, xr_xsj, xsj_xsj, xi_xsr, xl_xsr, xa_xsr, xj_xsr, xr_xsr_s, xr_xsr_n, xsr_xsr, xk_0, xg_0_0, xg_0_1, xg_0_2, xp_0_2, xg_0_3, xg_0_4, xg_0_5, xg_0_6, xk_1, xg_1_0, xg_1_1, xp_1_1, xg_1_2, xg_1_3, xp_1_3, xg_1_4, xg_1_5, xg_1_6, xg_1_7, xg_1_8, xg_1_9, xg_1_10, xg_1_11, xp_1_11, xg_1_12, xg_1_13, xg_1_14, xg_1_15, xp_1_15, xg_1_16, xp_1_16, xg_1_17, xp_1_17, xk_26, xg_26_0, xg_26_1, xp_26_1, xg_26_2, xg_26_3, xp_26_3, xg_26_4, xg_26_5, xg_26_6, xg_26_7, xg_26_8, xg_26_9, xg_26_10, xg_26_11, xp_26_11, xg_26_12, xg_26_13, xg_26_14, xg_26_15, xp_26_15, xg_26_16, xp_26_16, xg_26_17, xp_26_17, xk_51, xg_51_0, xg_51_1, xg_51_2, xg_51_3, xg_51_4, xg_51_5, xg_51_6, xg_51_7, xp_51_7, xg_51_8, xp_51_8, xk_90, xg_90_0, xg_90_1, xg_90_2, xg_90_3, xp_90_3, xg_90_4, xg_90_5, xp_90_5, xg_90_6, xg_90_7, xp_90_7, xg_90_8, xp_90_8, xg_90_9, xp_90_9, xg_90_10, xas_2, xal_2, xal_3, xas_4, xal_4, xln_4, xas_5, xal_5, xln_5, xas_6, xal_6, xln_6, xas_7, xal_7, xln_7, xas_8, xal_8, xln_8, xas_9, xal_9, xln_9, xas0_10, xas1_10, xasb_10, xal_10, xal_11, xas_12, xal_12, xln_12, xas_27, xal_27, xal_28, xas_29, xal_29, xln_29, xas_30, xal_30, xln_30, xas_31, xal_31, xln_31, xas_32, xal_32, xln_32, xas_33, xal_33, xln_33, xas_34, xal_34, xln_34, xas0_35, xas1_35, xasb_35, xal_35, xal_36, xas_37, xal_37, xln_37, xas_88, xal_88, xln_88, xal_89, xas_89, xln_89, xas_103, xal_103, xln_103, xas_104, xal_104, xln_104, xas_105, xal_105, xln_105, xas_106, xal_106, xln_106, xas_107, xal_107, xln_107, xal_13, xal_in14, xas_in14, xln_in14, xal_38, xal_in39, xas_in39, xln_in39, xal_52, xal_in53, xas_in53, xln_in53, xal_61, xal_in62, xas_in62, xln_in62, xal_70, xal_in71, xas_in71, xln_in71, xal_79, xal_in80, xas_in80, xln_in80, xal_91, xal_in92, xas_in92, xln_in92, cl_some, nm_b, nn_some, qn_some, qn_none, zk_0, zk_1, zk_n0, zk_n1, nI_add, pk_mul, pk_sub, nI_leE, nI_ltE, nI_eqE, nI_lt0, nI_ge0, nI_eq0, nI_gt0, nI_le0, ilt_t, ilt_f, ile_t, ile_f, ieq_t, ieq_f, if_tt, if_ff, Nat.add_sub_cancel]
theorem x_ck7 {p a : Nat} {h : Hp} (hs : SoAt G lo h p s a) {β : Type} {f : Nat → Option β} : ck h p [7] f = f 7 := by
  obtain ⟨pl', pt, pc, pw, pn, pe, l, co, cw, cn, ce, x2, x3, x5, sg, _, hp, _⟩ := hs
  exact ck_at hp (by decide)
end XB2
