/-! plain facts on numbers and arrays, to paste: each family by itself; over the kit's rows on nI and upd -/
/-! ===== order of ints, in all its forms, and through longs ===== -/
theorem fa_lt (a b : Int32) : a < b ↔ a.toInt < b.toInt := Int32.lt_iff_toInt_lt
theorem fa_le (a b : Int32) : a ≤ b ↔ a.toInt ≤ b.toInt := Int32.le_iff_toInt_le
theorem fa_eq (a b : Int32) : a = b ↔ a.toInt = b.toInt := Int32.toInt_inj.symm
theorem fa_lt64 (a b : Int64) : a < b ↔ a.toInt < b.toInt := Int64.lt_iff_toInt_lt
theorem fa_le64 (a b : Int64) : a ≤ b ↔ a.toInt ≤ b.toInt := Int64.le_iff_toInt_le
theorem fa_eq64 (a b : Int64) : a = b ↔ a.toInt = b.toInt := Int64.toInt_inj.symm
/-- a comparison of two ints taken as longs -/
theorem fa_wide_lt (a b : Int32) : a.toInt64 < b.toInt64 ↔ a < b := by rw [fa_lt64, fa_lt, Int32.toInt_toInt64, Int32.toInt_toInt64]
theorem fa_wide_le (a b : Int32) : a.toInt64 ≤ b.toInt64 ↔ a ≤ b := by rw [fa_le64, fa_le, Int32.toInt_toInt64, Int32.toInt_toInt64]
theorem fa_wide_eq (a b : Int32) : a.toInt64 = b.toInt64 ↔ a = b := by rw [fa_eq64, fa_eq, Int32.toInt_toInt64, Int32.toInt_toInt64]
/-- one strict comparison gives all the others -/
theorem fa_of_lt {a b : Int32} (h : a < b) : a ≤ b ∧ ¬ b ≤ a ∧ ¬ b < a ∧ a ≠ b ∧ b ≠ a := by
  rw [fa_lt] at h
  refine ⟨?_, ?_, ?_, ?_, ?_⟩
  · rw [fa_le]; omega
  · rw [fa_le]; omega
  · rw [fa_lt]; omega
  · intro e; rw [fa_eq] at e; omega
  · intro e; rw [fa_eq] at e; omega
theorem fa_of_nlt {a b : Int32} (h : ¬ a < b) : b ≤ a := by
  rw [fa_lt] at h
  rw [fa_le]
  omega
theorem fa_of_nle {a b : Int32} (h : ¬ a ≤ b) : b < a := by
  rw [fa_le] at h
  rw [fa_lt]
  omega
theorem fa_le_ne {a b : Int32} (h : a ≤ b) (h2 : a ≠ b) : a < b := by
  rw [fa_le] at h
  rw [fa_lt]
  have h3 : a.toInt ≠ b.toInt := fun e => h2 ((fa_eq a b).mpr e)
  omega
theorem fa_three (a b : Int32) : a < b ∨ a = b ∨ b < a := by
  rw [fa_lt, fa_lt, fa_eq]
  omega
theorem fa_trans {a b c : Int32} (h : a < b) (h2 : b ≤ c) : a < c := by
  rw [fa_lt] at *
  rw [fa_le] at h2
  omega
/-! ===== small literals as numbers ===== -/
theorem fa_lit (n : Nat) : (OfNat.ofNat n : Int32) = nI n := rfl
theorem fa_litL (n : Nat) : (OfNat.ofNat n : Int64) = lN n := rfl
/-! ===== bits of a number: 'or', masks, one bit ===== -/
theorem fa_and (a b : Nat) : nI a &&& nI b = nI (a &&& b) := by
  apply Int32.toBitVec_inj.1
  show BitVec.ofNat 32 a &&& BitVec.ofNat 32 b = BitVec.ofNat 32 (a &&& b)
  apply BitVec.eq_of_getLsbD_eq
  intro i hi
  simp [hi]
theorem fa_or (a b : Nat) : nI a ||| nI b = nI (a ||| b) := by
  apply Int32.toBitVec_inj.1
  show BitVec.ofNat 32 a ||| BitVec.ofNat 32 b = BitVec.ofNat 32 (a ||| b)
  apply BitVec.eq_of_getLsbD_eq
  intro i hi
  simp [hi]
/-- a remainder by a power of two, as a mask -/
theorem fa_mask (n k : Nat) : nI n &&& nI (2 ^ k - 1) = nI (n % 2 ^ k) := by rw [fa_and, Nat.and_two_pow_sub_one_eq_mod]
/-- 'or' of a high part and a low one that don't meet is their sum -/
theorem fa_or_sum {a k : Nat} (b : Nat) (h : a < 2 ^ k) : nI (2 ^ k * b) ||| nI a = nI (2 ^ k * b + a) := by rw [fa_or, Nat.two_pow_add_eq_or_of_lt h]
/-- one bit, by 'and' with a power of two -/
theorem fa_bit {n j : Nat} (hj : j < 31) : nI n &&& nI (2 ^ j) = 0 ↔ n.testBit j = false := by
  have h2 : (2 : Nat) ^ j < 2 ^ 31 := Nat.pow_lt_pow_right (by decide) hj
  have hle : n &&& 2 ^ j ≤ 2 ^ j := Nat.and_le_right
  have e : n &&& 2 ^ j = 0 ↔ n.testBit j = false := by
    constructor
    · intro h
      have h1 : (n &&& 2 ^ j).testBit j = false := by rw [h]; simp
      rw [Nat.testBit_and] at h1
      first | simpa using h1 | simpa [Nat.testBit_two_pow_self] using h1 | simpa [Nat.testBit_two_pow] using h1
    · intro h
      apply Nat.eq_of_testBit_eq
      intro i
      rw [Nat.testBit_and]
      by_cases hi : j = i
      · subst hi; simp [h]
      · first | (simp [Nat.testBit_two_pow, hi]; done) | (simp [Nat.testBit_two_pow_of_ne hi]; done)
  rw [fa_and]
  constructor
  · intro h
    apply e.mp
    rcases Nat.eq_zero_or_pos (n &&& 2 ^ j) with z | z
    · exact z
    · exact absurd h (nI_ne0 z (Nat.lt_of_le_of_lt hle h2))
  · intro h
    rw [e.mpr h]; exact nI_0
/-- a remainder by a power of two of a number that isn't negative, as Java divides -/
theorem fa_rem {a k : Nat} (ha : a < 2 ^ 31) (hk : k < 31) : nI a - nI a / nI (2 ^ k) * nI (2 ^ k) = nI (a % 2 ^ k) := pk_rem ha (Nat.two_pow_pos k) (Nat.pow_lt_pow_right (by decide) hk)
/-! ===== signed ints as whole numbers, within bounds ===== -/
theorem fb_rng (x : Int32) : -2147483648 ≤ x.toInt ∧ x.toInt < 2147483648 := by
  have h1 := Int32.le_toInt x
  have h2 := Int32.toInt_lt x
  omega
theorem fb_bmod {z : Int} (h1 : -2147483648 ≤ z) (h2 : z < 2147483648) : z.bmod (2 ^ 32) = z := by
  rw [Int.bmod_eq_of_le (by omega) (by omega)]
theorem fb_addI {x y : Int32} (h1 : -2147483648 ≤ x.toInt + y.toInt) (h2 : x.toInt + y.toInt < 2147483648) : (x + y).toInt = x.toInt + y.toInt := by
  rw [Int32.toInt_add, fb_bmod h1 h2]
theorem fb_subI {x y : Int32} (h1 : -2147483648 ≤ x.toInt - y.toInt) (h2 : x.toInt - y.toInt < 2147483648) : (x - y).toInt = x.toInt - y.toInt := by
  rw [Int32.toInt_sub, fb_bmod h1 h2]
theorem fb_mulI {x y : Int32} (h1 : -2147483648 ≤ x.toInt * y.toInt) (h2 : x.toInt * y.toInt < 2147483648) : (x * y).toInt = x.toInt * y.toInt := by
  rw [Int32.toInt_mul, fb_bmod h1 h2]
theorem fb_negI {x : Int32} (h : x.toInt ≠ -2147483648) : (-x).toInt = -x.toInt := by
  have := fb_rng x
  rw [Int32.toInt_neg, fb_bmod (by omega) (by omega)]
theorem fb_ofI {z : Int} (h1 : -2147483648 ≤ z) (h2 : z < 2147483648) : (Int32.ofInt z).toInt = z := by
  rw [Int32.toInt_ofInt, fb_bmod h1 h2]
theorem fb_asI (x : Int32) : Int32.ofInt x.toInt = x := Int32.ofInt_toInt x
theorem fb_rngL (x : Int64) : -9223372036854775808 ≤ x.toInt ∧ x.toInt < 9223372036854775808 := by
  have h1 := Int64.le_toInt x
  have h2 := Int64.toInt_lt x
  omega
theorem fb_bmodL {z : Int} (h1 : -9223372036854775808 ≤ z) (h2 : z < 9223372036854775808) : z.bmod (2 ^ 64) = z := by
  rw [Int.bmod_eq_of_le (by omega) (by omega)]
theorem fb_addL {x y : Int64} (h1 : -9223372036854775808 ≤ x.toInt + y.toInt) (h2 : x.toInt + y.toInt < 9223372036854775808) : (x + y).toInt = x.toInt + y.toInt := by
  rw [Int64.toInt_add, fb_bmodL h1 h2]
theorem fb_subL {x y : Int64} (h1 : -9223372036854775808 ≤ x.toInt - y.toInt) (h2 : x.toInt - y.toInt < 9223372036854775808) : (x - y).toInt = x.toInt - y.toInt := by
  rw [Int64.toInt_sub, fb_bmodL h1 h2]
theorem fb_mulL {x y : Int64} (h1 : -9223372036854775808 ≤ x.toInt * y.toInt) (h2 : x.toInt * y.toInt < 9223372036854775808) : (x * y).toInt = x.toInt * y.toInt := by
  rw [Int64.toInt_mul, fb_bmodL h1 h2]
/-! ===== cuts of what is narrow already ===== -/
theorem fb_byte {x : Int32} (h1 : -128 ≤ x.toInt) (h2 : x.toInt < 128) : x.toInt8.toInt32 = x := by
  apply Int32.toInt_inj.1
  rw [Int8.toInt_toInt32, Int32.toInt_toInt8, Int.bmod_eq_of_le (by omega) (by omega)]
theorem fb_short {x : Int32} (h1 : -32768 ≤ x.toInt) (h2 : x.toInt < 32768) : x.toInt16.toInt32 = x := by
  apply Int32.toInt_inj.1
  rw [Int16.toInt_toInt32, Int32.toInt_toInt16, Int.bmod_eq_of_le (by omega) (by omega)]
theorem fb_byte_rng (x : Int32) : -128 ≤ x.toInt8.toInt32.toInt ∧ x.toInt8.toInt32.toInt < 128 := by
  rw [Int8.toInt_toInt32]
  have h1 := Int8.le_toInt x.toInt8
  have h2 := Int8.toInt_lt x.toInt8
  omega
theorem fb_short_rng (x : Int32) : -32768 ≤ x.toInt16.toInt32.toInt ∧ x.toInt16.toInt32.toInt < 32768 := by
  rw [Int16.toInt_toInt32]
  have h1 := Int16.le_toInt x.toInt16
  have h2 := Int16.toInt_lt x.toInt16
  omega
theorem fb_byte_twice (x : Int32) : x.toInt8.toInt32.toInt8.toInt32 = x.toInt8.toInt32 := fb_byte (fb_byte_rng x).1 (fb_byte_rng x).2
theorem fb_short_twice (x : Int32) : x.toInt16.toInt32.toInt16.toInt32 = x.toInt16.toInt32 := fb_short (fb_short_rng x).1 (fb_short_rng x).2
theorem fb_char {n : Nat} (h : n < 65536) : (nI n).toUInt32.toUInt16.toUInt32.toInt32 = nI n := by
  apply Int32.toBitVec_inj.1
  apply BitVec.eq_of_toNat_eq
  have e1 : (nI n).toBitVec.toNat = n := by
    show (BitVec.ofNat 32 n).toNat = n
    rw [BitVec.toNat_ofNat, Nat.mod_eq_of_lt (by omega)]
  have e2 : ((nI n).toUInt32.toUInt16.toUInt32).toNat = n := by
    rw [UInt16.toNat_toUInt32, UInt32.toNat_toUInt16]
    show (nI n).toBitVec.toNat % 2 ^ 16 = n
    rw [e1, Nat.mod_eq_of_lt (by omega)]
  rw [e1]
  exact e2


theorem toI_nI {n : Nat} (h : n < 2 ^ 31) : (nI n).toInt = (n : Int) := nI_toInt h
theorem toI_w {x : Int32} : x.toInt64.toInt = x.toInt := Int32.toInt_toInt64 x
theorem i32_ext {a b : Int32} (h : a.toInt = b.toInt) : a = b := Int32.toInt_inj.mp h
theorem i64_ext {a b : Int64} (h : a.toInt = b.toInt) : a = b := Int64.toInt_inj.mp h
/-- between bounds -/
def Bd (x : Int64) (B : Nat) : Prop := -(B : Int) ≤ x.toInt ∧ x.toInt ≤ (B : Int)
theorem Bd.mono {x : Int64} {a b : Nat} (h : Bd x a) (hab : a ≤ b) : Bd x b := ⟨by have := h.1; omega, by have := h.2; omega⟩
theorem Bd.add {x y : Int64} {a b : Nat} (hx : Bd x a) (hy : Bd y b) (h : a + b < 2 ^ 62) : Bd (x + y) (a + b) ∧ (x + y).toInt = x.toInt + y.toInt := by
  obtain ⟨x1, x2⟩ := hx
  obtain ⟨y1, y2⟩ := hy
  have e := fb_addL (x := x) (y := y) (by omega) (by omega)
  exact ⟨⟨by omega, by omega⟩, e⟩
theorem Bd.sub {x y : Int64} {a b : Nat} (hx : Bd x a) (hy : Bd y b) (h : a + b < 2 ^ 62) : Bd (x - y) (a + b) ∧ (x - y).toInt = x.toInt - y.toInt := by
  obtain ⟨x1, x2⟩ := hx
  obtain ⟨y1, y2⟩ := hy
  have e := fb_subL (x := x) (y := y) (by omega) (by omega)
  exact ⟨⟨by omega, by omega⟩, e⟩
theorem Bd.mulN {x : Int64} {a m k : Nat} (hx : Bd x a) (hk : k ≤ m) (h : m * a < 2 ^ 62) (hm : m < 2 ^ 31) : Bd (lN k * x) (m * a) ∧ (lN k * x).toInt = (k : Int) * x.toInt := by
  obtain ⟨x1, x2⟩ := hx
  have ek : (lN k).toInt = (k : Int) := lN_toInt (by omega)
  have p1 : (k : Int) * x.toInt ≤ (k : Int) * (a : Int) := Int.mul_le_mul_of_nonneg_left x2 (by omega)
  have p2 : (k : Int) * (-(a : Int)) ≤ (k : Int) * x.toInt := Int.mul_le_mul_of_nonneg_left x1 (by omega)
  have p3 : k * a ≤ m * a := Nat.mul_le_mul_right a hk
  have p4 : (k : Int) * (a : Int) = ((k * a : Nat) : Int) := (Int.natCast_mul k a).symm
  rw [Int.mul_neg] at p2
  have e := fb_mulL (x := lN k) (y := x) (by rw [ek]; omega) (by rw [ek]; omega)
  rw [ek] at e
  exact ⟨⟨by omega, by omega⟩, e⟩
/-- a mean of two by millionths stays between -/
theorem Bd.mean {x y : Int64} {a k : Nat} (hx : Bd x a) (hy : Bd y a) (hk : k ≤ 1000000) (h : a < 2 ^ 40) : Bd ((lN k * x + lN (1000000 - k) * y) / 1000000) a := by
  obtain ⟨a1, e1⟩ := Bd.mulN (k := k) (m := 1000000) hx hk (by omega) (by decide)
  obtain ⟨a2, e2⟩ := Bd.mulN (k := 1000000 - k) (m := 1000000) hy (by omega) (by omega) (by decide)
  obtain ⟨a3, e3⟩ := Bd.add a1 a2 (by omega)
  obtain ⟨x1, x2⟩ := hx
  obtain ⟨y1, y2⟩ := hy
  have ek : ((1000000 : Int64)).toInt = 1000000 := by decide
  have ed : ((lN k * x + lN (1000000 - k) * y) / 1000000).toInt = (lN k * x + lN (1000000 - k) * y).toInt.tdiv 1000000 := by
    rw [Int64.toInt_div_of_ne_right _ _ (by decide), ek]
  have q1 : (k : Int) * x.toInt ≤ (k : Int) * (a : Int) := Int.mul_le_mul_of_nonneg_left x2 (by omega)
  have q2 : (k : Int) * (-(a : Int)) ≤ (k : Int) * x.toInt := Int.mul_le_mul_of_nonneg_left x1 (by omega)
  have q3 : ((1000000 - k : Nat) : Int) * y.toInt ≤ ((1000000 - k : Nat) : Int) * (a : Int) := Int.mul_le_mul_of_nonneg_left y2 (by omega)
  have q4 : ((1000000 - k : Nat) : Int) * (-(a : Int)) ≤ ((1000000 - k : Nat) : Int) * y.toInt := Int.mul_le_mul_of_nonneg_left y1 (by omega)
  have q5 : (k : Int) * (a : Int) + ((1000000 - k : Nat) : Int) * (a : Int) = 1000000 * (a : Int) := by
    rw [← Int.add_mul]
    congr 1
    omega
  rw [Int.mul_neg] at q2 q4
  unfold Bd
  rw [ed, e3, e1, e2]
  generalize (k : Int) * x.toInt = u at *
  generalize ((1000000 - k : Nat) : Int) * y.toInt = v at *
  generalize (k : Int) * (a : Int) = u1 at *
  generalize ((1000000 - k : Nat) : Int) * (a : Int) = v1 at *
  have hz : -(1000000 * (a : Int)) ≤ u + v ∧ u + v ≤ 1000000 * (a : Int) := by omega
  generalize u + v = z at hz ⊢
  by_cases c : 0 ≤ z
  · rw [Int.tdiv_eq_ediv_of_nonneg c]
    omega
  · obtain ⟨w, rfl⟩ : ∃ w : Int, z = -w := ⟨-z, by omega⟩
    rw [Int.neg_tdiv, Int.tdiv_eq_ediv_of_nonneg (by omega)]
    omega
theorem Bd.nI {k m : Nat} (hk : k ≤ m) (hm : m < 2 ^ 31) : Bd (lN k) m := by
  have e : (lN k).toInt = (k : Int) := lN_toInt (by omega)
  exact ⟨by rw [e]; omega, by rw [e]; omega⟩
/-- the greater of two behind the same addend -/
theorem mx_add {x a b : Int64} {p q : Nat} (hx : Bd x p) (ha : Bd a q) (hb : Bd b q) (h : p + q < 2 ^ 62) : x + mxJ a b = if x + a ≤ x + b then x + b else x + a := by
  obtain ⟨_, e1⟩ := Bd.add hx ha h
  obtain ⟨_, e2⟩ := Bd.add hx hb h
  unfold mxJ
  by_cases c : b < a
  · rw [if_pos c, if_neg]
    rw [fa_le64, e1, e2]
    rw [fa_lt64] at c
    omega
  · rw [if_neg c, if_pos]
    rw [fa_le64, e1, e2]
    rw [fa_lt64] at c
    omega
theorem mxJ_le {a b : Int64} : mxJ a b = if a ≤ b then b else a := by
  unfold mxJ
  by_cases c : b < a
  · rw [if_pos c, if_neg (by rw [fa_le64]; rw [fa_lt64] at c; omega)]
  · rw [if_neg c, if_pos (by rw [fa_le64]; rw [fa_lt64] at c; omega)]
theorem Bd.mx {a b : Int64} {q : Nat} (ha : Bd a q) (hb : Bd b q) : Bd (if a ≤ b then b else a) q := by
  split
  · exact hb
  · exact ha
theorem hb_split {n : Nat} (h : n < 16384) : ∃ (e q : Fin 128), n = 128 * e.val + q.val := ⟨⟨n / 128, by omega⟩, ⟨n % 128, by omega⟩, by show n = 128 * (n / 128) + n % 128; omega⟩
/-- truths, the last lowest -/
def encB : List Bool → Nat
  | [] => 0
  | x :: t => 2 * encB t + (if x = true then 1 else 0)
theorem encB_lt : ∀ {t : List Bool} {n : Nat}, t.length ≤ n → encB t < 2 ^ n
  | [], n, _ => Nat.two_pow_pos n
  | x :: t, 0, h => absurd h (by simp)
  | x :: t, n + 1, h => by
    have ih := encB_lt (t := t) (n := n) (by have : t.length + 1 ≤ n + 1 := h; omega)
    unfold encB
    rw [Nat.pow_succ]
    split <;> omega
theorem encB_c {x : Bool} {t : List Bool} : encB (x :: t) = 2 * encB t + (if x = true then 1 else 0) := rfl
theorem eb_top {x : Bool} {t : List Bool} (h : t.length ≤ 13) : nI (encB (x :: t)) &&& nI 1 = b2i x := by
  have l := encB_lt (t := x :: t) (n := 14) (by simp; omega)
  obtain ⟨e, q, hq⟩ := hb_split (n := encB (x :: t)) l
  rw [hq, hb_top, ← hq]
  rw [encB_c]
  cases x
  · rw [if_neg (by decide), show (2 * encB t + 0) % 2 = 0 by omega]; rfl
  · rw [if_pos rfl, show (2 * encB t + 1) % 2 = 1 by omega]; rfl
theorem eb_not {x : Bool} {t : List Bool} (h : t.length ≤ 13) : nI (encB (x :: t)) ^^^ nI 1 = nI (encB ((!x) :: t)) := by
  have l := encB_lt (t := x :: t) (n := 14) (by simp; omega)
  obtain ⟨e, q, hq⟩ := hb_split (n := encB (x :: t)) l
  have := hb_not e q
  rw [← hq] at this
  rw [this]
  congr 1
  rw [encB_c] at hq
  rw [encB_c, encB_c]
  generalize encB t = z at *
  cases x
  · have hq : 2 * z + 0 = 128 * e.val + q.val := hq
    rw [if_pos (by omega)]
    show _ = 2 * z + 1
    omega
  · have hq : 2 * z + 1 = 128 * e.val + q.val := hq
    rw [if_neg (by omega)]
    show _ = 2 * z + 0
    omega
theorem eb_psh {x : Bool} {t : List Bool} (h : t.length ≤ 14) : (nI (encB t) <<< (nI 1 &&& 31)) ||| b2i x = nI (encB (x :: t)) := by
  have l := encB_lt (t := t) (n := 14) h
  obtain ⟨e, q, hq⟩ := hb_split (n := encB t) l
  have h0 := hb_psh e q 0
  have h1 := hb_psh e q 1
  rw [← hq] at h0 h1
  cases x
  · exact h0
  · exact h1
theorem eb_and {x y : Bool} {t : List Bool} (h : t.length ≤ 12) : (nI (encB (x :: y :: t)) >>> (nI 1 &&& 31)) &&& ((-2 : Int32) ||| (nI (encB (x :: y :: t)) &&& nI 1)) = nI (encB ((y && x) :: t)) := by
  have l := encB_lt (t := x :: y :: t) (n := 14) (by simp; omega)
  obtain ⟨e, q, hq⟩ := hb_split (n := encB (x :: y :: t)) l
  have := hb_and e q
  rw [← hq] at this
  rw [this]
  congr 1
  rw [encB_c, encB_c, encB_c]
  generalize encB t = z at *
  cases x <;> cases y <;> simp <;> omega
theorem eb_or {x y : Bool} {t : List Bool} (h : t.length ≤ 12) : (nI (encB (x :: y :: t)) >>> (nI 1 &&& 31)) ||| (nI (encB (x :: y :: t)) &&& nI 1) = nI (encB ((y || x) :: t)) := by
  have l := encB_lt (t := x :: y :: t) (n := 14) (by simp; omega)
  obtain ⟨e, q, hq⟩ := hb_split (n := encB (x :: y :: t)) l
  have := hb_or e q
  rw [← hq] at this
  rw [this]
  congr 1
  rw [encB_c, encB_c, encB_c]
  generalize encB t = z at *
  cases x <;> cases y
  · show (2 * (2 * z + 0) + 0) / 4 * 2 + (if (2 * (2 * z + 0) + 0) % 4 = 0 then 0 else 1) = 2 * z + 0
    rw [if_pos (by omega)]; omega
  · show (2 * (2 * z + 1) + 0) / 4 * 2 + (if (2 * (2 * z + 1) + 0) % 4 = 0 then 0 else 1) = 2 * z + 1
    rw [if_neg (by omega)]; omega
  · show (2 * (2 * z + 0) + 1) / 4 * 2 + (if (2 * (2 * z + 0) + 1) % 4 = 0 then 0 else 1) = 2 * z + 1
    rw [if_neg (by omega)]; omega
  · show (2 * (2 * z + 1) + 1) / 4 * 2 + (if (2 * (2 * z + 1) + 1) % 4 = 0 then 0 else 1) = 2 * z + 1
    rw [if_neg (by omega)]; omega
