/-! bits of sets of at most 8 -/
def bcF (x : Int32) : Int32 :=
  let v1 := x - (((x.toUInt32 >>> ((nI 1).toUInt32 &&& Int32.toUInt32 31)).toInt32) &&& (nI 1431655765))
  let v2 := (v1 &&& (nI 858993459)) + (((v1.toUInt32 >>> ((nI 2).toUInt32 &&& Int32.toUInt32 31)).toInt32) &&& (nI 858993459))
  let v3 := (v2 + ((v2.toUInt32 >>> ((nI 4).toUInt32 &&& Int32.toUInt32 31)).toInt32)) &&& (nI 252645135)
  let v4 := v3 + ((v3.toUInt32 >>> ((nI 8).toUInt32 &&& Int32.toUInt32 31)).toInt32)
  let v5 := v4 + ((v4.toUInt32 >>> ((nI 16).toUInt32 &&& Int32.toUInt32 31)).toInt32)
  v5 &&& (nI 63)
def nlF (x : Int32) : Int32 :=
  let s := fun (y : Int32) (k : Int32) => (y.toUInt32 >>> (k.toUInt32 &&& Int32.toUInt32 31)).toInt32
  let f73 := fun (l0 l1 : Int32) => l1 - s l0 (nI 1)
  let f61 := fun (l0 l1 : Int32) => if l0 < nI 4 then f73 l0 l1 else f73 (s l0 (nI 2)) (l1 + (-2 : Int32))
  let f48 := fun (l0 l1 : Int32) => if l0 < nI 16 then f61 l0 l1 else f61 (s l0 (nI 4)) (l1 + (-4 : Int32))
  let f33 := fun (l0 l1 : Int32) => if l0 < nI 256 then f48 l0 l1 else f48 (s l0 (nI 8)) (l1 + (-8 : Int32))
  if 0 < x then (if x < nI 65536 then f33 x (nI 31) else f33 (s x (nI 16)) (nI 31 + (-16 : Int32))) else if x = 0 then nI 32 else nI 0
def hbF (x : Int32) : Int32 := x &&& ((-2147483648 : Int32).toUInt32 >>> ((nlF x).toUInt32 &&& Int32.toUInt32 31)).toInt32
def tzF (x : Int32) : Int32 :=
  let s := fun (y : Int32) (k : Int32) => (y.toUInt32 >>> (k.toUInt32 &&& Int32.toUInt32 31)).toInt32
  let f74 := fun (l0 l1 : Int32) => l1 + s l0 (nI 1)
  let f62 := fun (l0 l1 : Int32) => if l0 ≤ nI 4 then f74 l0 l1 else f74 (s l0 (nI 2)) (l1 + nI 2)
  let f49 := fun (l0 l1 : Int32) => if l0 ≤ nI 16 then f62 l0 l1 else f62 (s l0 (nI 4)) (l1 + nI 4)
  let f34 := fun (l0 l1 : Int32) => if l0 ≤ nI 256 then f49 l0 l1 else f49 (s l0 (nI 8)) (l1 + nI 8)
  let v1 := (x ^^^ (-1 : Int32)) &&& (x - nI 1)
  if 0 < v1 then (if v1 ≤ nI 65536 then f34 v1 (nI 1) else f34 (s v1 (nI 16)) (nI 1 + nI 16)) else v1 &&& nI 32
section XBT
variable {G : Gx} {h : Hp} {nx : Nat}
theorem x_bitCount {x : Int32} : F_J6_bitCount_0f7a4 G h nx x = some (bcF x, h, nx) := rfl
theorem x_nlz {x : Int32} : F_J6_numberOfLeadingZeros_0f7a4 G h nx x = some (nlF x, h, nx) := by
  unfold F_J6_numberOfLeadingZeros_0f7a4 F_J6_numberOfLeadingZeros_0f7a4_14 F_J6_numberOfLeadingZeros_0f7a4_33 F_J6_numberOfLeadingZeros_0f7a4_48 F_J6_numberOfLeadingZeros_0f7a4_61 F_J6_numberOfLeadingZeros_0f7a4_73 nlF
  simp only [nm_b]
  repeat' split
  all_goals rfl
theorem x_highest {x : Int32} : F_J6_highestOneBit_0f7a4 G h nx x = some (hbF x, h, nx) := by
  unfold F_J6_highestOneBit_0f7a4
  rw [x_nlz, cl_some]
  rfl
theorem x_ntz {x : Int32} : F_J6_numberOfTrailingZeros_0f7a4 G h nx x = some (tzF x, h, nx) := by
  unfold F_J6_numberOfTrailingZeros_0f7a4 F_J6_numberOfTrailingZeros_0f7a4_34 F_J6_numberOfTrailingZeros_0f7a4_49 F_J6_numberOfTrailingZeros_0f7a4_62 F_J6_numberOfTrailingZeros_0f7a4_74 tzF
  simp only [nm_b]
  repeat' split
  all_goals rfl
/-- the highest of extra many taken away -/
def rmF : Nat → Int32 → Int32
  | 0, x => x
  | n + 1, x => rmF n (x &&& ((hbF x) ^^^ (-1 : Int32)))
end XBT
set_option maxRecDepth 100000 in
theorem bc_cn : ∀ m : Fin 256, bcF (nI m.val) = cnF (nI m.val) 8 := by decide +kernel
/-- how many, as a number -/
def cnT (m : Nat) : Nat := m % 2 + m / 2 % 2 + m / 4 % 2 + m / 8 % 2 + m / 16 % 2 + m / 32 % 2 + m / 64 % 2 + m / 128 % 2
set_option maxRecDepth 100000 in
theorem bc_nat : ∀ m : Fin 256, bcF (nI m.val) = nI (cnT m.val) := by decide +kernel
set_option maxRecDepth 100000 in
theorem rm_to1 : ∀ nt : Fin 9, ∀ m : Fin 256, m.val < 2 ^ nt.val → rmF (cnT m.val - 1) (nI m.val) = toF (nI m.val) (nI (min 1 nt.val)) nt.val := by decide +kernel
set_option maxRecDepth 100000 in
theorem rm_to2 : ∀ nt : Fin 9, ∀ m : Fin 256, m.val < 2 ^ nt.val → rmF (cnT m.val - 2) (nI m.val) = toF (nI m.val) (nI (min 2 nt.val)) nt.val := by decide +kernel
set_option maxRecDepth 100000 in
theorem rm_to3 : ∀ nt : Fin 9, ∀ m : Fin 256, m.val < 2 ^ nt.val → rmF (cnT m.val - 3) (nI m.val) = toF (nI m.val) (nI (min 3 nt.val)) nt.val := by decide +kernel
/-- the lowest of a set -/
def lowT (m : Nat) : Nat := if m % 2 = 1 then 0 else if m / 2 % 2 = 1 then 1 else if m / 4 % 2 = 1 then 2 else if m / 8 % 2 = 1 then 3 else if m / 16 % 2 = 1 then 4 else if m / 32 % 2 = 1 then 5 else if m / 64 % 2 = 1 then 6 else 7
set_option maxRecDepth 100000 in
theorem tz_low : ∀ m : Fin 256, 0 < m.val → tzF (nI m.val) = nI (lowT m.val) := by decide +kernel
set_option maxRecDepth 100000 in
theorem oth_low : ∀ m : Fin 256, 0 < m.val → nI m.val &&& (nI m.val - nI 1) = nI (m.val - 2 ^ lowT m.val) := by decide +kernel
set_option maxRecDepth 100000 in
theorem bit_low : ∀ m : Fin 256, 0 < m.val → (∀ t : Fin 8, t.val < lowT m.val → bitI (nI m.val) t.val = 0) ∧ bitI (nI m.val) (lowT m.val) = nI 1 ∧ lowT m.val < 8 ∧ 2 ^ lowT m.val ≤ m.val ∧ ∀ t : Fin 8, lowT m.val < t.val → bitI (nI (m.val - 2 ^ lowT m.val)) t.val = bitI (nI m.val) t.val := by decide +kernel
set_option maxRecDepth 100000 in
theorem bit_lt : ∀ m : Fin 256, ∀ t : Fin 8, m.val < 2 ^ t.val → bitI (nI m.val) t.val = 0 := by decide +kernel
set_option maxRecDepth 100000 in
theorem low_sub : ∀ m : Fin 256, 0 < m.val → ∀ t : Fin 8, t.val ≤ lowT m.val → bitI (nI (m.val - 2 ^ lowT m.val)) t.val = 0 := by decide +kernel
