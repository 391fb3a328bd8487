/-! THE CLASS: its numbers, arrays, its cells at X .. X + 107 (encX), steps over them -/
abbrev CS : Type := (Nat → Int32) × (Nat → Int64) × (Nat → Nat → Int32) × (Nat → Nat → Int64) × (Nat → Nat → Option Nat)
def xi (c : CS) : Nat → Int32 := c.1
def xl (c : CS) : Nat → Int64 := c.2.1
def xa (c : CS) : Nat → Nat → Int32 := c.2.2.1
def xj (c : CS) : Nat → Nat → Int64 := c.2.2.2.1
def xr (c : CS) : Nat → Nat → Option Nat := c.2.2.2.2
def xsi (c : CS) (k : Nat) (x : Int32) : CS := (upK c.1 k x, c.2)
def xsl (c : CS) (k : Nat) (x : Int64) : CS := (c.1, upK c.2.1 k x, c.2.2)
def xsa (c : CS) (k : Nat) (f : Nat → Int32) : CS := (c.1, c.2.1, upK c.2.2.1 k f, c.2.2.2)
def xsj (c : CS) (k : Nat) (f : Nat → Int64) : CS := (c.1, c.2.1, c.2.2.1, upK c.2.2.2.1 k f, c.2.2.2.2)
def xsr (c : CS) (k : Nat) (f : Nat → Option Nat) : CS := (c.1, c.2.1, c.2.2.1, c.2.2.2.1, upK c.2.2.2.2 k f)
theorem upK_self {α : Type} {f : Nat → α} {k : Nat} : upK f k (f k) = f := by
  funext j
  unfold upK
  split
  · rename_i h; rw [h]
  · rfl
theorem xi_xsi_s {c : CS} {k : Nat} {v : Int32} : xi (xsi c k v) k = v := upK_s
theorem xi_xsi_n {c : CS} {k j : Nat} {v : Int32} (h : j ≠ k) : xi (xsi c k v) j = xi c j := upK_n h
theorem xl_xsi {c : CS} {k : Nat} {v : Int32} : xl (xsi c k v) = xl c := rfl
theorem xa_xsi {c : CS} {k : Nat} {v : Int32} : xa (xsi c k v) = xa c := rfl
theorem xj_xsi {c : CS} {k : Nat} {v : Int32} : xj (xsi c k v) = xj c := rfl
theorem xr_xsi {c : CS} {k : Nat} {v : Int32} : xr (xsi c k v) = xr c := rfl
theorem xsi_xsi {c : CS} {k : Nat} {v w : Int32} : xsi (xsi c k v) k w = xsi c k w := by
  unfold xsi
  simp only [upK_upK]
theorem xsi_self {c : CS} {k : Nat} : xsi c k (xi c k) = c := by
  obtain ⟨a, b, d, e, g⟩ := c
  unfold xsi xi
  simp only [upK_self]
theorem xi_xsl {c : CS} {k : Nat} {v : Int64} : xi (xsl c k v) = xi c := rfl
theorem xl_xsl_s {c : CS} {k : Nat} {v : Int64} : xl (xsl c k v) k = v := upK_s
theorem xl_xsl_n {c : CS} {k j : Nat} {v : Int64} (h : j ≠ k) : xl (xsl c k v) j = xl c j := upK_n h
theorem xa_xsl {c : CS} {k : Nat} {v : Int64} : xa (xsl c k v) = xa c := rfl
theorem xj_xsl {c : CS} {k : Nat} {v : Int64} : xj (xsl c k v) = xj c := rfl
theorem xr_xsl {c : CS} {k : Nat} {v : Int64} : xr (xsl c k v) = xr c := rfl
theorem xsl_xsl {c : CS} {k : Nat} {v w : Int64} : xsl (xsl c k v) k w = xsl c k w := by
  unfold xsl
  simp only [upK_upK]
theorem xsl_self {c : CS} {k : Nat} : xsl c k (xl c k) = c := by
  obtain ⟨a, b, d, e, g⟩ := c
  unfold xsl xl
  simp only [upK_self]
theorem xi_xsa {c : CS} {k : Nat} {v : Nat → Int32} : xi (xsa c k v) = xi c := rfl
theorem xl_xsa {c : CS} {k : Nat} {v : Nat → Int32} : xl (xsa c k v) = xl c := rfl
theorem xa_xsa_s {c : CS} {k : Nat} {v : Nat → Int32} : xa (xsa c k v) k = v := upK_s
theorem xa_xsa_n {c : CS} {k j : Nat} {v : Nat → Int32} (h : j ≠ k) : xa (xsa c k v) j = xa c j := upK_n h
theorem xj_xsa {c : CS} {k : Nat} {v : Nat → Int32} : xj (xsa c k v) = xj c := rfl
theorem xr_xsa {c : CS} {k : Nat} {v : Nat → Int32} : xr (xsa c k v) = xr c := rfl
theorem xsa_xsa {c : CS} {k : Nat} {v w : Nat → Int32} : xsa (xsa c k v) k w = xsa c k w := by
  unfold xsa
  simp only [upK_upK]
theorem xsa_self {c : CS} {k : Nat} : xsa c k (xa c k) = c := by
  obtain ⟨a, b, d, e, g⟩ := c
  unfold xsa xa
  simp only [upK_self]
theorem xi_xsj {c : CS} {k : Nat} {v : Nat → Int64} : xi (xsj c k v) = xi c := rfl
theorem xl_xsj {c : CS} {k : Nat} {v : Nat → Int64} : xl (xsj c k v) = xl c := rfl
theorem xa_xsj {c : CS} {k : Nat} {v : Nat → Int64} : xa (xsj c k v) = xa c := rfl
theorem xj_xsj_s {c : CS} {k : Nat} {v : Nat → Int64} : xj (xsj c k v) k = v := upK_s
theorem xj_xsj_n {c : CS} {k j : Nat} {v : Nat → Int64} (h : j ≠ k) : xj (xsj c k v) j = xj c j := upK_n h
theorem xr_xsj {c : CS} {k : Nat} {v : Nat → Int64} : xr (xsj c k v) = xr c := rfl
theorem xsj_xsj {c : CS} {k : Nat} {v w : Nat → Int64} : xsj (xsj c k v) k w = xsj c k w := by
  unfold xsj
  simp only [upK_upK]
theorem xsj_self {c : CS} {k : Nat} : xsj c k (xj c k) = c := by
  obtain ⟨a, b, d, e, g⟩ := c
  unfold xsj xj
  simp only [upK_self]
theorem xi_xsr {c : CS} {k : Nat} {v : Nat → Option Nat} : xi (xsr c k v) = xi c := rfl
theorem xl_xsr {c : CS} {k : Nat} {v : Nat → Option Nat} : xl (xsr c k v) = xl c := rfl
theorem xa_xsr {c : CS} {k : Nat} {v : Nat → Option Nat} : xa (xsr c k v) = xa c := rfl
theorem xj_xsr {c : CS} {k : Nat} {v : Nat → Option Nat} : xj (xsr c k v) = xj c := rfl
theorem xr_xsr_s {c : CS} {k : Nat} {v : Nat → Option Nat} : xr (xsr c k v) k = v := upK_s
theorem xr_xsr_n {c : CS} {k j : Nat} {v : Nat → Option Nat} (h : j ≠ k) : xr (xsr c k v) j = xr c j := upK_n h
theorem xsr_xsr {c : CS} {k : Nat} {v w : Nat → Option Nat} : xsr (xsr c k v) k w = xsr c k w := by
  unfold xsr
  simp only [upK_upK]
theorem xsr_self {c : CS} {k : Nat} : xsr c k (xr c k) = c := by
  obtain ⟨a, b, d, e, g⟩ := c
  unfold xsr xr
  simp only [upK_self]
def cellX (G : Gx) (X : Nat) (c : CS) (o : Nat) : Option va_E :=
  if o = 0 then some (ob 11 [.ref (X + 1), .ref (X + 26), .int (xi c 0), .ref (X + 51), .ref (X + 90), .ref (X + 106), .ref (X + 107)])
  else if o = 1 then some (ob 0 [.ref (X + 2), .int (xi c 111), .ref (X + 3), .int (xi c 112), .ref (X + 4), .ref (X + 5), .ref (X + 6), .ref (X + 7), .ref (X + 8), .ref (X + 9), .ref (X + 10), .int (xi c 113), .ref (X + 11), .ref (X + 12), .ref (X + 13), .int (xi c 114), .int (xi c 115), .int (xi c 116)])
  else if o = 2 then some (aB G 120 (xa c 2))
  else if o = 3 then some (aS G 6 (xr c 3))
  else if o = 4 then some (aI G 8 (xa c 4))
  else if o = 5 then some (aI G 8 (xa c 5))
  else if o = 6 then some (aI G 8 (xa c 6))
  else if o = 7 then some (aI G 8 (xa c 7))
  else if o = 8 then some (aI G 8 (xa c 8))
  else if o = 9 then some (aI G 8 (xa c 9))
  else if o = 10 then some (aZ G 8 (xa c 10))
  else if o = 11 then some (aP G 12 (xr c 11))
  else if o = 12 then some (aI G 12 (xa c 12))
  else if o = 13 then some (aG G 12 (fun i => if i < 12 then some (X + 14 + i) else none))
  else if 14 ≤ o ∧ o < 26 then some (aI G 10 (xa c o))
  else if o = 26 then some (ob 0 [.ref (X + 27), .int (xi c 121), .ref (X + 28), .int (xi c 122), .ref (X + 29), .ref (X + 30), .ref (X + 31), .ref (X + 32), .ref (X + 33), .ref (X + 34), .ref (X + 35), .int (xi c 123), .ref (X + 36), .ref (X + 37), .ref (X + 38), .int (xi c 124), .int (xi c 125), .int (xi c 126)])
  else if o = 27 then some (aB G 120 (xa c 27))
  else if o = 28 then some (aS G 6 (xr c 28))
  else if o = 29 then some (aI G 8 (xa c 29))
  else if o = 30 then some (aI G 8 (xa c 30))
  else if o = 31 then some (aI G 8 (xa c 31))
  else if o = 32 then some (aI G 8 (xa c 32))
  else if o = 33 then some (aI G 8 (xa c 33))
  else if o = 34 then some (aI G 8 (xa c 34))
  else if o = 35 then some (aZ G 8 (xa c 35))
  else if o = 36 then some (aP G 12 (xr c 36))
  else if o = 37 then some (aI G 12 (xa c 37))
  else if o = 38 then some (aG G 12 (fun i => if i < 12 then some (X + 39 + i) else none))
  else if 39 ≤ o ∧ o < 51 then some (aI G 10 (xa c o))
  else if o = 51 then some (ob 5 [.ref (X + 1), .ref (X + 52), .ref (X + 61), .ref (X + 70), .ref (X + 79), .ref (X + 88), .ref (X + 89), .long (xl c 52), .long (xl c 61)])
  else if o = 52 then some (aG G 8 (fun i => if i < 8 then some (X + 53 + i) else none))
  else if 53 ≤ o ∧ o < 61 then some (aI G 33 (xa c o))
  else if o = 61 then some (aG G 8 (fun i => if i < 8 then some (X + 62 + i) else none))
  else if 62 ≤ o ∧ o < 70 then some (aI G 33 (xa c o))
  else if o = 70 then some (aG G 8 (fun i => if i < 8 then some (X + 71 + i) else none))
  else if 71 ≤ o ∧ o < 79 then some (aI G 33 (xa c o))
  else if o = 79 then some (aG G 8 (fun i => if i < 8 then some (X + 80 + i) else none))
  else if 80 ≤ o ∧ o < 88 then some (aI G 33 (xa c o))
  else if o = 88 then some (aI G 8 (xa c 88))
  else if o = 89 then some (aJ G 33 (xj c 89))
  else if o = 90 then some (ob 9 [.ref (X + 51), .ref (X + 1), .ref (X + 91), va_rf (xr c 91 0), .ref (X + 103), .int (xi c 51), .ref (X + 104), .int (xi c 70), .int (xi c 79), .int (xi c 90), .ref (X + 105)])
  else if o = 91 then some (aG G 11 (fun i => if i < 11 then some (X + 92 + i) else none))
  else if 92 ≤ o ∧ o < 103 then some (aI G 8 (xa c o))
  else if o = 103 then some (aI G 3 (xa c 103))
  else if o = 104 then some (aI G 56 (xa c 104))
  else if o = 105 then some (aI G 3 (xa c 105))
  else if o = 106 then some (aI G 8 (xa c 106))
  else if o = 107 then some (aI G 21 (xa c 107))
  else none
def encX (G : Gx) (X : Nat) (c : CS) (h0 : Hp) : Hp := fun a => if X ≤ a ∧ a < X + 108 then cellX G X c (a - X) else h0 a
section XE0
variable {G : Gx} {X : Nat} {c : CS} {h0 : Hp}
theorem encX_at {o : Nat} (h : o < 108) : encX G X c h0 (X + o) = cellX G X c o := by
  unfold encX
  rw [if_pos (by omega), Nat.add_sub_cancel_left]
theorem encX_out {a : Nat} (h : a < X ∨ X + 108 ≤ a) : encX G X c h0 a = h0 a := if_neg (by omega)
theorem encX_set {c' : CS} {o : Nat} {e : va_E} (ho : o < 108) (h1 : cellX G X c' o = some e) (h2 : ∀ q, q ≠ o → cellX G X c' q = cellX G X c q) : hset (encX G X c h0) (X + o) e = encX G X c' h0 := by
  funext a
  unfold hset encX
  by_cases h : a = X + o
  · subst h
    rw [if_pos rfl, if_pos (by omega), Nat.add_sub_cancel_left, h1]
  · rw [if_neg h]
    by_cases k : X ≤ a ∧ a < X + 108
    · rw [if_pos k, if_pos k, h2 _ (by omega)]
    · rw [if_neg k, if_neg k]
theorem encX_hset {a : Nat} {e : va_E} (h : a < X ∨ X + 108 ≤ a) : hset (encX G X c h0) a e = encX G X c (hset h0 a e) := by
  funext q
  unfold hset encX
  by_cases k : X ≤ q ∧ q < X + 108
  · rw [if_pos k, if_pos k, if_neg (by omega)]
  · rw [if_neg k, if_neg k]
theorem cellX_0 : cellX G X c 0 = some (ob 11 [.ref (X + 1), .ref (X + 26), .int (xi c 0), .ref (X + 51), .ref (X + 90), .ref (X + 106), .ref (X + 107)]) := by simp [cellX]
theorem cellX_1 : cellX G X c 1 = some (ob 0 [.ref (X + 2), .int (xi c 111), .ref (X + 3), .int (xi c 112), .ref (X + 4), .ref (X + 5), .ref (X + 6), .ref (X + 7), .ref (X + 8), .ref (X + 9), .ref (X + 10), .int (xi c 113), .ref (X + 11), .ref (X + 12), .ref (X + 13), .int (xi c 114), .int (xi c 115), .int (xi c 116)]) := by simp [cellX]
theorem cellX_2 : cellX G X c 2 = some (aB G 120 (xa c 2)) := by simp [cellX]
theorem cellX_3 : cellX G X c 3 = some (aS G 6 (xr c 3)) := by simp [cellX]
theorem cellX_4 : cellX G X c 4 = some (aI G 8 (xa c 4)) := by simp [cellX]
theorem cellX_5 : cellX G X c 5 = some (aI G 8 (xa c 5)) := by simp [cellX]
theorem cellX_6 : cellX G X c 6 = some (aI G 8 (xa c 6)) := by simp [cellX]
theorem cellX_7 : cellX G X c 7 = some (aI G 8 (xa c 7)) := by simp [cellX]
theorem cellX_8 : cellX G X c 8 = some (aI G 8 (xa c 8)) := by simp [cellX]
theorem cellX_9 : cellX G X c 9 = some (aI G 8 (xa c 9)) := by simp [cellX]
theorem cellX_10 : cellX G X c 10 = some (aZ G 8 (xa c 10)) := by simp [cellX]
theorem cellX_11 : cellX G X c 11 = some (aP G 12 (xr c 11)) := by simp [cellX]
theorem cellX_12 : cellX G X c 12 = some (aI G 12 (xa c 12)) := by simp [cellX]
theorem cellX_13 : cellX G X c 13 = some (aG G 12 (fun i => if i < 12 then some (X + 14 + i) else none)) := by simp [cellX]
theorem cellX_in14 {i : Nat} (h : i < 12) : cellX G X c (14 + i) = some (aI G 10 (xa c (14 + i))) := by
  unfold cellX
  rw [if_neg (by omega), if_neg (by omega), if_neg (by omega), if_neg (by omega), if_neg (by omega), if_neg (by omega), if_neg (by omega), if_neg (by omega), if_neg (by omega), if_neg (by omega), if_neg (by omega), if_neg (by omega), if_neg (by omega), if_neg (by omega), if_pos (by omega)]
theorem cellX_26 : cellX G X c 26 = some (ob 0 [.ref (X + 27), .int (xi c 121), .ref (X + 28), .int (xi c 122), .ref (X + 29), .ref (X + 30), .ref (X + 31), .ref (X + 32), .ref (X + 33), .ref (X + 34), .ref (X + 35), .int (xi c 123), .ref (X + 36), .ref (X + 37), .ref (X + 38), .int (xi c 124), .int (xi c 125), .int (xi c 126)]) := by simp [cellX]
theorem cellX_27 : cellX G X c 27 = some (aB G 120 (xa c 27)) := by simp [cellX]
theorem cellX_28 : cellX G X c 28 = some (aS G 6 (xr c 28)) := by simp [cellX]
theorem cellX_29 : cellX G X c 29 = some (aI G 8 (xa c 29)) := by simp [cellX]
theorem cellX_30 : cellX G X c 30 = some (aI G 8 (xa c 30)) := by simp [cellX]
theorem cellX_31 : cellX G X c 31 = some (aI G 8 (xa c 31)) := by simp [cellX]
theorem cellX_32 : cellX G X c 32 = some (aI G 8 (xa c 32)) := by simp [cellX]
theorem cellX_33 : cellX G X c 33 = some (aI G 8 (xa c 33)) := by simp [cellX]
theorem cellX_34 : cellX G X c 34 = some (aI G 8 (xa c 34)) := by simp [cellX]
theorem cellX_35 : cellX G X c 35 = some (aZ G 8 (xa c 35)) := by simp [cellX]
theorem cellX_36 : cellX G X c 36 = some (aP G 12 (xr c 36)) := by simp [cellX]
theorem cellX_37 : cellX G X c 37 = some (aI G 12 (xa c 37)) := by simp [cellX]
theorem cellX_38 : cellX G X c 38 = some (aG G 12 (fun i => if i < 12 then some (X + 39 + i) else none)) := by simp [cellX]
theorem cellX_in39 {i : Nat} (h : i < 12) : cellX G X c (39 + i) = some (aI G 10 (xa c (39 + i))) := by
  unfold cellX
  rw [if_neg (by omega), if_neg (by omega), if_neg (by omega), if_neg (by omega), if_neg (by omega), if_neg (by omega), if_neg (by omega), if_neg (by omega), if_neg (by omega), if_neg (by omega), if_neg (by omega), if_neg (by omega), if_neg (by omega), if_neg (by omega), if_neg (by omega), if_neg (by omega), if_neg (by omega), if_neg (by omega), if_neg (by omega), if_neg (by omega), if_neg (by omega), if_neg (by omega), if_neg (by omega), if_neg (by omega), if_neg (by omega), if_neg (by omega), if_neg (by omega), if_neg (by omega), if_pos (by omega)]
theorem cellX_51 : cellX G X c 51 = some (ob 5 [.ref (X + 1), .ref (X + 52), .ref (X + 61), .ref (X + 70), .ref (X + 79), .ref (X + 88), .ref (X + 89), .long (xl c 52), .long (xl c 61)]) := by simp [cellX]
theorem cellX_52 : cellX G X c 52 = some (aG G 8 (fun i => if i < 8 then some (X + 53 + i) else none)) := by simp [cellX]
theorem cellX_in53 {i : Nat} (h : i < 8) : cellX G X c (53 + i) = some (aI G 33 (xa c (53 + i))) := by
  unfold cellX
  rw [if_neg (by omega), if_neg (by omega), if_neg (by omega), if_neg (by omega), if_neg (by omega), if_neg (by omega), if_neg (by omega), if_neg (by omega), if_neg (by omega), if_neg (by omega), if_neg (by omega), if_neg (by omega), if_neg (by omega), if_neg (by omega), if_neg (by omega), if_neg (by omega), if_neg (by omega), if_neg (by omega), if_neg (by omega), if_neg (by omega), if_neg (by omega), if_neg (by omega), if_neg (by omega), if_neg (by omega), if_neg (by omega), if_neg (by omega), if_neg (by omega), if_neg (by omega), if_neg (by omega), if_neg (by omega), if_neg (by omega), if_pos (by omega)]
theorem cellX_61 : cellX G X c 61 = some (aG G 8 (fun i => if i < 8 then some (X + 62 + i) else none)) := by simp [cellX]
theorem cellX_in62 {i : Nat} (h : i < 8) : cellX G X c (62 + i) = some (aI G 33 (xa c (62 + i))) := by
  unfold cellX
  rw [if_neg (by omega), if_neg (by omega), if_neg (by omega), if_neg (by omega), if_neg (by omega), if_neg (by omega), if_neg (by omega), if_neg (by omega), if_neg (by omega), if_neg (by omega), if_neg (by omega), if_neg (by omega), if_neg (by omega), if_neg (by omega), if_neg (by omega), if_neg (by omega), if_neg (by omega), if_neg (by omega), if_neg (by omega), if_neg (by omega), if_neg (by omega), if_neg (by omega), if_neg (by omega), if_neg (by omega), if_neg (by omega), if_neg (by omega), if_neg (by omega), if_neg (by omega), if_neg (by omega), if_neg (by omega), if_neg (by omega), if_neg (by omega), if_neg (by omega), if_pos (by omega)]
theorem cellX_70 : cellX G X c 70 = some (aG G 8 (fun i => if i < 8 then some (X + 71 + i) else none)) := by simp [cellX]
theorem cellX_in71 {i : Nat} (h : i < 8) : cellX G X c (71 + i) = some (aI G 33 (xa c (71 + i))) := by
  unfold cellX
  rw [if_neg (by omega), if_neg (by omega), if_neg (by omega), if_neg (by omega), if_neg (by omega), if_neg (by omega), if_neg (by omega), if_neg (by omega), if_neg (by omega), if_neg (by omega), if_neg (by omega), if_neg (by omega), if_neg (by omega), if_neg (by omega), if_neg (by omega), if_neg (by omega), if_neg (by omega), if_neg (by omega), if_neg (by omega), if_neg (by omega), if_neg (by omega), if_neg (by omega), if_neg (by omega), if_neg (by omega), if_neg (by omega), if_neg (by omega), if_neg (by omega), if_neg (by omega), if_neg (by omega), if_neg (by omega), if_neg (by omega), if_neg (by omega), if_neg (by omega), if_neg (by omega), if_neg (by omega), if_pos (by omega)]
theorem cellX_79 : cellX G X c 79 = some (aG G 8 (fun i => if i < 8 then some (X + 80 + i) else none)) := by simp [cellX]
theorem cellX_in80 {i : Nat} (h : i < 8) : cellX G X c (80 + i) = some (aI G 33 (xa c (80 + i))) := by
  unfold cellX
  rw [if_neg (by omega), if_neg (by omega), if_neg (by omega), if_neg (by omega), if_neg (by omega), if_neg (by omega), if_neg (by omega), if_neg (by omega), if_neg (by omega), if_neg (by omega), if_neg (by omega), if_neg (by omega), if_neg (by omega), if_neg (by omega), if_neg (by omega), if_neg (by omega), if_neg (by omega), if_neg (by omega), if_neg (by omega), if_neg (by omega), if_neg (by omega), if_neg (by omega), if_neg (by omega), if_neg (by omega), if_neg (by omega), if_neg (by omega), if_neg (by omega), if_neg (by omega), if_neg (by omega), if_neg (by omega), if_neg (by omega), if_neg (by omega), if_neg (by omega), if_neg (by omega), if_neg (by omega), if_neg (by omega), if_neg (by omega), if_pos (by omega)]
theorem cellX_88 : cellX G X c 88 = some (aI G 8 (xa c 88)) := by simp [cellX]
theorem cellX_89 : cellX G X c 89 = some (aJ G 33 (xj c 89)) := by simp [cellX]
theorem cellX_90 : cellX G X c 90 = some (ob 9 [.ref (X + 51), .ref (X + 1), .ref (X + 91), va_rf (xr c 91 0), .ref (X + 103), .int (xi c 51), .ref (X + 104), .int (xi c 70), .int (xi c 79), .int (xi c 90), .ref (X + 105)]) := by simp [cellX]
theorem cellX_91 : cellX G X c 91 = some (aG G 11 (fun i => if i < 11 then some (X + 92 + i) else none)) := by simp [cellX]
theorem cellX_in92 {i : Nat} (h : i < 11) : cellX G X c (92 + i) = some (aI G 8 (xa c (92 + i))) := by
  unfold cellX
  rw [if_neg (by omega), if_neg (by omega), if_neg (by omega), if_neg (by omega), if_neg (by omega), if_neg (by omega), if_neg (by omega), if_neg (by omega), if_neg (by omega), if_neg (by omega), if_neg (by omega), if_neg (by omega), if_neg (by omega), if_neg (by omega), if_neg (by omega), if_neg (by omega), if_neg (by omega), if_neg (by omega), if_neg (by omega), if_neg (by omega), if_neg (by omega), if_neg (by omega), if_neg (by omega), if_neg (by omega), if_neg (by omega), if_neg (by omega), if_neg (by omega), if_neg (by omega), if_neg (by omega), if_neg (by omega), if_neg (by omega), if_neg (by omega), if_neg (by omega), if_neg (by omega), if_neg (by omega), if_neg (by omega), if_neg (by omega), if_neg (by omega), if_neg (by omega), if_neg (by omega), if_neg (by omega), if_neg (by omega), if_pos (by omega)]
theorem cellX_103 : cellX G X c 103 = some (aI G 3 (xa c 103)) := by simp [cellX]
theorem cellX_104 : cellX G X c 104 = some (aI G 56 (xa c 104)) := by simp [cellX]
theorem cellX_105 : cellX G X c 105 = some (aI G 3 (xa c 105)) := by simp [cellX]
theorem cellX_106 : cellX G X c 106 = some (aI G 8 (xa c 106)) := by simp [cellX]
theorem cellX_107 : cellX G X c 107 = some (aI G 21 (xa c 107)) := by simp [cellX]
theorem cellX_xsa {k : Nat} {f : Nat → Int32} : ∀ q, q ≠ k → cellX G X (xsa c k f) q = cellX G X c q := by
  intro q hq
  unfold cellX
  simp only [xi_xsa, xl_xsa, xj_xsa, xr_xsa]
  repeat'
    first
    | rfl
    | (refine ite_congr rfl (fun h => ?_) (fun h => ?_))
    | rw [xa_xsa_n (by omega)]
theorem cellX_xsj {f : Nat → Int64} : ∀ q, q ≠ 89 → cellX G X (xsj c 89 f) q = cellX G X c q := by
  intro q hq
  unfold cellX
  simp only [xi_xsj, xl_xsj, xa_xsj, xr_xsj]
  repeat'
    first
    | rfl
    | (refine ite_congr rfl (fun h => ?_) (fun h => ?_))
    | exact absurd h hq
theorem cellX_xsr {k : Nat} {f : Nat → Option Nat} (hk : k ≠ 91) : ∀ q, q ≠ k → cellX G X (xsr c k f) q = cellX G X c q := by
  intro q hq
  unfold cellX
  simp only [xi_xsr, xl_xsr, xa_xsr, xj_xsr]
  repeat'
    first
    | rfl
    | (refine ite_congr rfl (fun h => ?_) (fun h => ?_))
    | rw [xr_xsr_n (by omega)]
theorem cellX_xsi {k o : Nat} {x : Int32} (hk : (111 ≤ k ∧ k < 117 ∧ o = 1) ∨ (121 ≤ k ∧ k < 127 ∧ o = 26) ∨ (k = 0 ∧ o = 0) ∨ ((k = 51 ∨ k = 70 ∨ k = 79 ∨ k = 90) ∧ o = 90)) : ∀ q, q ≠ o → cellX G X (xsi c k x) q = cellX G X c q := by
  intro q hq
  unfold cellX
  simp only [xa_xsi, xl_xsi, xj_xsi, xr_xsi]
  repeat'
    first
    | rfl
    | (refine ite_congr rfl (fun h => ?_) (fun h => ?_))
    | (simp (disch := omega) only [xi_xsi_n])
theorem cellX_xsl {k : Nat} {x : Int64} : ∀ q, q ≠ 51 → cellX G X (xsl c k x) q = cellX G X c q := by
  intro q hq
  unfold cellX
  simp only [xa_xsl, xi_xsl, xj_xsl, xr_xsl]
  repeat'
    first
    | rfl
    | (refine ite_congr rfl (fun h => ?_) (fun h => ?_))
    | exact absurd h hq
theorem cellX_xsp {f : Nat → Option Nat} : ∀ q, q ≠ 90 → cellX G X (xsr c 91 f) q = cellX G X c q := by
  intro q hq
  unfold cellX
  simp only [xi_xsr, xl_xsr, xa_xsr, xj_xsr]
  repeat'
    first
    | rfl
    | (refine ite_congr rfl (fun h => ?_) (fun h => ?_))
    | exact absurd h hq
    | rw [xr_xsr_n (by omega)]
end XE0
