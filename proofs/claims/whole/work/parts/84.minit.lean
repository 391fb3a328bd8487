/-! THE REFERENCE: its constructor -/
section MIN
variable {G : Gx} {X x0 : Nat} {f : Nat → Option va_E} {H : Hp}
def in_m (G : Gx) (X : Nat) : Nat → Option va_E := (upK (upK (upK (upK (upK (upK (upK (upK (upK (upK (upK (upK (upK (upK (upK (upK (fun _ => none) 1 (some (.inl (g_c G 0, 1240, .inl (fun _ => (0 : Int32)))))) 2 (some (.inl (g_c G 0, 1240, .inl (fun _ => (0 : Int32)))))) 3 (some (.inl (g_c G 3, 64, .inl (fun _ => (0 : Int32)))))) 4 (some (.inl (g_c G 0, 27, .inl (fun _ => (0 : Int32)))))) 5 (some (.inl (g_c G 0, 27, .inl (fun _ => (0 : Int32)))))) 6 (some (.inl (g_c G 1, 243, .inr (.inl (fun _ => (0 : Int64))))))) 7 (some (.inl (g_c G 1, 243, .inr (.inl (fun _ => (0 : Int64))))))) 8 (some (.inl (g_c G 1, 243, .inr (.inl (fun _ => (0 : Int64))))))) 9 (some (.inl (g_c G 0, 243, .inl (fun _ => (0 : Int32)))))) 10 (some (.inl (g_c G 0, 8, .inl (fun _ => (0 : Int32)))))) 11 (some (.inl (g_c G 0, 32, .inl (fun _ => (0 : Int32)))))) 12 (some (.inl (g_c G 0, 32, .inl (fun _ => (0 : Int32)))))) 13 (some (.inl (g_c G 0, 3, .inl (fun _ => (0 : Int32)))))) 14 (some (.inl (g_c G 1, 201, .inr (.inl (fun _ => (0 : Int64))))))) 15 (some (.inl (g_c G 0, 3, .inl (fun _ => (0 : Int32)))))) 16 (some (.inl (g_c G 0, 20, .inl (fun _ => (0 : Int32))))))
def fd_m (X : Nat) : List Value := [.int 0, (va_rf (some (X + 1))), (va_rf (some (X + 2))), .int 0, .int 0, .int 0, .int 0, .int 0, .int 0, (va_rf (some (X + 3))), (.int (-1 : Int32)), .int 0, (va_rf (some (X + 4))), (va_rf (some (X + 5))), (va_rf (some (X + 6))), (va_rf (some (X + 7))), (va_rf (some (X + 8))), (va_rf (some (X + 9))), .int 0, .int 0, .int 0, (va_rf (some (X + 10))), (va_rf (some (X + 11))), (va_rf (some (X + 12))), (va_rf (some (X + 13))), .int 0, .int 0, (va_rf (some (X + 14))), (va_rf (some (X + 15))), (va_rf (some (X + 16))), .int 0, .int 0, .int 0, .int 0]
def f0M (X : Nat) : Nat → Option va_E := upK (fun _ => none) 0 (some (ob 12 [.int 0, .null, .null, .int 0, .int 0, .int 0, .int 0, .int 0, .int 0, .null, .int 0, .int 0, .null, .null, .null, .null, .null, .null, .int 0, .int 0, .int 0, .null, .null, .null, .null, .int 0, .int 0, .null, .null, .null, .int 0, .int 0, .int 0, .int 0]))
def s0M : MS := (fun k => if k = 10 then -1 else nI 0, fun k j => if k = 1 ∧ j = 4 then nI 1 else 0, fun _ _ => 0)
def f1M (G : Gx) (X : Nat) : Nat → Option va_E := upK (upK (in_m G X) 0 (some (ob 12 (fd_m X)))) 1 (some (.inl (g_c G 0, 1240, .inl (upK (fun _ => (0 : Int32)) 4 (nI 1)))))
theorem x_init12 (hX : g_B G + x0 = X) : F_X12_init G (hf X 1 (f0M X) H) (x0 + 1) (X + 0) = some ((), hf X 17 (f1M G X) H, x0 + 17) := by
  unfold F_X12_init f0M
  rw [hn_I (n := 1) hX 2 rfl (by decide) (by decide) (by decide)]
  rw [hn_p [.int 0, (va_rf (some (X + 1))), .null, .int 0, .int 0, .int 0, .int 0, .int 0, .int 0, .null, .int 0, .int 0, .null, .null, .null, .null, .null, .null, .int 0, .int 0, .int 0, .null, .null, .null, .null, .int 0, .int 0, .null, .null, .null, .int 0, .int 0, .int 0, .int 0] rfl (by decide) (by show 1 < 34; decide)]
  rw [hn_I (n := 2) hX 3 rfl (by decide) (by decide) (by decide)]
  rw [hn_p [.int 0, (va_rf (some (X + 1))), (va_rf (some (X + 2))), .int 0, .int 0, .int 0, .int 0, .int 0, .int 0, .null, .int 0, .int 0, .null, .null, .null, .null, .null, .null, .int 0, .int 0, .int 0, .null, .null, .null, .null, .int 0, .int 0, .null, .null, .null, .int 0, .int 0, .int 0, .int 0] rfl (by decide) (by show 2 < 34; decide)]
  rw [hn_I (n := 3) hX 4 rfl (by decide) (by decide) (by decide)]
  rw [hn_p [.int 0, (va_rf (some (X + 1))), (va_rf (some (X + 2))), .int 0, .int 0, .int 0, .int 0, .int 0, .int 0, (va_rf (some (X + 3))), .int 0, .int 0, .null, .null, .null, .null, .null, .null, .int 0, .int 0, .int 0, .null, .null, .null, .null, .int 0, .int 0, .null, .null, .null, .int 0, .int 0, .int 0, .int 0] rfl (by decide) (by show 9 < 34; decide)]
  rw [hn_p [.int 0, (va_rf (some (X + 1))), (va_rf (some (X + 2))), .int 0, .int 0, .int 0, .int 0, .int 0, .int 0, (va_rf (some (X + 3))), (.int (-1 : Int32)), .int 0, .null, .null, .null, .null, .null, .null, .int 0, .int 0, .int 0, .null, .null, .null, .null, .int 0, .int 0, .null, .null, .null, .int 0, .int 0, .int 0, .int 0] rfl (by decide) (by show 10 < 34; decide)]
  rw [hn_I (n := 4) hX 5 rfl (by decide) (by decide) (by decide)]
  rw [hn_p [.int 0, (va_rf (some (X + 1))), (va_rf (some (X + 2))), .int 0, .int 0, .int 0, .int 0, .int 0, .int 0, (va_rf (some (X + 3))), (.int (-1 : Int32)), .int 0, (va_rf (some (X + 4))), .null, .null, .null, .null, .null, .int 0, .int 0, .int 0, .null, .null, .null, .null, .int 0, .int 0, .null, .null, .null, .int 0, .int 0, .int 0, .int 0] rfl (by decide) (by show 12 < 34; decide)]
  rw [hn_I (n := 5) hX 6 rfl (by decide) (by decide) (by decide)]
  rw [hn_p [.int 0, (va_rf (some (X + 1))), (va_rf (some (X + 2))), .int 0, .int 0, .int 0, .int 0, .int 0, .int 0, (va_rf (some (X + 3))), (.int (-1 : Int32)), .int 0, (va_rf (some (X + 4))), (va_rf (some (X + 5))), .null, .null, .null, .null, .int 0, .int 0, .int 0, .null, .null, .null, .null, .int 0, .int 0, .null, .null, .null, .int 0, .int 0, .int 0, .int 0] rfl (by decide) (by show 13 < 34; decide)]
  rw [hn_J (n := 6) hX 7 rfl (by decide) (by decide) (by decide)]
  rw [hn_p [.int 0, (va_rf (some (X + 1))), (va_rf (some (X + 2))), .int 0, .int 0, .int 0, .int 0, .int 0, .int 0, (va_rf (some (X + 3))), (.int (-1 : Int32)), .int 0, (va_rf (some (X + 4))), (va_rf (some (X + 5))), (va_rf (some (X + 6))), .null, .null, .null, .int 0, .int 0, .int 0, .null, .null, .null, .null, .int 0, .int 0, .null, .null, .null, .int 0, .int 0, .int 0, .int 0] rfl (by decide) (by show 14 < 34; decide)]
  rw [hn_J (n := 7) hX 8 rfl (by decide) (by decide) (by decide)]
  rw [hn_p [.int 0, (va_rf (some (X + 1))), (va_rf (some (X + 2))), .int 0, .int 0, .int 0, .int 0, .int 0, .int 0, (va_rf (some (X + 3))), (.int (-1 : Int32)), .int 0, (va_rf (some (X + 4))), (va_rf (some (X + 5))), (va_rf (some (X + 6))), (va_rf (some (X + 7))), .null, .null, .int 0, .int 0, .int 0, .null, .null, .null, .null, .int 0, .int 0, .null, .null, .null, .int 0, .int 0, .int 0, .int 0] rfl (by decide) (by show 15 < 34; decide)]
  rw [hn_J (n := 8) hX 9 rfl (by decide) (by decide) (by decide)]
  rw [hn_p [.int 0, (va_rf (some (X + 1))), (va_rf (some (X + 2))), .int 0, .int 0, .int 0, .int 0, .int 0, .int 0, (va_rf (some (X + 3))), (.int (-1 : Int32)), .int 0, (va_rf (some (X + 4))), (va_rf (some (X + 5))), (va_rf (some (X + 6))), (va_rf (some (X + 7))), (va_rf (some (X + 8))), .null, .int 0, .int 0, .int 0, .null, .null, .null, .null, .int 0, .int 0, .null, .null, .null, .int 0, .int 0, .int 0, .int 0] rfl (by decide) (by show 16 < 34; decide)]
  rw [hn_I (n := 9) hX 10 rfl (by decide) (by decide) (by decide)]
  rw [hn_p [.int 0, (va_rf (some (X + 1))), (va_rf (some (X + 2))), .int 0, .int 0, .int 0, .int 0, .int 0, .int 0, (va_rf (some (X + 3))), (.int (-1 : Int32)), .int 0, (va_rf (some (X + 4))), (va_rf (some (X + 5))), (va_rf (some (X + 6))), (va_rf (some (X + 7))), (va_rf (some (X + 8))), (va_rf (some (X + 9))), .int 0, .int 0, .int 0, .null, .null, .null, .null, .int 0, .int 0, .null, .null, .null, .int 0, .int 0, .int 0, .int 0] rfl (by decide) (by show 17 < 34; decide)]
  rw [hn_I (n := 10) hX 11 rfl (by decide) (by decide) (by decide)]
  rw [hn_p [.int 0, (va_rf (some (X + 1))), (va_rf (some (X + 2))), .int 0, .int 0, .int 0, .int 0, .int 0, .int 0, (va_rf (some (X + 3))), (.int (-1 : Int32)), .int 0, (va_rf (some (X + 4))), (va_rf (some (X + 5))), (va_rf (some (X + 6))), (va_rf (some (X + 7))), (va_rf (some (X + 8))), (va_rf (some (X + 9))), .int 0, .int 0, .int 0, (va_rf (some (X + 10))), .null, .null, .null, .int 0, .int 0, .null, .null, .null, .int 0, .int 0, .int 0, .int 0] rfl (by decide) (by show 21 < 34; decide)]
  rw [hn_I (n := 11) hX 12 rfl (by decide) (by decide) (by decide)]
  rw [hn_p [.int 0, (va_rf (some (X + 1))), (va_rf (some (X + 2))), .int 0, .int 0, .int 0, .int 0, .int 0, .int 0, (va_rf (some (X + 3))), (.int (-1 : Int32)), .int 0, (va_rf (some (X + 4))), (va_rf (some (X + 5))), (va_rf (some (X + 6))), (va_rf (some (X + 7))), (va_rf (some (X + 8))), (va_rf (some (X + 9))), .int 0, .int 0, .int 0, (va_rf (some (X + 10))), (va_rf (some (X + 11))), .null, .null, .int 0, .int 0, .null, .null, .null, .int 0, .int 0, .int 0, .int 0] rfl (by decide) (by show 22 < 34; decide)]
  rw [hn_I (n := 12) hX 13 rfl (by decide) (by decide) (by decide)]
  rw [hn_p [.int 0, (va_rf (some (X + 1))), (va_rf (some (X + 2))), .int 0, .int 0, .int 0, .int 0, .int 0, .int 0, (va_rf (some (X + 3))), (.int (-1 : Int32)), .int 0, (va_rf (some (X + 4))), (va_rf (some (X + 5))), (va_rf (some (X + 6))), (va_rf (some (X + 7))), (va_rf (some (X + 8))), (va_rf (some (X + 9))), .int 0, .int 0, .int 0, (va_rf (some (X + 10))), (va_rf (some (X + 11))), (va_rf (some (X + 12))), .null, .int 0, .int 0, .null, .null, .null, .int 0, .int 0, .int 0, .int 0] rfl (by decide) (by show 23 < 34; decide)]
  rw [hn_I (n := 13) hX 14 rfl (by decide) (by decide) (by decide)]
  rw [hn_p [.int 0, (va_rf (some (X + 1))), (va_rf (some (X + 2))), .int 0, .int 0, .int 0, .int 0, .int 0, .int 0, (va_rf (some (X + 3))), (.int (-1 : Int32)), .int 0, (va_rf (some (X + 4))), (va_rf (some (X + 5))), (va_rf (some (X + 6))), (va_rf (some (X + 7))), (va_rf (some (X + 8))), (va_rf (some (X + 9))), .int 0, .int 0, .int 0, (va_rf (some (X + 10))), (va_rf (some (X + 11))), (va_rf (some (X + 12))), (va_rf (some (X + 13))), .int 0, .int 0, .null, .null, .null, .int 0, .int 0, .int 0, .int 0] rfl (by decide) (by show 24 < 34; decide)]
  rw [hn_J (n := 14) hX 15 rfl (by decide) (by decide) (by decide)]
  rw [hn_p [.int 0, (va_rf (some (X + 1))), (va_rf (some (X + 2))), .int 0, .int 0, .int 0, .int 0, .int 0, .int 0, (va_rf (some (X + 3))), (.int (-1 : Int32)), .int 0, (va_rf (some (X + 4))), (va_rf (some (X + 5))), (va_rf (some (X + 6))), (va_rf (some (X + 7))), (va_rf (some (X + 8))), (va_rf (some (X + 9))), .int 0, .int 0, .int 0, (va_rf (some (X + 10))), (va_rf (some (X + 11))), (va_rf (some (X + 12))), (va_rf (some (X + 13))), .int 0, .int 0, (va_rf (some (X + 14))), .null, .null, .int 0, .int 0, .int 0, .int 0] rfl (by decide) (by show 27 < 34; decide)]
  rw [hn_I (n := 15) hX 16 rfl (by decide) (by decide) (by decide)]
  rw [hn_p [.int 0, (va_rf (some (X + 1))), (va_rf (some (X + 2))), .int 0, .int 0, .int 0, .int 0, .int 0, .int 0, (va_rf (some (X + 3))), (.int (-1 : Int32)), .int 0, (va_rf (some (X + 4))), (va_rf (some (X + 5))), (va_rf (some (X + 6))), (va_rf (some (X + 7))), (va_rf (some (X + 8))), (va_rf (some (X + 9))), .int 0, .int 0, .int 0, (va_rf (some (X + 10))), (va_rf (some (X + 11))), (va_rf (some (X + 12))), (va_rf (some (X + 13))), .int 0, .int 0, (va_rf (some (X + 14))), (va_rf (some (X + 15))), .null, .int 0, .int 0, .int 0, .int 0] rfl (by decide) (by show 28 < 34; decide)]
  rw [hn_I (n := 16) hX 17 rfl (by decide) (by decide) (by decide)]
  rw [hn_p [.int 0, (va_rf (some (X + 1))), (va_rf (some (X + 2))), .int 0, .int 0, .int 0, .int 0, .int 0, .int 0, (va_rf (some (X + 3))), (.int (-1 : Int32)), .int 0, (va_rf (some (X + 4))), (va_rf (some (X + 5))), (va_rf (some (X + 6))), (va_rf (some (X + 7))), (va_rf (some (X + 8))), (va_rf (some (X + 9))), .int 0, .int 0, .int 0, (va_rf (some (X + 10))), (va_rf (some (X + 11))), (va_rf (some (X + 12))), (va_rf (some (X + 13))), .int 0, .int 0, (va_rf (some (X + 14))), (va_rf (some (X + 15))), (va_rf (some (X + 16))), .int 0, .int 0, .int 0, .int 0] rfl (by decide) (by show 29 < 34; decide)]
  rw [hn_r (j := 0) (fs := fd_m X) (r := some (X + 1)) (by decide) ?_ rfl]
  rotate_left
  · rfl
  rw [nn_some, asI_at (n := 1240) (g := fun _ => (0 : Int32)) ((hf_at (j := 1) (by decide)).trans rfl) (by decide) (by decide), hf_put (j := 1) (by decide)]
  rfl
theorem s0M_1 : upK (fun _ => (0 : Int32)) 4 (nI 1) = ma s0M 1 := by
  funext j
  show (if j = 4 then nI 1 else (0 : Int32)) = if 1 = 1 ∧ j = 4 then nI 1 else 0
  by_cases c : j = 4
  · rw [if_pos c, if_pos ⟨rfl, c⟩]
  · rw [if_neg c, if_neg (fun z => c z.2)]
theorem s0M_n {k : Nat} (hk : k ≠ 1) : (fun _ => (0 : Int32)) = ma s0M k := by
  funext j
  show (0 : Int32) = if k = 1 ∧ j = 4 then nI 1 else 0
  rw [if_neg (fun z => hk z.1)]
theorem encM_f {a : Nat} {st : MS} : encM G X st H a = if X ≤ a ∧ a < X + 17 then encM G X st H (X + (a - X)) else H a := by
  by_cases z : X ≤ a ∧ a < X + 17
  · rw [if_pos z, show X + (a - X) = a by omega]
  · rw [if_neg z]
    unfold encM
    iterate 17 rw [if_neg (by omega)]
theorem fM_0 : f1M G X 0 = encM G X s0M H (X + 0) := by
  rw [Nat.add_zero, encM_0]
  rfl
theorem fM_1 : f1M G X 1 = encM G X s0M H (X + 1) := by
  rw [encM_s, ← s0M_1]
  rfl
theorem fM_2 : f1M G X 2 = encM G X s0M H (X + 2) := by
  unfold encM
  rw [if_neg (by omega)]
  rw [if_neg (by omega)]
  rw [if_pos rfl]
  rw [← s0M_n (k := 2) (by decide)]
  rfl
theorem fM_3 : f1M G X 3 = encM G X s0M H (X + 3) := by
  unfold encM
  rw [if_neg (by omega)]
  rw [if_neg (by omega)]
  rw [if_neg (by omega)]
  rw [if_pos rfl]
  rw [← s0M_n (k := 9) (by decide)]
  rfl
theorem fM_4 : f1M G X 4 = encM G X s0M H (X + 4) := by
  unfold encM
  rw [if_neg (by omega)]
  rw [if_neg (by omega)]
  rw [if_neg (by omega)]
  rw [if_neg (by omega)]
  rw [if_pos rfl]
  rw [← s0M_n (k := 12) (by decide)]
  rfl
theorem fM_5 : f1M G X 5 = encM G X s0M H (X + 5) := by
  unfold encM
  rw [if_neg (by omega)]
  rw [if_neg (by omega)]
  rw [if_neg (by omega)]
  rw [if_neg (by omega)]
  rw [if_neg (by omega)]
  rw [if_pos rfl]
  rw [← s0M_n (k := 13) (by decide)]
  rfl
theorem fM_6 : f1M G X 6 = encM G X s0M H (X + 6) := by
  unfold encM
  rw [if_neg (by omega)]
  rw [if_neg (by omega)]
  rw [if_neg (by omega)]
  rw [if_neg (by omega)]
  rw [if_neg (by omega)]
  rw [if_neg (by omega)]
  rw [if_pos rfl]
  rfl
theorem fM_7 : f1M G X 7 = encM G X s0M H (X + 7) := by
  unfold encM
  rw [if_neg (by omega)]
  rw [if_neg (by omega)]
  rw [if_neg (by omega)]
  rw [if_neg (by omega)]
  rw [if_neg (by omega)]
  rw [if_neg (by omega)]
  rw [if_neg (by omega)]
  rw [if_pos rfl]
  rfl
theorem fM_8 : f1M G X 8 = encM G X s0M H (X + 8) := by
  unfold encM
  rw [if_neg (by omega)]
  rw [if_neg (by omega)]
  rw [if_neg (by omega)]
  rw [if_neg (by omega)]
  rw [if_neg (by omega)]
  rw [if_neg (by omega)]
  rw [if_neg (by omega)]
  rw [if_neg (by omega)]
  rw [if_pos rfl]
  rfl
theorem fM_9 : f1M G X 9 = encM G X s0M H (X + 9) := by
  unfold encM
  rw [if_neg (by omega)]
  rw [if_neg (by omega)]
  rw [if_neg (by omega)]
  rw [if_neg (by omega)]
  rw [if_neg (by omega)]
  rw [if_neg (by omega)]
  rw [if_neg (by omega)]
  rw [if_neg (by omega)]
  rw [if_neg (by omega)]
  rw [if_pos rfl]
  rw [← s0M_n (k := 17) (by decide)]
  rfl
theorem fM_10 : f1M G X 10 = encM G X s0M H (X + 10) := by
  unfold encM
  rw [if_neg (by omega)]
  rw [if_neg (by omega)]
  rw [if_neg (by omega)]
  rw [if_neg (by omega)]
  rw [if_neg (by omega)]
  rw [if_neg (by omega)]
  rw [if_neg (by omega)]
  rw [if_neg (by omega)]
  rw [if_neg (by omega)]
  rw [if_neg (by omega)]
  rw [if_pos rfl]
  rw [← s0M_n (k := 21) (by decide)]
  rfl
theorem fM_11 : f1M G X 11 = encM G X s0M H (X + 11) := by
  unfold encM
  rw [if_neg (by omega)]
  rw [if_neg (by omega)]
  rw [if_neg (by omega)]
  rw [if_neg (by omega)]
  rw [if_neg (by omega)]
  rw [if_neg (by omega)]
  rw [if_neg (by omega)]
  rw [if_neg (by omega)]
  rw [if_neg (by omega)]
  rw [if_neg (by omega)]
  rw [if_neg (by omega)]
  rw [if_pos rfl]
  rw [← s0M_n (k := 22) (by decide)]
  rfl
theorem fM_12 : f1M G X 12 = encM G X s0M H (X + 12) := by
  unfold encM
  rw [if_neg (by omega)]
  rw [if_neg (by omega)]
  rw [if_neg (by omega)]
  rw [if_neg (by omega)]
  rw [if_neg (by omega)]
  rw [if_neg (by omega)]
  rw [if_neg (by omega)]
  rw [if_neg (by omega)]
  rw [if_neg (by omega)]
  rw [if_neg (by omega)]
  rw [if_neg (by omega)]
  rw [if_neg (by omega)]
  rw [if_pos rfl]
  rw [← s0M_n (k := 23) (by decide)]
  rfl
theorem fM_13 : f1M G X 13 = encM G X s0M H (X + 13) := by
  unfold encM
  rw [if_neg (by omega)]
  rw [if_neg (by omega)]
  rw [if_neg (by omega)]
  rw [if_neg (by omega)]
  rw [if_neg (by omega)]
  rw [if_neg (by omega)]
  rw [if_neg (by omega)]
  rw [if_neg (by omega)]
  rw [if_neg (by omega)]
  rw [if_neg (by omega)]
  rw [if_neg (by omega)]
  rw [if_neg (by omega)]
  rw [if_neg (by omega)]
  rw [if_pos rfl]
  rw [← s0M_n (k := 24) (by decide)]
  rfl
theorem fM_14 : f1M G X 14 = encM G X s0M H (X + 14) := by
  unfold encM
  rw [if_neg (by omega)]
  rw [if_neg (by omega)]
  rw [if_neg (by omega)]
  rw [if_neg (by omega)]
  rw [if_neg (by omega)]
  rw [if_neg (by omega)]
  rw [if_neg (by omega)]
  rw [if_neg (by omega)]
  rw [if_neg (by omega)]
  rw [if_neg (by omega)]
  rw [if_neg (by omega)]
  rw [if_neg (by omega)]
  rw [if_neg (by omega)]
  rw [if_neg (by omega)]
  rw [if_pos rfl]
  rfl
theorem fM_15 : f1M G X 15 = encM G X s0M H (X + 15) := by
  unfold encM
  rw [if_neg (by omega)]
  rw [if_neg (by omega)]
  rw [if_neg (by omega)]
  rw [if_neg (by omega)]
  rw [if_neg (by omega)]
  rw [if_neg (by omega)]
  rw [if_neg (by omega)]
  rw [if_neg (by omega)]
  rw [if_neg (by omega)]
  rw [if_neg (by omega)]
  rw [if_neg (by omega)]
  rw [if_neg (by omega)]
  rw [if_neg (by omega)]
  rw [if_neg (by omega)]
  rw [if_neg (by omega)]
  rw [if_pos rfl]
  rw [← s0M_n (k := 28) (by decide)]
  rfl
theorem fM_16 : f1M G X 16 = encM G X s0M H (X + 16) := by
  unfold encM
  rw [if_neg (by omega)]
  rw [if_neg (by omega)]
  rw [if_neg (by omega)]
  rw [if_neg (by omega)]
  rw [if_neg (by omega)]
  rw [if_neg (by omega)]
  rw [if_neg (by omega)]
  rw [if_neg (by omega)]
  rw [if_neg (by omega)]
  rw [if_neg (by omega)]
  rw [if_neg (by omega)]
  rw [if_neg (by omega)]
  rw [if_neg (by omega)]
  rw [if_neg (by omega)]
  rw [if_neg (by omega)]
  rw [if_neg (by omega)]
  rw [if_pos rfl]
  rw [← s0M_n (k := 29) (by decide)]
  rfl
theorem fM_all : ∀ k, k < 17 → f1M G X k = encM G X s0M H (X + k) := (lt_st (lt_st (lt_st (lt_st (lt_st (lt_st (lt_st (lt_st (lt_st (lt_st (lt_st (lt_st (lt_st (lt_st (lt_st (lt_st (lt_st lt_z fM_0) fM_1) fM_2) fM_3) fM_4) fM_5) fM_6) fM_7) fM_8) fM_9) fM_10) fM_11) fM_12) fM_13) fM_14) fM_15) fM_16)
theorem m_made (hX : g_B G + x0 = X) : F_X12_init G (hset H X (ob 12 [.int 0, .null, .null, .int 0, .int 0, .int 0, .int 0, .int 0, .int 0, .null, .int 0, .int 0, .null, .null, .null, .null, .null, .null, .int 0, .int 0, .int 0, .null, .null, .null, .null, .int 0, .int 0, .null, .null, .null, .int 0, .int 0, .int 0, .int 0])) (x0 + 1) X = some ((), encM G X s0M H, x0 + 17) := by
  have e : hset H X (ob 12 [.int 0, .null, .null, .int 0, .int 0, .int 0, .int 0, .int 0, .int 0, .null, .int 0, .int 0, .null, .null, .null, .null, .null, .null, .int 0, .int 0, .int 0, .null, .null, .null, .null, .int 0, .int 0, .null, .null, .null, .int 0, .int 0, .int 0, .int 0]) = hf X 1 (f0M X) H := by
    funext a
    unfold hset hf f0M
    by_cases z : a = X
    · rw [if_pos z, if_pos (by omega), show a - X = 0 by omega, upK_s]
    · rw [if_neg z, if_neg (by omega)]
  rw [e]
  refine (x_init12 hX).trans ?_
  refine congrArg (fun z => some ((), z, x0 + 17)) ?_
  funext a
  rw [encM_f (a := a)]
  unfold hf
  by_cases z : X ≤ a ∧ a < X + 17
  · rw [if_pos z, if_pos z, fM_all (H := H) _ (by omega)]
  · rw [if_neg z, if_neg z]
end MIN
