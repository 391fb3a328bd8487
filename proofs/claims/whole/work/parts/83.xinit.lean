/-! THE CONSTRUCTORS -/
def hf (X n : Nat) (f : Nat → Option va_E) (H : Hp) : Hp := fun a => if X ≤ a ∧ a < X + n then f (a - X) else H a
theorem hf_at {X n j : Nat} {f : Nat → Option va_E} {H : Hp} (h : j < n) : hf X n f H (X + j) = f j := by
  unfold hf
  rw [if_pos (by omega), Nat.add_sub_cancel_left]
theorem hf_new {X n : Nat} {f : Nat → Option va_E} {H : Hp} {e : va_E} : hset (hf X n f H) (X + n) e = hf X (n + 1) (upK f n (some e)) H := by
  funext a
  unfold hset hf
  by_cases z : a = X + n
  · rw [if_pos z, if_pos (by omega), show a - X = n by omega, upK_s]
  · rw [if_neg z]
    by_cases y : X ≤ a ∧ a < X + n
    · rw [if_pos y, if_pos (by omega), upK_n (by omega)]
    · rw [if_neg y, if_neg (by omega)]
theorem hf_put {X n j : Nat} {f : Nat → Option va_E} {H : Hp} {e : va_E} (h : j < n) : hset (hf X n f H) (X + j) e = hf X n (upK f j (some e)) H := by
  funext a
  unfold hset hf
  by_cases z : a = X + j
  · rw [if_pos z, if_pos (by omega), show a - X = j by omega, upK_s]
  · rw [if_neg z]
    by_cases y : X ≤ a ∧ a < X + n
    · rw [if_pos y, if_pos y, upK_n (by omega)]
    · rw [if_neg y, if_neg y]
theorem upK_comm {α : Type} {f : Nat → α} {j k : Nat} {x y : α} (h : j ≠ k) : upK (upK f j x) k y = upK (upK f k y) j x := by
  funext i
  unfold upK
  by_cases c : i = k
  · subst c
    rw [if_pos rfl, if_neg (fun z => h z.symm), if_pos rfl]
  · rw [if_neg c, if_neg c]
section HN
variable {G : Gx} {X x0 n j : Nat} {f : Nat → Option va_E} {H : Hp} {o : Option va_E} {β : Type}
theorem hn_I {c : ClassId} {k lim : Nat} {F : Nat → Hp → Nat → Option β} (hX : g_B G + x0 = X) (n' : Nat) (hn : n' = n + 1) (hj : j < n) (hk : k ≤ lim) (hl : lim < 2 ^ 31) : nwI G c (hf X n (upK f j o) H) (x0 + n) (nI k) lim F = F (X + n) (hf X n' (upK (upK f n (some (.inl (c, k, .inl (fun _ => (0 : Int32)))))) j o) H) (x0 + n') := by
  unfold nwI
  rw [nI_clamp (by omega), if_pos ⟨nI_pos (by omega), hk⟩, ← Nat.add_assoc, hX, hf_new, upK_comm (by omega), hn]
  rfl
theorem hn_J {c : ClassId} {k lim : Nat} {F : Nat → Hp → Nat → Option β} (hX : g_B G + x0 = X) (n' : Nat) (hn : n' = n + 1) (hj : j < n) (hk : k ≤ lim) (hl : lim < 2 ^ 31) : nwJ G c (hf X n (upK f j o) H) (x0 + n) (nI k) lim F = F (X + n) (hf X n' (upK (upK f n (some (.inl (c, k, .inr (.inl (fun _ => (0 : Int64))))))) j o) H) (x0 + n') := by
  unfold nwJ
  rw [nI_clamp (by omega), if_pos ⟨nI_pos (by omega), hk⟩, ← Nat.add_assoc, hX, hf_new, upK_comm (by omega), hn]
  rfl
theorem hn_R {c : ClassId} {k lim : Nat} {F : Nat → Hp → Nat → Option β} (hX : g_B G + x0 = X) (n' : Nat) (hn : n' = n + 1) (hj : j < n) (hk : k ≤ lim) (hl : lim < 2 ^ 31) : nwR G c (hf X n (upK f j o) H) (x0 + n) (nI k) lim F = F (X + n) (hf X n' (upK (upK f n (some (.inl (c, k, .inr (.inr (.inr (.inr (fun _ => none)))))))) j o) H) (x0 + n') := by
  unfold nwR
  rw [nI_clamp (by omega), if_pos ⟨nI_pos (by omega), hk⟩, ← Nat.add_assoc, hX, hf_new, upK_comm (by omega), hn]
  rfl
def grF8 (G : Gx) (X n N K : Nat) (f : Nat → Option va_E) : Nat → Option va_E := fun q => if q = n then some (aG G N (fun i => if i < N then some (X + (n + 1) + i) else none)) else if n < q ∧ q < n + 1 + N then some (aI G K (fun _ => (0 : Int32))) else f q
theorem hn_G {N K : Nat} {F : Nat → Hp → Nat → Option β} (hX : g_B G + x0 = X) (n' : Nat) (hn : n' = n + 1 + N) (hj : j < n) : nwG G (hf X n (upK f j o) H) (x0 + n) N K F = F (X + n) (hf X n' (upK (grF8 G X n N K f) j o) H) (x0 + n') := by
  subst hn
  unfold nwG
  rw [← Nat.add_assoc (g_B G) x0 n, hX, show x0 + n + 1 + N = x0 + (n + 1 + N) by omega]
  refine congrArg (fun z => F (X + n) z _) ?_
  funext a
  unfold mset grF8 hf
  rw [show g_B G + (x0 + n) = X + n by omega]
  by_cases z : a = X + n
  · rw [if_pos z, if_pos (by omega), upK_n (by omega), if_pos (by omega)]
    rfl
  · rw [if_neg z]
    by_cases y : X + n < a ∧ a < X + n + 1 + N
    · rw [if_pos y, if_pos (by omega), upK_n (by omega), if_neg (by omega), if_pos (by omega)]
    · rw [if_neg y]
      by_cases w : X ≤ a ∧ a < X + n
      · rw [if_pos w, if_pos (by omega)]
        by_cases v : a - X = j
        · rw [v, upK_s, upK_s]
        · rw [upK_n v, upK_n v, if_neg (by omega), if_neg (by omega)]
      · rw [if_neg w, if_neg (by omega)]
theorem hn_O {ci : Nat} {fs : List Value} {F : Nat → Hp → Nat → Option β} (hX : g_B G + x0 = X) (n' : Nat) (hn : n' = n + 1) : nwO G (hf X n f H) (x0 + n) ci fs F = F (X + n) (hf X n' (upK f n (some (ob ci fs))) H) (x0 + n') := by
  unfold nwO
  rw [← Nat.add_assoc, hX, hf_new, hn]
  rfl
theorem hn_p {ci k : Nat} {fs : List Value} {v : Value} {F : Hp → Option β} (fs' : List Value) (he : fs.set k v = fs') (hj : j < n) (hk : k < fs.length) : pfV (hf X n (upK f j (some (ob ci fs))) H) (X + j) [ci] k v F = F (hf X n (upK f j (some (ob ci fs'))) H) := by
  subst he
  rw [pfV_at (show hf X n (upK f j (some (ob ci fs))) H (X + j) = some (ob ci fs) by rw [hf_at hj, upK_s]) (by simp) hk, hf_put hj, upK_upK]
theorem hn_q {ci k : Nat} {fs : List Value} {v : Value} {F : Hp → Option β} (hj : j < n) (he : f j = some (ob ci fs)) (hk : k < fs.length) : pfV (hf X n f H) (X + j) [ci] k v F = F (hf X n (upK f j (some (ob ci (fs.set k v)))) H) := by
  rw [pfV_at (show hf X n f H (X + j) = some (ob ci fs) by rw [hf_at hj, he]) (by simp) hk, hf_put hj]
theorem hn_r {ci k : Nat} {fs : List Value} {r : Option Nat} {F : Option Nat → Option β} (hj : j < n) (he : f j = some (ob ci fs)) (hk : fs[k]? = some (va_rf r)) : gfR (hf X n f H) (X + j) [ci] k F = F r := gfR_at (show hf X n f H (X + j) = some (ob ci fs) by rw [hf_at hj, he]) (by simp) hk
end HN
section XIN
variable {G : Gx} {X x0 : Nat} {f : Nat → Option va_E} {H : Hp}
def in_b (G : Gx) (X : Nat) (f : Nat → Option va_E) : Nat → Option va_E := (grF8 G X 13 12 10 (upK (upK (upK (upK (upK (upK (upK (upK (upK (upK (upK f 2 (some (.inl (g_c G 2, 120, .inl (fun _ => (0 : Int32)))))) 3 (some (.inl (g_c G 4, 6, .inr (.inr (.inr (.inr (fun _ => none)))))))) 4 (some (.inl (g_c G 0, 8, .inl (fun _ => (0 : Int32)))))) 5 (some (.inl (g_c G 0, 8, .inl (fun _ => (0 : Int32)))))) 6 (some (.inl (g_c G 0, 8, .inl (fun _ => (0 : Int32)))))) 7 (some (.inl (g_c G 0, 8, .inl (fun _ => (0 : Int32)))))) 8 (some (.inl (g_c G 0, 8, .inl (fun _ => (0 : Int32)))))) 9 (some (.inl (g_c G 0, 8, .inl (fun _ => (0 : Int32)))))) 10 (some (.inl (g_c G 3, 8, .inl (fun _ => (0 : Int32)))))) 11 (some (.inl (g_c G 5, 12, .inr (.inr (.inr (.inr (fun _ => none)))))))) 12 (some (.inl (g_c G 0, 12, .inl (fun _ => (0 : Int32)))))))
def fd_b (X : Nat) : List Value := [(va_rf (some (X + 2))), (.int (nI 0)), (va_rf (some (X + 3))), (.int (nI 0)), (va_rf (some (X + 4))), (va_rf (some (X + 5))), (va_rf (some (X + 6))), (va_rf (some (X + 7))), (va_rf (some (X + 8))), (va_rf (some (X + 9))), (va_rf (some (X + 10))), (.int (nI 0)), (va_rf (some (X + 11))), (va_rf (some (X + 12))), (va_rf (some (X + 13))), (.int (nI 0)), (.int (nI 0)), (.int (nI 1))]
theorem x_init0b (hX : g_B G + x0 = X) : F_X0_init G (hf X 2 (upK f 1 (some (ob 0 [.null, .int 0, .null, .int 0, .null, .null, .null, .null, .null, .null, .null, .int 0, .null, .null, .null, .int 0, .int 0, .int 0]))) H) (x0 + 2) (X + 1) = some ((), hf X 26 (upK (in_b G X f) 1 (some (ob 0 (fd_b X)))) H, x0 + 26) := by
  unfold F_X0_init
  rw [hn_I (n := 2) hX 3 rfl (by decide) (by decide) (by decide)]
  rw [hn_p [(va_rf (some (X + 2))), .int 0, .null, .int 0, .null, .null, .null, .null, .null, .null, .null, .int 0, .null, .null, .null, .int 0, .int 0, .int 0] rfl (by decide) (by show 0 < 18; decide)]
  rw [hn_p [(va_rf (some (X + 2))), (.int (nI 0)), .null, .int 0, .null, .null, .null, .null, .null, .null, .null, .int 0, .null, .null, .null, .int 0, .int 0, .int 0] rfl (by decide) (by show 1 < 18; decide)]
  rw [hn_R (n := 3) hX 4 rfl (by decide) (by decide) (by decide)]
  rw [hn_p [(va_rf (some (X + 2))), (.int (nI 0)), (va_rf (some (X + 3))), .int 0, .null, .null, .null, .null, .null, .null, .null, .int 0, .null, .null, .null, .int 0, .int 0, .int 0] rfl (by decide) (by show 2 < 18; decide)]
  rw [hn_p [(va_rf (some (X + 2))), (.int (nI 0)), (va_rf (some (X + 3))), (.int (nI 0)), .null, .null, .null, .null, .null, .null, .null, .int 0, .null, .null, .null, .int 0, .int 0, .int 0] rfl (by decide) (by show 3 < 18; decide)]
  rw [hn_I (n := 4) hX 5 rfl (by decide) (by decide) (by decide)]
  rw [hn_p [(va_rf (some (X + 2))), (.int (nI 0)), (va_rf (some (X + 3))), (.int (nI 0)), (va_rf (some (X + 4))), .null, .null, .null, .null, .null, .null, .int 0, .null, .null, .null, .int 0, .int 0, .int 0] rfl (by decide) (by show 4 < 18; decide)]
  rw [hn_I (n := 5) hX 6 rfl (by decide) (by decide) (by decide)]
  rw [hn_p [(va_rf (some (X + 2))), (.int (nI 0)), (va_rf (some (X + 3))), (.int (nI 0)), (va_rf (some (X + 4))), (va_rf (some (X + 5))), .null, .null, .null, .null, .null, .int 0, .null, .null, .null, .int 0, .int 0, .int 0] rfl (by decide) (by show 5 < 18; decide)]
  rw [hn_I (n := 6) hX 7 rfl (by decide) (by decide) (by decide)]
  rw [hn_p [(va_rf (some (X + 2))), (.int (nI 0)), (va_rf (some (X + 3))), (.int (nI 0)), (va_rf (some (X + 4))), (va_rf (some (X + 5))), (va_rf (some (X + 6))), .null, .null, .null, .null, .int 0, .null, .null, .null, .int 0, .int 0, .int 0] rfl (by decide) (by show 6 < 18; decide)]
  rw [hn_I (n := 7) hX 8 rfl (by decide) (by decide) (by decide)]
  rw [hn_p [(va_rf (some (X + 2))), (.int (nI 0)), (va_rf (some (X + 3))), (.int (nI 0)), (va_rf (some (X + 4))), (va_rf (some (X + 5))), (va_rf (some (X + 6))), (va_rf (some (X + 7))), .null, .null, .null, .int 0, .null, .null, .null, .int 0, .int 0, .int 0] rfl (by decide) (by show 7 < 18; decide)]
  rw [hn_I (n := 8) hX 9 rfl (by decide) (by decide) (by decide)]
  rw [hn_p [(va_rf (some (X + 2))), (.int (nI 0)), (va_rf (some (X + 3))), (.int (nI 0)), (va_rf (some (X + 4))), (va_rf (some (X + 5))), (va_rf (some (X + 6))), (va_rf (some (X + 7))), (va_rf (some (X + 8))), .null, .null, .int 0, .null, .null, .null, .int 0, .int 0, .int 0] rfl (by decide) (by show 8 < 18; decide)]
  rw [hn_I (n := 9) hX 10 rfl (by decide) (by decide) (by decide)]
  rw [hn_p [(va_rf (some (X + 2))), (.int (nI 0)), (va_rf (some (X + 3))), (.int (nI 0)), (va_rf (some (X + 4))), (va_rf (some (X + 5))), (va_rf (some (X + 6))), (va_rf (some (X + 7))), (va_rf (some (X + 8))), (va_rf (some (X + 9))), .null, .int 0, .null, .null, .null, .int 0, .int 0, .int 0] rfl (by decide) (by show 9 < 18; decide)]
  rw [hn_I (n := 10) hX 11 rfl (by decide) (by decide) (by decide)]
  rw [hn_p [(va_rf (some (X + 2))), (.int (nI 0)), (va_rf (some (X + 3))), (.int (nI 0)), (va_rf (some (X + 4))), (va_rf (some (X + 5))), (va_rf (some (X + 6))), (va_rf (some (X + 7))), (va_rf (some (X + 8))), (va_rf (some (X + 9))), (va_rf (some (X + 10))), .int 0, .null, .null, .null, .int 0, .int 0, .int 0] rfl (by decide) (by show 10 < 18; decide)]
  rw [hn_p [(va_rf (some (X + 2))), (.int (nI 0)), (va_rf (some (X + 3))), (.int (nI 0)), (va_rf (some (X + 4))), (va_rf (some (X + 5))), (va_rf (some (X + 6))), (va_rf (some (X + 7))), (va_rf (some (X + 8))), (va_rf (some (X + 9))), (va_rf (some (X + 10))), (.int (nI 0)), .null, .null, .null, .int 0, .int 0, .int 0] rfl (by decide) (by show 11 < 18; decide)]
  rw [hn_R (n := 11) hX 12 rfl (by decide) (by decide) (by decide)]
  rw [hn_p [(va_rf (some (X + 2))), (.int (nI 0)), (va_rf (some (X + 3))), (.int (nI 0)), (va_rf (some (X + 4))), (va_rf (some (X + 5))), (va_rf (some (X + 6))), (va_rf (some (X + 7))), (va_rf (some (X + 8))), (va_rf (some (X + 9))), (va_rf (some (X + 10))), (.int (nI 0)), (va_rf (some (X + 11))), .null, .null, .int 0, .int 0, .int 0] rfl (by decide) (by show 12 < 18; decide)]
  rw [hn_I (n := 12) hX 13 rfl (by decide) (by decide) (by decide)]
  rw [hn_p [(va_rf (some (X + 2))), (.int (nI 0)), (va_rf (some (X + 3))), (.int (nI 0)), (va_rf (some (X + 4))), (va_rf (some (X + 5))), (va_rf (some (X + 6))), (va_rf (some (X + 7))), (va_rf (some (X + 8))), (va_rf (some (X + 9))), (va_rf (some (X + 10))), (.int (nI 0)), (va_rf (some (X + 11))), (va_rf (some (X + 12))), .null, .int 0, .int 0, .int 0] rfl (by decide) (by show 13 < 18; decide)]
  rw [hn_G (n := 13) hX 26 rfl (by decide)]
  rw [hn_p [(va_rf (some (X + 2))), (.int (nI 0)), (va_rf (some (X + 3))), (.int (nI 0)), (va_rf (some (X + 4))), (va_rf (some (X + 5))), (va_rf (some (X + 6))), (va_rf (some (X + 7))), (va_rf (some (X + 8))), (va_rf (some (X + 9))), (va_rf (some (X + 10))), (.int (nI 0)), (va_rf (some (X + 11))), (va_rf (some (X + 12))), (va_rf (some (X + 13))), .int 0, .int 0, .int 0] rfl (by decide) (by show 14 < 18; decide)]
  rw [hn_p [(va_rf (some (X + 2))), (.int (nI 0)), (va_rf (some (X + 3))), (.int (nI 0)), (va_rf (some (X + 4))), (va_rf (some (X + 5))), (va_rf (some (X + 6))), (va_rf (some (X + 7))), (va_rf (some (X + 8))), (va_rf (some (X + 9))), (va_rf (some (X + 10))), (.int (nI 0)), (va_rf (some (X + 11))), (va_rf (some (X + 12))), (va_rf (some (X + 13))), (.int (nI 0)), .int 0, .int 0] rfl (by decide) (by show 15 < 18; decide)]
  rw [hn_p [(va_rf (some (X + 2))), (.int (nI 0)), (va_rf (some (X + 3))), (.int (nI 0)), (va_rf (some (X + 4))), (va_rf (some (X + 5))), (va_rf (some (X + 6))), (va_rf (some (X + 7))), (va_rf (some (X + 8))), (va_rf (some (X + 9))), (va_rf (some (X + 10))), (.int (nI 0)), (va_rf (some (X + 11))), (va_rf (some (X + 12))), (va_rf (some (X + 13))), (.int (nI 0)), (.int (nI 0)), .int 0] rfl (by decide) (by show 16 < 18; decide)]
  rw [hn_p [(va_rf (some (X + 2))), (.int (nI 0)), (va_rf (some (X + 3))), (.int (nI 0)), (va_rf (some (X + 4))), (va_rf (some (X + 5))), (va_rf (some (X + 6))), (va_rf (some (X + 7))), (va_rf (some (X + 8))), (va_rf (some (X + 9))), (va_rf (some (X + 10))), (.int (nI 0)), (va_rf (some (X + 11))), (va_rf (some (X + 12))), (va_rf (some (X + 13))), (.int (nI 0)), (.int (nI 0)), (.int (nI 1))] rfl (by decide) (by show 17 < 18; decide)]
  unfold in_b fd_b
  rfl
def in_k (G : Gx) (X : Nat) (f : Nat → Option va_E) : Nat → Option va_E := (grF8 G X 38 12 10 (upK (upK (upK (upK (upK (upK (upK (upK (upK (upK (upK f 27 (some (.inl (g_c G 2, 120, .inl (fun _ => (0 : Int32)))))) 28 (some (.inl (g_c G 4, 6, .inr (.inr (.inr (.inr (fun _ => none)))))))) 29 (some (.inl (g_c G 0, 8, .inl (fun _ => (0 : Int32)))))) 30 (some (.inl (g_c G 0, 8, .inl (fun _ => (0 : Int32)))))) 31 (some (.inl (g_c G 0, 8, .inl (fun _ => (0 : Int32)))))) 32 (some (.inl (g_c G 0, 8, .inl (fun _ => (0 : Int32)))))) 33 (some (.inl (g_c G 0, 8, .inl (fun _ => (0 : Int32)))))) 34 (some (.inl (g_c G 0, 8, .inl (fun _ => (0 : Int32)))))) 35 (some (.inl (g_c G 3, 8, .inl (fun _ => (0 : Int32)))))) 36 (some (.inl (g_c G 5, 12, .inr (.inr (.inr (.inr (fun _ => none)))))))) 37 (some (.inl (g_c G 0, 12, .inl (fun _ => (0 : Int32)))))))
def fd_k (X : Nat) : List Value := [(va_rf (some (X + 27))), (.int (nI 0)), (va_rf (some (X + 28))), (.int (nI 0)), (va_rf (some (X + 29))), (va_rf (some (X + 30))), (va_rf (some (X + 31))), (va_rf (some (X + 32))), (va_rf (some (X + 33))), (va_rf (some (X + 34))), (va_rf (some (X + 35))), (.int (nI 0)), (va_rf (some (X + 36))), (va_rf (some (X + 37))), (va_rf (some (X + 38))), (.int (nI 0)), (.int (nI 0)), (.int (nI 1))]
theorem x_init0k (hX : g_B G + x0 = X) : F_X0_init G (hf X 27 (upK f 26 (some (ob 0 [.null, .int 0, .null, .int 0, .null, .null, .null, .null, .null, .null, .null, .int 0, .null, .null, .null, .int 0, .int 0, .int 0]))) H) (x0 + 27) (X + 26) = some ((), hf X 51 (upK (in_k G X f) 26 (some (ob 0 (fd_k X)))) H, x0 + 51) := by
  unfold F_X0_init
  rw [hn_I (n := 27) hX 28 rfl (by decide) (by decide) (by decide)]
  rw [hn_p [(va_rf (some (X + 27))), .int 0, .null, .int 0, .null, .null, .null, .null, .null, .null, .null, .int 0, .null, .null, .null, .int 0, .int 0, .int 0] rfl (by decide) (by show 0 < 18; decide)]
  rw [hn_p [(va_rf (some (X + 27))), (.int (nI 0)), .null, .int 0, .null, .null, .null, .null, .null, .null, .null, .int 0, .null, .null, .null, .int 0, .int 0, .int 0] rfl (by decide) (by show 1 < 18; decide)]
  rw [hn_R (n := 28) hX 29 rfl (by decide) (by decide) (by decide)]
  rw [hn_p [(va_rf (some (X + 27))), (.int (nI 0)), (va_rf (some (X + 28))), .int 0, .null, .null, .null, .null, .null, .null, .null, .int 0, .null, .null, .null, .int 0, .int 0, .int 0] rfl (by decide) (by show 2 < 18; decide)]
  rw [hn_p [(va_rf (some (X + 27))), (.int (nI 0)), (va_rf (some (X + 28))), (.int (nI 0)), .null, .null, .null, .null, .null, .null, .null, .int 0, .null, .null, .null, .int 0, .int 0, .int 0] rfl (by decide) (by show 3 < 18; decide)]
  rw [hn_I (n := 29) hX 30 rfl (by decide) (by decide) (by decide)]
  rw [hn_p [(va_rf (some (X + 27))), (.int (nI 0)), (va_rf (some (X + 28))), (.int (nI 0)), (va_rf (some (X + 29))), .null, .null, .null, .null, .null, .null, .int 0, .null, .null, .null, .int 0, .int 0, .int 0] rfl (by decide) (by show 4 < 18; decide)]
  rw [hn_I (n := 30) hX 31 rfl (by decide) (by decide) (by decide)]
  rw [hn_p [(va_rf (some (X + 27))), (.int (nI 0)), (va_rf (some (X + 28))), (.int (nI 0)), (va_rf (some (X + 29))), (va_rf (some (X + 30))), .null, .null, .null, .null, .null, .int 0, .null, .null, .null, .int 0, .int 0, .int 0] rfl (by decide) (by show 5 < 18; decide)]
  rw [hn_I (n := 31) hX 32 rfl (by decide) (by decide) (by decide)]
  rw [hn_p [(va_rf (some (X + 27))), (.int (nI 0)), (va_rf (some (X + 28))), (.int (nI 0)), (va_rf (some (X + 29))), (va_rf (some (X + 30))), (va_rf (some (X + 31))), .null, .null, .null, .null, .int 0, .null, .null, .null, .int 0, .int 0, .int 0] rfl (by decide) (by show 6 < 18; decide)]
  rw [hn_I (n := 32) hX 33 rfl (by decide) (by decide) (by decide)]
  rw [hn_p [(va_rf (some (X + 27))), (.int (nI 0)), (va_rf (some (X + 28))), (.int (nI 0)), (va_rf (some (X + 29))), (va_rf (some (X + 30))), (va_rf (some (X + 31))), (va_rf (some (X + 32))), .null, .null, .null, .int 0, .null, .null, .null, .int 0, .int 0, .int 0] rfl (by decide) (by show 7 < 18; decide)]
  rw [hn_I (n := 33) hX 34 rfl (by decide) (by decide) (by decide)]
  rw [hn_p [(va_rf (some (X + 27))), (.int (nI 0)), (va_rf (some (X + 28))), (.int (nI 0)), (va_rf (some (X + 29))), (va_rf (some (X + 30))), (va_rf (some (X + 31))), (va_rf (some (X + 32))), (va_rf (some (X + 33))), .null, .null, .int 0, .null, .null, .null, .int 0, .int 0, .int 0] rfl (by decide) (by show 8 < 18; decide)]
  rw [hn_I (n := 34) hX 35 rfl (by decide) (by decide) (by decide)]
  rw [hn_p [(va_rf (some (X + 27))), (.int (nI 0)), (va_rf (some (X + 28))), (.int (nI 0)), (va_rf (some (X + 29))), (va_rf (some (X + 30))), (va_rf (some (X + 31))), (va_rf (some (X + 32))), (va_rf (some (X + 33))), (va_rf (some (X + 34))), .null, .int 0, .null, .null, .null, .int 0, .int 0, .int 0] rfl (by decide) (by show 9 < 18; decide)]
  rw [hn_I (n := 35) hX 36 rfl (by decide) (by decide) (by decide)]
  rw [hn_p [(va_rf (some (X + 27))), (.int (nI 0)), (va_rf (some (X + 28))), (.int (nI 0)), (va_rf (some (X + 29))), (va_rf (some (X + 30))), (va_rf (some (X + 31))), (va_rf (some (X + 32))), (va_rf (some (X + 33))), (va_rf (some (X + 34))), (va_rf (some (X + 35))), .int 0, .null, .null, .null, .int 0, .int 0, .int 0] rfl (by decide) (by show 10 < 18; decide)]
  rw [hn_p [(va_rf (some (X + 27))), (.int (nI 0)), (va_rf (some (X + 28))), (.int (nI 0)), (va_rf (some (X + 29))), (va_rf (some (X + 30))), (va_rf (some (X + 31))), (va_rf (some (X + 32))), (va_rf (some (X + 33))), (va_rf (some (X + 34))), (va_rf (some (X + 35))), (.int (nI 0)), .null, .null, .null, .int 0, .int 0, .int 0] rfl (by decide) (by show 11 < 18; decide)]
  rw [hn_R (n := 36) hX 37 rfl (by decide) (by decide) (by decide)]
  rw [hn_p [(va_rf (some (X + 27))), (.int (nI 0)), (va_rf (some (X + 28))), (.int (nI 0)), (va_rf (some (X + 29))), (va_rf (some (X + 30))), (va_rf (some (X + 31))), (va_rf (some (X + 32))), (va_rf (some (X + 33))), (va_rf (some (X + 34))), (va_rf (some (X + 35))), (.int (nI 0)), (va_rf (some (X + 36))), .null, .null, .int 0, .int 0, .int 0] rfl (by decide) (by show 12 < 18; decide)]
  rw [hn_I (n := 37) hX 38 rfl (by decide) (by decide) (by decide)]
  rw [hn_p [(va_rf (some (X + 27))), (.int (nI 0)), (va_rf (some (X + 28))), (.int (nI 0)), (va_rf (some (X + 29))), (va_rf (some (X + 30))), (va_rf (some (X + 31))), (va_rf (some (X + 32))), (va_rf (some (X + 33))), (va_rf (some (X + 34))), (va_rf (some (X + 35))), (.int (nI 0)), (va_rf (some (X + 36))), (va_rf (some (X + 37))), .null, .int 0, .int 0, .int 0] rfl (by decide) (by show 13 < 18; decide)]
  rw [hn_G (n := 38) hX 51 rfl (by decide)]
  rw [hn_p [(va_rf (some (X + 27))), (.int (nI 0)), (va_rf (some (X + 28))), (.int (nI 0)), (va_rf (some (X + 29))), (va_rf (some (X + 30))), (va_rf (some (X + 31))), (va_rf (some (X + 32))), (va_rf (some (X + 33))), (va_rf (some (X + 34))), (va_rf (some (X + 35))), (.int (nI 0)), (va_rf (some (X + 36))), (va_rf (some (X + 37))), (va_rf (some (X + 38))), .int 0, .int 0, .int 0] rfl (by decide) (by show 14 < 18; decide)]
  rw [hn_p [(va_rf (some (X + 27))), (.int (nI 0)), (va_rf (some (X + 28))), (.int (nI 0)), (va_rf (some (X + 29))), (va_rf (some (X + 30))), (va_rf (some (X + 31))), (va_rf (some (X + 32))), (va_rf (some (X + 33))), (va_rf (some (X + 34))), (va_rf (some (X + 35))), (.int (nI 0)), (va_rf (some (X + 36))), (va_rf (some (X + 37))), (va_rf (some (X + 38))), (.int (nI 0)), .int 0, .int 0] rfl (by decide) (by show 15 < 18; decide)]
  rw [hn_p [(va_rf (some (X + 27))), (.int (nI 0)), (va_rf (some (X + 28))), (.int (nI 0)), (va_rf (some (X + 29))), (va_rf (some (X + 30))), (va_rf (some (X + 31))), (va_rf (some (X + 32))), (va_rf (some (X + 33))), (va_rf (some (X + 34))), (va_rf (some (X + 35))), (.int (nI 0)), (va_rf (some (X + 36))), (va_rf (some (X + 37))), (va_rf (some (X + 38))), (.int (nI 0)), (.int (nI 0)), .int 0] rfl (by decide) (by show 16 < 18; decide)]
  rw [hn_p [(va_rf (some (X + 27))), (.int (nI 0)), (va_rf (some (X + 28))), (.int (nI 0)), (va_rf (some (X + 29))), (va_rf (some (X + 30))), (va_rf (some (X + 31))), (va_rf (some (X + 32))), (va_rf (some (X + 33))), (va_rf (some (X + 34))), (va_rf (some (X + 35))), (.int (nI 0)), (va_rf (some (X + 36))), (va_rf (some (X + 37))), (va_rf (some (X + 38))), (.int (nI 0)), (.int (nI 0)), (.int (nI 1))] rfl (by decide) (by show 17 < 18; decide)]
  unfold in_k fd_k
  rfl
def in_o (G : Gx) (X : Nat) (f : Nat → Option va_E) : Nat → Option va_E := (upK (upK (grF8 G X 79 8 33 (grF8 G X 70 8 33 (grF8 G X 61 8 33 (grF8 G X 52 8 33 f)))) 88 (some (.inl (g_c G 0, 8, .inl (fun _ => (0 : Int32)))))) 89 (some (.inl (g_c G 1, 33, .inr (.inl (fun _ => (0 : Int64)))))))
def fd_o (X : Nat) : List Value := [(va_rf (some (X + 1))), (va_rf (some (X + 52))), (va_rf (some (X + 61))), (va_rf (some (X + 70))), (va_rf (some (X + 79))), (va_rf (some (X + 88))), (va_rf (some (X + 89))), (.long (0 : Int64)), (.long (0 : Int64))]
theorem x_init5 (hX : g_B G + x0 = X) : F_X5_init G (hf X 52 (upK f 51 (some (ob 5 [.null, .null, .null, .null, .null, .null, .null, .long 0, .long 0]))) H) (x0 + 52) (X + 51) (X + 1) = some ((), hf X 90 (upK (in_o G X f) 51 (some (ob 5 (fd_o X)))) H, x0 + 90) := by
  unfold F_X5_init
  rw [hn_G (n := 52) hX 61 rfl (by decide)]
  rw [hn_p [.null, (va_rf (some (X + 52))), .null, .null, .null, .null, .null, .long 0, .long 0] rfl (by decide) (by show 1 < 9; decide)]
  rw [hn_G (n := 61) hX 70 rfl (by decide)]
  rw [hn_p [.null, (va_rf (some (X + 52))), (va_rf (some (X + 61))), .null, .null, .null, .null, .long 0, .long 0] rfl (by decide) (by show 2 < 9; decide)]
  rw [hn_G (n := 70) hX 79 rfl (by decide)]
  rw [hn_p [.null, (va_rf (some (X + 52))), (va_rf (some (X + 61))), (va_rf (some (X + 70))), .null, .null, .null, .long 0, .long 0] rfl (by decide) (by show 3 < 9; decide)]
  rw [hn_G (n := 79) hX 88 rfl (by decide)]
  rw [hn_p [.null, (va_rf (some (X + 52))), (va_rf (some (X + 61))), (va_rf (some (X + 70))), (va_rf (some (X + 79))), .null, .null, .long 0, .long 0] rfl (by decide) (by show 4 < 9; decide)]
  rw [hn_I (n := 88) hX 89 rfl (by decide) (by decide) (by decide)]
  rw [hn_p [.null, (va_rf (some (X + 52))), (va_rf (some (X + 61))), (va_rf (some (X + 70))), (va_rf (some (X + 79))), (va_rf (some (X + 88))), .null, .long 0, .long 0] rfl (by decide) (by show 5 < 9; decide)]
  rw [hn_J (n := 89) hX 90 rfl (by decide) (by decide) (by decide)]
  rw [hn_p [.null, (va_rf (some (X + 52))), (va_rf (some (X + 61))), (va_rf (some (X + 70))), (va_rf (some (X + 79))), (va_rf (some (X + 88))), (va_rf (some (X + 89))), .long 0, .long 0] rfl (by decide) (by show 6 < 9; decide)]
  rw [hn_p [.null, (va_rf (some (X + 52))), (va_rf (some (X + 61))), (va_rf (some (X + 70))), (va_rf (some (X + 79))), (va_rf (some (X + 88))), (va_rf (some (X + 89))), (.long (0 : Int64)), .long 0] rfl (by decide) (by show 7 < 9; decide)]
  rw [hn_p [.null, (va_rf (some (X + 52))), (va_rf (some (X + 61))), (va_rf (some (X + 70))), (va_rf (some (X + 79))), (va_rf (some (X + 88))), (va_rf (some (X + 89))), (.long (0 : Int64)), (.long (0 : Int64))] rfl (by decide) (by show 8 < 9; decide)]
  rw [hn_p [(va_rf (some (X + 1))), (va_rf (some (X + 52))), (va_rf (some (X + 61))), (va_rf (some (X + 70))), (va_rf (some (X + 79))), (va_rf (some (X + 88))), (va_rf (some (X + 89))), (.long (0 : Int64)), (.long (0 : Int64))] rfl (by decide) (by show 0 < 9; decide)]
  rfl
def in_t (G : Gx) (X : Nat) (f : Nat → Option va_E) : Nat → Option va_E := (upK (upK (upK (grF8 G X 91 11 8 f) 103 (some (.inl (g_c G 0, 3, .inl (fun _ => (0 : Int32)))))) 104 (some (.inl (g_c G 0, 56, .inl (fun _ => (0 : Int32)))))) 105 (some (.inl (g_c G 0, 3, .inl (fun _ => (0 : Int32))))))
def fd_t (X : Nat) : List Value := [(va_rf (some (X + 51))), (va_rf (some (X + 1))), (va_rf (some (X + 91))), (va_rf none), (va_rf (some (X + 103))), (.int (nI 0)), (va_rf (some (X + 104))), (.int (nI 0)), (.int (nI 0)), (.int (nI 0)), (va_rf (some (X + 105)))]
theorem x_init9 {fs5 : List Value} (hX : g_B G + x0 = X) (h5 : f 51 = some (ob 5 fs5)) (h5b : fs5[0]? = some (va_rf (some (X + 1)))) : F_X9_init G (hf X 91 (upK f 90 (some (ob 9 [.null, .null, .null, .null, .null, .int 0, .null, .int 0, .int 0, .int 0, .null]))) H) (x0 + 91) (X + 90) (X + 51) = some ((), hf X 106 (upK (in_t G X f) 90 (some (ob 9 (fd_t X)))) H, x0 + 106) := by
  unfold F_X9_init
  rw [hn_G (n := 91) hX 103 rfl (by decide)]
  rw [hn_p [.null, .null, (va_rf (some (X + 91))), .null, .null, .int 0, .null, .int 0, .int 0, .int 0, .null] rfl (by decide) (by show 2 < 11; decide)]
  rw [hn_p [.null, .null, (va_rf (some (X + 91))), (va_rf none), .null, .int 0, .null, .int 0, .int 0, .int 0, .null] rfl (by decide) (by show 3 < 11; decide)]
  rw [hn_I (n := 103) hX 104 rfl (by decide) (by decide) (by decide)]
  rw [hn_p [.null, .null, (va_rf (some (X + 91))), (va_rf none), (va_rf (some (X + 103))), .int 0, .null, .int 0, .int 0, .int 0, .null] rfl (by decide) (by show 4 < 11; decide)]
  rw [hn_p [.null, .null, (va_rf (some (X + 91))), (va_rf none), (va_rf (some (X + 103))), (.int (nI 0)), .null, .int 0, .int 0, .int 0, .null] rfl (by decide) (by show 5 < 11; decide)]
  rw [hn_I (n := 104) hX 105 rfl (by decide) (by decide) (by decide)]
  rw [hn_p [.null, .null, (va_rf (some (X + 91))), (va_rf none), (va_rf (some (X + 103))), (.int (nI 0)), (va_rf (some (X + 104))), .int 0, .int 0, .int 0, .null] rfl (by decide) (by show 6 < 11; decide)]
  rw [hn_p [.null, .null, (va_rf (some (X + 91))), (va_rf none), (va_rf (some (X + 103))), (.int (nI 0)), (va_rf (some (X + 104))), (.int (nI 0)), .int 0, .int 0, .null] rfl (by decide) (by show 7 < 11; decide)]
  rw [hn_p [.null, .null, (va_rf (some (X + 91))), (va_rf none), (va_rf (some (X + 103))), (.int (nI 0)), (va_rf (some (X + 104))), (.int (nI 0)), (.int (nI 0)), .int 0, .null] rfl (by decide) (by show 8 < 11; decide)]
  rw [hn_p [.null, .null, (va_rf (some (X + 91))), (va_rf none), (va_rf (some (X + 103))), (.int (nI 0)), (va_rf (some (X + 104))), (.int (nI 0)), (.int (nI 0)), (.int (nI 0)), .null] rfl (by decide) (by show 9 < 11; decide)]
  rw [hn_I (n := 105) hX 106 rfl (by decide) (by decide) (by decide)]
  rw [hn_p [.null, .null, (va_rf (some (X + 91))), (va_rf none), (va_rf (some (X + 103))), (.int (nI 0)), (va_rf (some (X + 104))), (.int (nI 0)), (.int (nI 0)), (.int (nI 0)), (va_rf (some (X + 105)))] rfl (by decide) (by show 10 < 11; decide)]
  rw [hn_p [(va_rf (some (X + 51))), .null, (va_rf (some (X + 91))), (va_rf none), (va_rf (some (X + 103))), (.int (nI 0)), (va_rf (some (X + 104))), (.int (nI 0)), (.int (nI 0)), (.int (nI 0)), (va_rf (some (X + 105)))] rfl (by decide) (by show 0 < 11; decide)]
  rw [hn_r (j := 51) (fs := fs5) (r := some (X + 1)) (by decide) ?_ h5b]
  rotate_left
  · exact h5
  rw [hn_p [(va_rf (some (X + 51))), (va_rf (some (X + 1))), (va_rf (some (X + 91))), (va_rf none), (va_rf (some (X + 103))), (.int (nI 0)), (va_rf (some (X + 104))), (.int (nI 0)), (.int (nI 0)), (.int (nI 0)), (va_rf (some (X + 105)))] rfl (by decide) (by show 1 < 11; decide)]
  unfold in_t fd_t
  rfl
def c0S : CS := (fun k => if k = 116 ∨ k = 126 then nI 1 else nI 0, fun _ => 0, fun _ _ => 0, fun _ _ => 0, fun _ _ => none)
def f0X (G : Gx) (X : Nat) : Nat → Option va_E := upK (fun _ => none) 0 (some (ob 11 [.null, .null, .int 0, .null, .null, .null, .null]))
def f1X (G : Gx) (X : Nat) : Nat → Option va_E := upK (in_b G X (f0X G X)) 1 (some (ob 0 (fd_b X)))
def f2X (G : Gx) (X : Nat) : Nat → Option va_E := upK (f1X G X) 0 (some (ob 11 [va_rf (some (X + 1)), .null, .int 0, .null, .null, .null, .null]))
def f3X (G : Gx) (X : Nat) : Nat → Option va_E := upK (in_k G X (f2X G X)) 26 (some (ob 0 (fd_k X)))
def f4X (G : Gx) (X : Nat) : Nat → Option va_E := upK (f3X G X) 0 (some (ob 11 [va_rf (some (X + 1)), va_rf (some (X + 26)), .int (nI 0), .null, .null, .null, .null]))
def f5X (G : Gx) (X : Nat) : Nat → Option va_E := upK (in_o G X (f4X G X)) 51 (some (ob 5 (fd_o X)))
def f6X (G : Gx) (X : Nat) : Nat → Option va_E := upK (f5X G X) 0 (some (ob 11 [va_rf (some (X + 1)), va_rf (some (X + 26)), .int (nI 0), va_rf (some (X + 51)), .null, .null, .null]))
def f7X (G : Gx) (X : Nat) : Nat → Option va_E := upK (in_t G X (f6X G X)) 90 (some (ob 9 (fd_t X)))
def f8X (G : Gx) (X : Nat) : Nat → Option va_E := upK (upK (upK (f7X G X) 106 (some (.inl (g_c G 0, 8, .inl (fun _ => (0 : Int32)))))) 107 (some (.inl (g_c G 0, 21, .inl (fun _ => (0 : Int32)))))) 0 (some (ob 11 [va_rf (some (X + 1)), va_rf (some (X + 26)), .int (nI 0), va_rf (some (X + 51)), va_rf (some (X + 90)), va_rf (some (X + 106)), va_rf (some (X + 107))]))
theorem x_init11 (hX : g_B G + x0 = X) : F_X11_init G (hf X 1 (f0X G X) H) (x0 + 1) (X + 0) = some ((), hf X 108 (f8X G X) H, x0 + 108) := by
  unfold F_X11_init
  rw [hn_O (n := 1) hX 2 rfl, x_init0b hX, cl_some]
  rw [hn_q (f := upK (in_b G X (f0X G X)) 1 (some (ob 0 (fd_b X)))) (ci := 11) (fs := [.null, .null, .int 0, .null, .null, .null, .null]) (by decide) rfl (by show 0 < 7; decide)]
  show nwO G (hf X 26 (f2X G X) H) (x0 + 26) 0 _ _ = _
  rw [hn_O (n := 26) hX 27 rfl, x_init0k hX, cl_some]
  rw [hn_q (f := upK (in_k G X (f2X G X)) 26 (some (ob 0 (fd_k X)))) (ci := 11) (fs := [va_rf (some (X + 1)), .null, .int 0, .null, .null, .null, .null]) (by decide) rfl (by show 1 < 7; decide), zk_n0]
  rw [hn_p [va_rf (some (X + 1)), va_rf (some (X + 26)), .int (nI 0), .null, .null, .null, .null] rfl (by decide) (by show 2 < 7; decide)]
  show nwO G (hf X 51 (f4X G X) H) (x0 + 51) 5 _ _ = _
  rw [hn_O (n := 51) hX 52 rfl]
  rw [hn_r (j := 0) (ci := 11) (fs := [va_rf (some (X + 1)), va_rf (some (X + 26)), .int (nI 0), .null, .null, .null, .null]) (r := some (X + 1)) (by decide) rfl rfl, nn_some, x_init5 hX, cl_some]
  rw [hn_q (f := upK (in_o G X (f4X G X)) 51 (some (ob 5 (fd_o X)))) (ci := 11) (fs := [va_rf (some (X + 1)), va_rf (some (X + 26)), .int (nI 0), .null, .null, .null, .null]) (by decide) rfl (by show 3 < 7; decide)]
  show nwO G (hf X 90 (f6X G X) H) (x0 + 90) 9 _ _ = _
  rw [hn_O (n := 90) hX 91 rfl]
  rw [hn_r (j := 0) (ci := 11) (fs := [va_rf (some (X + 1)), va_rf (some (X + 26)), .int (nI 0), va_rf (some (X + 51)), .null, .null, .null]) (r := some (X + 51)) (by decide) rfl rfl, nn_some, x_init9 (fs5 := fd_o X) hX rfl rfl, cl_some]
  rw [hn_q (f := upK (in_t G X (f6X G X)) 90 (some (ob 9 (fd_t X)))) (ci := 11) (fs := [va_rf (some (X + 1)), va_rf (some (X + 26)), .int (nI 0), va_rf (some (X + 51)), .null, .null, .null]) (by decide) rfl (by show 4 < 7; decide)]
  show nwI G (g_c G 0) (hf X 106 (upK (f7X G X) 0 (some (ob 11 [va_rf (some (X + 1)), va_rf (some (X + 26)), .int (nI 0), va_rf (some (X + 51)), va_rf (some (X + 90)), .null, .null]))) H) (x0 + 106) (nI 8) 8 _ = _
  rw [hn_I (n := 106) hX 107 rfl (by decide) (by decide) (by decide)]
  rw [hn_p [va_rf (some (X + 1)), va_rf (some (X + 26)), .int (nI 0), va_rf (some (X + 51)), va_rf (some (X + 90)), va_rf (some (X + 106)), .null] rfl (by decide) (by show 5 < 7; decide)]
  rw [hn_I (n := 107) hX 108 rfl (by decide) (by decide) (by decide)]
  rw [hn_p [va_rf (some (X + 1)), va_rf (some (X + 26)), .int (nI 0), va_rf (some (X + 51)), va_rf (some (X + 90)), va_rf (some (X + 106)), va_rf (some (X + 107))] rfl (by decide) (by show 6 < 7; decide)]
  rfl
theorem lt_st {P : Nat → Prop} {n : Nat} (h : ∀ k, k < n → P k) (hn : P n) : ∀ k, k < n + 1 → P k := fun k hk => by
  by_cases c : k = n
  · subst c; exact hn
  · exact h k (by omega)
theorem lt_z {P : Nat → Prop} : ∀ k, k < 0 → P k := fun k hk => absurd hk (by omega)
theorem fX_0 : f8X G X 0 = cellX G X c0S 0 := rfl
theorem fX_1 : f8X G X 1 = cellX G X c0S 1 := rfl
theorem fX_2 : f8X G X 2 = cellX G X c0S 2 := rfl
theorem fX_3 : f8X G X 3 = cellX G X c0S 3 := rfl
theorem fX_4 : f8X G X 4 = cellX G X c0S 4 := rfl
theorem fX_5 : f8X G X 5 = cellX G X c0S 5 := rfl
theorem fX_6 : f8X G X 6 = cellX G X c0S 6 := rfl
theorem fX_7 : f8X G X 7 = cellX G X c0S 7 := rfl
theorem fX_8 : f8X G X 8 = cellX G X c0S 8 := rfl
theorem fX_9 : f8X G X 9 = cellX G X c0S 9 := rfl
theorem fX_10 : f8X G X 10 = cellX G X c0S 10 := rfl
theorem fX_11 : f8X G X 11 = cellX G X c0S 11 := rfl
theorem fX_12 : f8X G X 12 = cellX G X c0S 12 := rfl
theorem fX_13 : f8X G X 13 = cellX G X c0S 13 := rfl
theorem fX_14 : f8X G X 14 = cellX G X c0S 14 := rfl
theorem fX_15 : f8X G X 15 = cellX G X c0S 15 := rfl
theorem fX_16 : f8X G X 16 = cellX G X c0S 16 := rfl
theorem fX_17 : f8X G X 17 = cellX G X c0S 17 := rfl
theorem fX_18 : f8X G X 18 = cellX G X c0S 18 := rfl
theorem fX_19 : f8X G X 19 = cellX G X c0S 19 := rfl
theorem fX_20 : f8X G X 20 = cellX G X c0S 20 := rfl
theorem fX_21 : f8X G X 21 = cellX G X c0S 21 := rfl
theorem fX_22 : f8X G X 22 = cellX G X c0S 22 := rfl
theorem fX_23 : f8X G X 23 = cellX G X c0S 23 := rfl
theorem fX_24 : f8X G X 24 = cellX G X c0S 24 := rfl
theorem fX_25 : f8X G X 25 = cellX G X c0S 25 := rfl
theorem fX_26 : f8X G X 26 = cellX G X c0S 26 := rfl
theorem fX_27 : f8X G X 27 = cellX G X c0S 27 := rfl
theorem fX_28 : f8X G X 28 = cellX G X c0S 28 := rfl
theorem fX_29 : f8X G X 29 = cellX G X c0S 29 := rfl
theorem fX_30 : f8X G X 30 = cellX G X c0S 30 := rfl
theorem fX_31 : f8X G X 31 = cellX G X c0S 31 := rfl
theorem fX_32 : f8X G X 32 = cellX G X c0S 32 := rfl
theorem fX_33 : f8X G X 33 = cellX G X c0S 33 := rfl
theorem fX_34 : f8X G X 34 = cellX G X c0S 34 := rfl
theorem fX_35 : f8X G X 35 = cellX G X c0S 35 := rfl
theorem fX_36 : f8X G X 36 = cellX G X c0S 36 := rfl
theorem fX_37 : f8X G X 37 = cellX G X c0S 37 := rfl
theorem fX_38 : f8X G X 38 = cellX G X c0S 38 := rfl
theorem fX_39 : f8X G X 39 = cellX G X c0S 39 := rfl
theorem fX_40 : f8X G X 40 = cellX G X c0S 40 := rfl
theorem fX_41 : f8X G X 41 = cellX G X c0S 41 := rfl
theorem fX_42 : f8X G X 42 = cellX G X c0S 42 := rfl
theorem fX_43 : f8X G X 43 = cellX G X c0S 43 := rfl
theorem fX_44 : f8X G X 44 = cellX G X c0S 44 := rfl
theorem fX_45 : f8X G X 45 = cellX G X c0S 45 := rfl
theorem fX_46 : f8X G X 46 = cellX G X c0S 46 := rfl
theorem fX_47 : f8X G X 47 = cellX G X c0S 47 := rfl
theorem fX_48 : f8X G X 48 = cellX G X c0S 48 := rfl
theorem fX_49 : f8X G X 49 = cellX G X c0S 49 := rfl
theorem fX_50 : f8X G X 50 = cellX G X c0S 50 := rfl
theorem fX_51 : f8X G X 51 = cellX G X c0S 51 := rfl
theorem fX_52 : f8X G X 52 = cellX G X c0S 52 := rfl
theorem fX_53 : f8X G X 53 = cellX G X c0S 53 := rfl
theorem fX_54 : f8X G X 54 = cellX G X c0S 54 := rfl
theorem fX_55 : f8X G X 55 = cellX G X c0S 55 := rfl
theorem fX_56 : f8X G X 56 = cellX G X c0S 56 := rfl
theorem fX_57 : f8X G X 57 = cellX G X c0S 57 := rfl
theorem fX_58 : f8X G X 58 = cellX G X c0S 58 := rfl
theorem fX_59 : f8X G X 59 = cellX G X c0S 59 := rfl
theorem fX_60 : f8X G X 60 = cellX G X c0S 60 := rfl
theorem fX_61 : f8X G X 61 = cellX G X c0S 61 := rfl
theorem fX_62 : f8X G X 62 = cellX G X c0S 62 := rfl
theorem fX_63 : f8X G X 63 = cellX G X c0S 63 := rfl
theorem fX_64 : f8X G X 64 = cellX G X c0S 64 := rfl
theorem fX_65 : f8X G X 65 = cellX G X c0S 65 := rfl
theorem fX_66 : f8X G X 66 = cellX G X c0S 66 := rfl
theorem fX_67 : f8X G X 67 = cellX G X c0S 67 := rfl
theorem fX_68 : f8X G X 68 = cellX G X c0S 68 := rfl
theorem fX_69 : f8X G X 69 = cellX G X c0S 69 := rfl
theorem fX_70 : f8X G X 70 = cellX G X c0S 70 := rfl
theorem fX_71 : f8X G X 71 = cellX G X c0S 71 := rfl
theorem fX_72 : f8X G X 72 = cellX G X c0S 72 := rfl
theorem fX_73 : f8X G X 73 = cellX G X c0S 73 := rfl
theorem fX_74 : f8X G X 74 = cellX G X c0S 74 := rfl
theorem fX_75 : f8X G X 75 = cellX G X c0S 75 := rfl
theorem fX_76 : f8X G X 76 = cellX G X c0S 76 := rfl
theorem fX_77 : f8X G X 77 = cellX G X c0S 77 := rfl
theorem fX_78 : f8X G X 78 = cellX G X c0S 78 := rfl
theorem fX_79 : f8X G X 79 = cellX G X c0S 79 := rfl
theorem fX_80 : f8X G X 80 = cellX G X c0S 80 := rfl
theorem fX_81 : f8X G X 81 = cellX G X c0S 81 := rfl
theorem fX_82 : f8X G X 82 = cellX G X c0S 82 := rfl
theorem fX_83 : f8X G X 83 = cellX G X c0S 83 := rfl
theorem fX_84 : f8X G X 84 = cellX G X c0S 84 := rfl
theorem fX_85 : f8X G X 85 = cellX G X c0S 85 := rfl
theorem fX_86 : f8X G X 86 = cellX G X c0S 86 := rfl
theorem fX_87 : f8X G X 87 = cellX G X c0S 87 := rfl
theorem fX_88 : f8X G X 88 = cellX G X c0S 88 := rfl
theorem fX_89 : f8X G X 89 = cellX G X c0S 89 := rfl
theorem fX_90 : f8X G X 90 = cellX G X c0S 90 := rfl
theorem fX_91 : f8X G X 91 = cellX G X c0S 91 := rfl
theorem fX_92 : f8X G X 92 = cellX G X c0S 92 := rfl
theorem fX_93 : f8X G X 93 = cellX G X c0S 93 := rfl
theorem fX_94 : f8X G X 94 = cellX G X c0S 94 := rfl
theorem fX_95 : f8X G X 95 = cellX G X c0S 95 := rfl
theorem fX_96 : f8X G X 96 = cellX G X c0S 96 := rfl
theorem fX_97 : f8X G X 97 = cellX G X c0S 97 := rfl
theorem fX_98 : f8X G X 98 = cellX G X c0S 98 := rfl
theorem fX_99 : f8X G X 99 = cellX G X c0S 99 := rfl
theorem fX_100 : f8X G X 100 = cellX G X c0S 100 := rfl
theorem fX_101 : f8X G X 101 = cellX G X c0S 101 := rfl
theorem fX_102 : f8X G X 102 = cellX G X c0S 102 := rfl
theorem fX_103 : f8X G X 103 = cellX G X c0S 103 := rfl
theorem fX_104 : f8X G X 104 = cellX G X c0S 104 := rfl
theorem fX_105 : f8X G X 105 = cellX G X c0S 105 := rfl
theorem fX_106 : f8X G X 106 = cellX G X c0S 106 := rfl
theorem fX_107 : f8X G X 107 = cellX G X c0S 107 := rfl
theorem fX_all : ∀ k, k < 108 → f8X G X k = cellX G X c0S k := (lt_st (lt_st (lt_st (lt_st (lt_st (lt_st (lt_st (lt_st (lt_st (lt_st (lt_st (lt_st (lt_st (lt_st (lt_st (lt_st (lt_st (lt_st (lt_st (lt_st (lt_st (lt_st (lt_st (lt_st (lt_st (lt_st (lt_st (lt_st (lt_st (lt_st (lt_st (lt_st (lt_st (lt_st (lt_st (lt_st (lt_st (lt_st (lt_st (lt_st (lt_st (lt_st (lt_st (lt_st (lt_st (lt_st (lt_st (lt_st (lt_st (lt_st (lt_st (lt_st (lt_st (lt_st (lt_st (lt_st (lt_st (lt_st (lt_st (lt_st (lt_st (lt_st (lt_st (lt_st (lt_st (lt_st (lt_st (lt_st (lt_st (lt_st (lt_st (lt_st (lt_st (lt_st (lt_st (lt_st (lt_st (lt_st (lt_st (lt_st (lt_st (lt_st (lt_st (lt_st (lt_st (lt_st (lt_st (lt_st (lt_st (lt_st (lt_st (lt_st (lt_st (lt_st (lt_st (lt_st (lt_st (lt_st (lt_st (lt_st (lt_st (lt_st (lt_st (lt_st (lt_st (lt_st (lt_st (lt_st lt_z fX_0) fX_1) fX_2) fX_3) fX_4) fX_5) fX_6) fX_7) fX_8) fX_9) fX_10) fX_11) fX_12) fX_13) fX_14) fX_15) fX_16) fX_17) fX_18) fX_19) fX_20) fX_21) fX_22) fX_23) fX_24) fX_25) fX_26) fX_27) fX_28) fX_29) fX_30) fX_31) fX_32) fX_33) fX_34) fX_35) fX_36) fX_37) fX_38) fX_39) fX_40) fX_41) fX_42) fX_43) fX_44) fX_45) fX_46) fX_47) fX_48) fX_49) fX_50) fX_51) fX_52) fX_53) fX_54) fX_55) fX_56) fX_57) fX_58) fX_59) fX_60) fX_61) fX_62) fX_63) fX_64) fX_65) fX_66) fX_67) fX_68) fX_69) fX_70) fX_71) fX_72) fX_73) fX_74) fX_75) fX_76) fX_77) fX_78) fX_79) fX_80) fX_81) fX_82) fX_83) fX_84) fX_85) fX_86) fX_87) fX_88) fX_89) fX_90) fX_91) fX_92) fX_93) fX_94) fX_95) fX_96) fX_97) fX_98) fX_99) fX_100) fX_101) fX_102) fX_103) fX_104) fX_105) fX_106) fX_107)
theorem x_made (hX : g_B G + x0 = X) : F_X11_init G (hset H X (ob 11 [.null, .null, .int 0, .null, .null, .null, .null])) (x0 + 1) X = some ((), encX G X c0S H, x0 + 108) := by
  have e : hset H X (ob 11 [.null, .null, .int 0, .null, .null, .null, .null]) = hf X 1 (f0X G X) H := by
    funext a
    unfold hset hf f0X
    by_cases z : a = X
    · rw [if_pos z, if_pos (by omega), show a - X = 0 by omega, upK_s]
    · rw [if_neg z, if_neg (by omega)]
  rw [e]
  refine (x_init11 hX).trans ?_
  refine congrArg (fun z => some ((), z, x0 + 108)) ?_
  funext a
  unfold hf encX
  by_cases z : X ≤ a ∧ a < X + 108
  · rw [if_pos z, if_pos z, fX_all _ (by omega)]
  · rw [if_neg z, if_neg z]
end XIN
