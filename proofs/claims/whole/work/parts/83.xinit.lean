/-! THE CONSTRUCTORS -/
def hf (X n : Nat) (f : Nat → Option va_E) (H : Hp) : Hp := fun a => if X ≤ a ∧ a < X + n then f (a - X) else H a
theorem hf_at {X n j : Nat} {f : Nat → Option va_E} {H : Hp} (h : j < n) : hf X n f H (X + j) = f j := by
  unfold hf
  rw [if_pos (by omega), Nat.add_sub_cancel_left]
theorem hf_new {X n : Nat} {f : Nat → Option va_E} {H : Hp} {e : va_E} : hset (hf X n f H) (X + n) e = hf X (n + 1) (upK f n (some e)) H := by
  funext a
  unfold hset hf
  by_cases z : a = X + n
  · rw [if_pos z, if_pos (by omega), show a - X = n by omega, upK_s]
  · rw [if_neg z]
    by_cases y : X ≤ a ∧ a < X + n
    · rw [if_pos y, if_pos (by omega), upK_n (by omega)]
    · rw [if_neg y, if_neg (by omega)]
theorem hf_put {X n j : Nat} {f : Nat → Option va_E} {H : Hp} {e : va_E} (h : j < n) : hset (hf X n f H) (X + j) e = hf X n (upK f j (some e)) H := by
  funext a
  unfold hset hf
  by_cases z : a = X + j
  · rw [if_pos z, if_pos (by omega), show a - X = j by omega, upK_s]
  · rw [if_neg z]
    by_cases y : X ≤ a ∧ a < X + n
    · rw [if_pos y, if_pos y, upK_n (by omega)]
    · rw [if_neg y, if_neg y]
theorem upK_comm {α : Type} {f : Nat → α} {j k : Nat} {x y : α} (h : j ≠ k) : upK (upK f j x) k y = upK (upK f k y) j x := by
  funext i
  unfold upK
  by_cases c : i = k
  · subst c
    rw [if_pos rfl, if_neg (fun z => h z.symm), if_pos rfl]
  · rw [if_neg c, if_neg c]
section HN
variable {G : Gx} {X x0 n j : Nat} {f : Nat → Option va_E} {H : Hp} {o : Option va_E} {β : Type}
theorem hn_I {c : ClassId} {k lim : Nat} {F : Nat → Hp → Nat → Option β} (hX : g_B G + x0 = X) (n' : Nat) (hn : n' = n + 1) (hj : j < n) (hk : k ≤ lim) (hl : lim < 2 ^ 31) : nwI G c (hf X n (upK f j o) H) (x0 + n) (nI k) lim F = F (X + n) (hf X n' (upK (upK f n (some (.inl (c, k, .inl (fun _ => (0 : Int32)))))) j o) H) (x0 + n') := by
  unfold nwI
  rw [nI_clamp (by omega), if_pos ⟨nI_pos (by omega), hk⟩, ← Nat.add_assoc, hX, hf_new, upK_comm (by omega), hn]
  rfl
theorem hn_J {c : ClassId} {k lim : Nat} {F : Nat → Hp → Nat → Option β} (hX : g_B G + x0 = X) (n' : Nat) (hn : n' = n + 1) (hj : j < n) (hk : k ≤ lim) (hl : lim < 2 ^ 31) : nwJ G c (hf X n (upK f j o) H) (x0 + n) (nI k) lim F = F (X + n) (hf X n' (upK (upK f n (some (.inl (c, k, .inr (.inl (fun _ => (0 : Int64))))))) j o) H) (x0 + n') := by
  unfold nwJ
  rw [nI_clamp (by omega), if_pos ⟨nI_pos (by omega), hk⟩, ← Nat.add_assoc, hX, hf_new, upK_comm (by omega), hn]
  rfl
theorem hn_R {c : ClassId} {k lim : Nat} {F : Nat → Hp → Nat → Option β} (hX : g_B G + x0 = X) (n' : Nat) (hn : n' = n + 1) (hj : j < n) (hk : k ≤ lim) (hl : lim < 2 ^ 31) : nwR G c (hf X n (upK f j o) H) (x0 + n) (nI k) lim F = F (X + n) (hf X n' (upK (upK f n (some (.inl (c, k, .inr (.inr (.inr (.inr (fun _ => none)))))))) j o) H) (x0 + n') := by
  unfold nwR
  rw [nI_clamp (by omega), if_pos ⟨nI_pos (by omega), hk⟩, ← Nat.add_assoc, hX, hf_new, upK_comm (by omega), hn]
  rfl
def grF8 (G : Gx) (X n N K : Nat) (f : Nat → Option va_E) : Nat → Option va_E := fun q => if q = n then some (aG G N (fun i => if i < N then some (X + (n + 1) + i) else none)) else if n < q ∧ q < n + 1 + N then some (aI G K (fun _ => (0 : Int32))) else f q
theorem hn_G {N K : Nat} {F : Nat → Hp → Nat → Option β} (hX : g_B G + x0 = X) (n' : Nat) (hn : n' = n + 1 + N) (hj : j < n) : nwG G (hf X n (upK f j o) H) (x0 + n) N K F = F (X + n) (hf X n' (upK (grF8 G X n N K f) j o) H) (x0 + n') := by
  subst hn
  unfold nwG
  rw [← Nat.add_assoc (g_B G) x0 n, hX, show x0 + n + 1 + N = x0 + (n + 1 + N) by omega]
  refine congrArg (fun z => F (X + n) z _) ?_
  funext a
  unfold mset grF8 hf
  rw [show g_B G + (x0 + n) = X + n by omega]
  by_cases z : a = X + n
  · rw [if_pos z, if_pos (by omega), upK_n (by omega), if_pos (by omega)]
    rfl
  · rw [if_neg z]
    by_cases y : X + n < a ∧ a < X + n + 1 + N
    · rw [if_pos y, if_pos (by omega), upK_n (by omega), if_neg (by omega), if_pos (by omega)]
    · rw [if_neg y]
      by_cases w : X ≤ a ∧ a < X + n
      · rw [if_pos w, if_pos (by omega)]
        by_cases v : a - X = j
        · rw [v, upK_s, upK_s]
        · rw [upK_n v, upK_n v, if_neg (by omega), if_neg (by omega)]
      · rw [if_neg w, if_neg (by omega)]
theorem hn_O {ci : Nat} {fs : List Value} {F : Nat → Hp → Nat → Option β} (hX : g_B G + x0 = X) (n' : Nat) (hn : n' = n + 1) : nwO G (hf X n f H) (x0 + n) ci fs F = F (X + n) (hf X n' (upK f n (some (ob ci fs))) H) (x0 + n') := by
  unfold nwO
  rw [← Nat.add_assoc, hX, hf_new, hn]
  rfl
theorem hn_p {ci k : Nat} {fs : List Value} {v : Value} {F : Hp → Option β} (fs' : List Value) (he : fs.set k v = fs') (hj : j < n) (hk : k < fs.length) : pfV (hf X n (upK f j (some (ob ci fs))) H) (X + j) [ci] k v F = F (hf X n (upK f j (some (ob ci fs'))) H) := by
  subst he
  rw [pfV_at (show hf X n (upK f j (some (ob ci fs))) H (X + j) = some (ob ci fs) by rw [hf_at hj, upK_s]) (by simp) hk, hf_put hj, upK_upK]
theorem hn_q {ci k : Nat} {fs : List Value} {v : Value} {F : Hp → Option β} (hj : j < n) (he : f j = some (ob ci fs)) (hk : k < fs.length) : pfV (hf X n f H) (X + j) [ci] k v F = F (hf X n (upK f j (some (ob ci (fs.set k v)))) H) := by
  rw [pfV_at (show hf X n f H (X + j) = some (ob ci fs) by rw [hf_at hj, he]) (by simp) hk, hf_put hj]
theorem hn_r {ci k : Nat} {fs : List Value} {r : Option Nat} {F : Option Nat → Option β} (hj : j < n) (he : f j = some (ob ci fs)) (hk : fs[k]? = some (va_rf r)) : gfR (hf X n f H) (X + j) [ci] k F = F r := gfR_at (show hf X n f H (X + j) = some (ob ci fs) by rw [hf_at hj, he]) (by simp) hk
end HN
section XIN
variable {G : Gx} {X x0 : Nat} {f : Nat → Option va_E} {H : Hp}
def in_b (G : Gx) (X : Nat) (f : Nat → Option va_E) : Nat → Option va_E := (grF8 G X 13 12 10 (upK (upK (upK (upK (upK (upK (upK (upK (upK (upK (upK f 2 (some (.inl (g_c G 2, 120, .inl (fun _ => (0 : Int32)))))) 3 (some (.inl (g_c G 4, 6, .inr (.inr (.inr (.inr (fun _ => none)))))))) 4 (some (.inl (g_c G 0, 8, .inl (fun _ => (0 : Int32)))))) 5 (some (.inl (g_c G 0, 8, .inl (fun _ => (0 : Int32)))))) 6 (some (.inl (g_c G 0, 8, .inl (fun _ => (0 : Int32)))))) 7 (some (.inl (g_c G 0, 8, .inl (fun _ => (0 : Int32)))))) 8 (some (.inl (g_c G 0, 8, .inl (fun _ => (0 : Int32)))))) 9 (some (.inl (g_c G 0, 8, .inl (fun _ => (0 : Int32)))))) 10 (some (.inl (g_c G 3, 8, .inl (fun _ => (0 : Int32)))))) 11 (some (.inl (g_c G 5, 12, .inr (.inr (.inr (.inr (fun _ => none)))))))) 12 (some (.inl (g_c G 0, 12, .inl (fun _ => (0 : Int32)))))))
def fd_b (X : Nat) : List Value := [(va_rf (some (X + 2))), (.int (nI 0)), (va_rf (some (X + 3))), (.int (nI 0)), (va_rf (some (X + 4))), (va_rf (some (X + 5))), (va_rf (some (X + 6))), (va_rf (some (X + 7))), (va_rf (some (X + 8))), (va_rf (some (X + 9))), (va_rf (some (X + 10))), (.int (nI 0)), (va_rf (some (X + 11))), (va_rf (some (X + 12))), (va_rf (some (X + 13))), (.int (nI 0)), (.int (nI 0)), (.int (nI 1))]
theorem x_init0b (hX : g_B G + x0 = X) : F_X0_init G (hf X 2 (upK f 1 (some (ob 0 [.null, .int 0, .null, .int 0, .null, .null, .null, .null, .null, .null, .null, .int 0, .null, .null, .null, .int 0, .int 0, .int 0]))) H) (x0 + 2) (X + 1) = some ((), hf X 26 (upK (in_b G X f) 1 (some (ob 0 (fd_b X)))) H, x0 + 26) := by
  unfold F_X0_init
  rw [hn_I (n := 2) hX 3 rfl (by decide) (by decide) (by decide)]
  rw [hn_p [(va_rf (some (X + 2))), .int 0, .null, .int 0, .null, .null, .null, .null, .null, .null, .null, .int 0, .null, .null, .null, .int 0, .int 0, .int 0] rfl (by decide) (by show 0 < 18; decide)]
  rw [hn_p [(va_rf (some (X + 2))), (.int (nI 0)), .null, .int 0, .null, .null, .null, .null, .null, .null, .null, .int 0, .null, .null, .null, .int 0, .int 0, .int 0] rfl (by decide) (by show 1 < 18; decide)]
  rw [hn_R (n := 3) hX 4 rfl (by decide) (by decide) (by decide)]
  rw [hn_p [(va_rf (some (X + 2))), (.int (nI 0)), (va_rf (some (X + 3))), .int 0, .null, .null, .null, .null, .null, .null, .null, .int 0, .null, .null, .null, .int 0, .int 0, .int 0] rfl (by decide) (by show 2 < 18; decide)]
  rw [hn_p [(va_rf (some (X + 2))), (.int (nI 0)), (va_rf (some (X + 3))), (.int (nI 0)), .null, .null, .null, .null, .null, .null, .null, .int 0, .null, .null, .null, .int 0, .int 0, .int 0] rfl (by decide) (by show 3 < 18; decide)]
  rw [hn_I (n := 4) hX 5 rfl (by decide) (by decide) (by decide)]
  rw [hn_p [(va_rf (some (X + 2))), (.int (nI 0)), (va_rf (some (X + 3))), (.int (nI 0)), (va_rf (some (X + 4))), .null, .null, .null, .null, .null, .null, .int 0, .null, .null, .null, .int 0, .int 0, .int 0] rfl (by decide) (by show 4 < 18; decide)]
  rw [hn_I (n := 5) hX 6 rfl (by decide) (by decide) (by decide)]
  rw [hn_p [(va_rf (some (X + 2))), (.int (nI 0)), (va_rf (some (X + 3))), (.int (nI 0)), (va_rf (some (X + 4))), (va_rf (some (X + 5))), .null, .null, .null, .null, .null, .int 0, .null, .null, .null, .int 0, .int 0, .int 0] rfl (by decide) (by show 5 < 18; decide)]
  rw [hn_I (n := 6) hX 7 rfl (by decide) (by decide) (by decide)]
  rw [hn_p [(va_rf (some (X + 2))), (.int (nI 0)), (va_rf (some (X + 3))), (.int (nI 0)), (va_rf (some (X + 4))), (va_rf (some (X + 5))), (va_rf (some (X + 6))), .null, .null, .null, .null, .int 0, .null, .null, .null, .int 0, .int 0, .int 0] rfl (by decide) (by show 6 < 18; decide)]
  rw [hn_I (n := 7) hX 8 rfl (by decide) (by decide) (by decide)]
  rw [hn_p [(va_rf (some (X + 2))), (.int (nI 0)), (va_rf (some (X + 3))), (.int (nI 0)), (va_rf (some (X + 4))), (va_rf (some (X + 5))), (va_rf (some (X + 6))), (va_rf (some (X + 7))), .null, .null, .null, .int 0, .null, .null, .null, .int 0, .int 0, .int 0] rfl (by decide) (by show 7 < 18; decide)]
  rw [hn_I (n := 8) hX 9 rfl (by decide) (by decide) (by decide)]
  rw [hn_p [(va_rf (some (X + 2))), (.int (nI 0)), (va_rf (some (X + 3))), (.int (nI 0)), (va_rf (some (X + 4))), (va_rf (some (X + 5))), (va_rf (some (X + 6))), (va_rf (some (X + 7))), (va_rf (some (X + 8))), .null, .null, .int 0, .null, .null, .null, .int 0, .int 0, .int 0] rfl (by decide) (by show 8 < 18; decide)]
  rw [hn_I (n := 9) hX 10 rfl (by decide) (by decide) (by decide)]
  rw [hn_p [(va_rf (some (X + 2))), (.int (nI 0)), (va_rf (some (X + 3))), (.int (nI 0)), (va_rf (some (X + 4))), (va_rf (some (X + 5))), (va_rf (some (X + 6))), (va_rf (some (X + 7))), (va_rf (some (X + 8))), (va_rf (some (X + 9))), .null, .int 0, .null, .null, .null, .int 0, .int 0, .int 0] rfl (by decide) (by show 9 < 18; decide)]
  rw [hn_I (n := 10) hX 11 rfl (by decide) (by decide) (by decide)]
  rw [hn_p [(va_rf (some (X + 2))), (.int (nI 0)), (va_rf (some (X + 3))), (.int (nI 0)), (va_rf (some (X + 4))), (va_rf (some (X + 5))), (va_rf (some (X + 6))), (va_rf (some (X + 7))), (va_rf (some (X + 8))), (va_rf (some (X + 9))), (va_rf (some (X + 10))), .int 0, .null, .null, .null, .int 0, .int 0, .int 0] rfl (by decide) (by show 10 < 18; decide)]
  rw [hn_p [(va_rf (some (X + 2))), (.int (nI 0)), (va_rf (some (X + 3))), (.int (nI 0)), (va_rf (some (X + 4))), (va_rf (some (X + 5))), (va_rf (some (X + 6))), (va_rf (some (X + 7))), (va_rf (some (X + 8))), (va_rf (some (X + 9))), (va_rf (some (X + 10))), (.int (nI 0)), .null, .null, .null, .int 0, .int 0, .int 0] rfl (by decide) (by show 11 < 18; decide)]
  rw [hn_R (n := 11) hX 12 rfl (by decide) (by decide) (by decide)]
  rw [hn_p [(va_rf (some (X + 2))), (.int (nI 0)), (va_rf (some (X + 3))), (.int (nI 0)), (va_rf (some (X + 4))), (va_rf (some (X + 5))), (va_rf (some (X + 6))), (va_rf (some (X + 7))), (va_rf (some (X + 8))), (va_rf (some (X + 9))), (va_rf (some (X + 10))), (.int (nI 0)), (va_rf (some (X + 11))), .null, .null, .int 0, .int 0, .int 0] rfl (by decide) (by show 12 < 18; decide)]
  rw [hn_I (n := 12) hX 13 rfl (by decide) (by decide) (by decide)]
  rw [hn_p [(va_rf (some (X + 2))), (.int (nI 0)), (va_rf (some (X + 3))), (.int (nI 0)), (va_rf (some (X + 4))), (va_rf (some (X + 5))), (va_rf (some (X + 6))), (va_rf (some (X + 7))), (va_rf (some (X + 8))), (va_rf (some (X + 9))), (va_rf (some (X + 10))), (.int (nI 0)), (va_rf (some (X + 11))), (va_rf (some (X + 12))), .null, .int 0, .int 0, .int 0] rfl (by decide) (by show 13 < 18; decide)]
  rw [hn_G (n := 13) hX 26 rfl (by decide)]
  rw [hn_p [(va_rf (some (X + 2))), (.int (nI 0)), (va_rf (some (X + 3))), (.int (nI 0)), (va_rf (some (X + 4))), (va_rf (some (X + 5))), (va_rf (some (X + 6))), (va_rf (some (X + 7))), (va_rf (some (X + 8))), (va_rf (some (X + 9))), (va_rf (some (X + 10))), (.int (nI 0)), (va_rf (some (X + 11))), (va_rf (some (X + 12))), (va_rf (some (X + 13))), .int 0, .int 0, .int 0] rfl (by decide) (by show 14 < 18; decide)]
  rw [hn_p [(va_rf (some (X + 2))), (.int (nI 0)), (va_rf (some (X + 3))), (.int (nI 0)), (va_rf (some (X + 4))), (va_rf (some (X + 5))), (va_rf (some (X + 6))), (va_rf (some (X + 7))), (va_rf (some (X + 8))), (va_rf (some (X + 9))), (va_rf (some (X + 10))), (.int (nI 0)), (va_rf (some (X + 11))), (va_rf (some (X + 12))), (va_rf (some (X + 13))), (.int (nI 0)), .int 0, .int 0] rfl (by decide) (by show 15 < 18; decide)]
  rw [hn_p [(va_rf (some (X + 2))), (.int (nI 0)), (va_rf (some (X + 3))), (.int (nI 0)), (va_rf (some (X + 4))), (va_rf (some (X + 5))), (va_rf (some (X + 6))), (va_rf (some (X + 7))), (va_rf (some (X + 8))), (va_rf (some (X + 9))), (va_rf (some (X + 10))), (.int (nI 0)), (va_rf (some (X + 11))), (va_rf (some (X + 12))), (va_rf (some (X + 13))), (.int (nI 0)), (.int (nI 0)), .int 0] rfl (by decide) (by show 16 < 18; decide)]
  rw [hn_p [(va_rf (some (X + 2))), (.int (nI 0)), (va_rf (some (X + 3))), (.int (nI 0)), (va_rf (some (X + 4))), (va_rf (some (X + 5))), (va_rf (some (X + 6))), (va_rf (some (X + 7))), (va_rf (some (X + 8))), (va_rf (some (X + 9))), (va_rf (some (X + 10))), (.int (nI 0)), (va_rf (some (X + 11))), (va_rf (some (X + 12))), (va_rf (some (X + 13))), (.int (nI 0)), (.int (nI 0)), (.int (nI 1))] rfl (by decide) (by show 17 < 18; decide)]
  unfold in_b fd_b
  rfl
def in_k (G : Gx) (X : Nat) (f : Nat → Option va_E) : Nat → Option va_E := (grF8 G X 38 12 10 (upK (upK (upK (upK (upK (upK (upK (upK (upK (upK (upK f 27 (some (.inl (g_c G 2, 120, .inl (fun _ => (0 : Int32)))))) 28 (some (.inl (g_c G 4, 6, .inr (.inr (.inr (.inr (fun _ => none)))))))) 29 (some (.inl (g_c G 0, 8, .inl (fun _ => (0 : Int32)))))) 30 (some (.inl (g_c G 0, 8, .inl (fun _ => (0 : Int32)))))) 31 (some (.inl (g_c G 0, 8, .inl (fun _ => (0 : Int32)))))) 32 (some (.inl (g_c G 0, 8, .inl (fun _ => (0 : Int32)))))) 33 (some (.inl (g_c G 0, 8, .inl (fun _ => (0 : Int32)))))) 34 (some (.inl (g_c G 0, 8, .inl (fun _ => (0 : Int32)))))) 35 (some (.inl (g_c G 3, 8, .inl (fun _ => (0 : Int32)))))) 36 (some (.inl (g_c G 5, 12, .inr (.inr (.inr (.inr (fun _ => none)))))))) 37 (some (.inl (g_c G 0, 12, .inl (fun _ => (0 : Int32)))))))
def fd_k (X : Nat) : List Value := [(va_rf (some (X + 27))), (.int (nI 0)), (va_rf (some (X + 28))), (.int (nI 0)), (va_rf (some (X + 29))), (va_rf (some (X + 30))), (va_rf (some (X + 31))), (va_rf (some (X + 32))), (va_rf (some (X + 33))), (va_rf (some (X + 34))), (va_rf (some (X + 35))), (.int (nI 0)), (va_rf (some (X + 36))), (va_rf (some (X + 37))), (va_rf (some (X + 38))), (.int (nI 0)), (.int (nI 0)), (.int (nI 1))]
theorem x_init0k (hX : g_B G + x0 = X) : F_X0_init G (hf X 27 (upK f 26 (some (ob 0 [.null, .int 0, .null, .int 0, .null, .null, .null, .null, .null, .null, .null, .int 0, .null, .null, .null, .int 0, .int 0, .int 0]))) H) (x0 + 27) (X + 26) = some ((), hf X 51 (upK (in_k G X f) 26 (some (ob 0 (fd_k X)))) H, x0 + 51) := by
  unfold F_X0_init
  rw [hn_I (n := 27) hX 28 rfl (by decide) (by decide) (by decide)]
  rw [hn_p [(va_rf (some (X + 27))), .int 0, .null, .int 0, .null, .null, .null, .null, .null, .null, .null, .int 0, .null, .null, .null, .int 0, .int 0, .int 0] rfl (by decide) (by show 0 < 18; decide)]
  rw [hn_p [(va_rf (some (X + 27))), (.int (nI 0)), .null, .int 0, .null, .null, .null, .null, .null, .null, .null, .int 0, .null, .null, .null, .int 0, .int 0, .int 0] rfl (by decide) (by show 1 < 18; decide)]
  rw [hn_R (n := 28) hX 29 rfl (by decide) (by decide) (by decide)]
  rw [hn_p [(va_rf (some (X + 27))), (.int (nI 0)), (va_rf (some (X + 28))), .int 0, .null, .null, .null, .null, .null, .null, .null, .int 0, .null, .null, .null, .int 0, .int 0, .int 0] rfl (by decide) (by show 2 < 18; decide)]
  rw [hn_p [(va_rf (some (X + 27))), (.int (nI 0)), (va_rf (some (X + 28))), (.int (nI 0)), .null, .null, .null, .null, .null, .null, .null, .int 0, .null, .null, .null, .int 0, .int 0, .int 0] rfl (by decide) (by show 3 < 18; decide)]
  rw [hn_I (n := 29) hX 30 rfl (by decide) (by decide) (by decide)]
  rw [hn_p [(va_rf (some (X + 27))), (.int (nI 0)), (va_rf (some (X + 28))), (.int (nI 0)), (va_rf (some (X + 29))), .null, .null, .null, .null, .null, .null, .int 0, .null, .null, .null, .int 0, .int 0, .int 0] rfl (by decide) (by show 4 < 18; decide)]
  rw [hn_I (n := 30) hX 31 rfl (by decide) (by decide) (by decide)]
  rw [hn_p [(va_rf (some (X + 27))), (.int (nI 0)), (va_rf (some (X + 28))), (.int (nI 0)), (va_rf (some (X + 29))), (va_rf (some (X + 30))), .null, .null, .null, .null, .null, .int 0, .null, .null, .null, .int 0, .int 0, .int 0] rfl (by decide) (by show 5 < 18; decide)]
  rw [hn_I (n := 31) hX 32 rfl (by decide) (by decide) (by decide)]
  rw [hn_p [(va_rf (some (X + 27))), (.int (nI 0)), (va_rf (some (X + 28))), (.int (nI 0)), (va_rf (some (X + 29))), (va_rf (some (X + 30))), (va_rf (some (X + 31))), .null, .null, .null, .null, .int 0, .null, .null, .null, .int 0, .int 0, .int 0] rfl (by decide) (by show 6 < 18; decide)]
  rw [hn_I (n := 32) hX 33 rfl (by decide) (by decide) (by decide)]
  rw [hn_p [(va_rf (some (X + 27))), (.int (nI 0)), (va_rf (some (X + 28))), (.int (nI 0)), (va_rf (some (X + 29))), (va_rf (some (X + 30))), (va_rf (some (X + 31))), (va_rf (some (X + 32))), .null, .null, .null, .int 0, .null, .null, .null, .int 0, .int 0, .int 0] rfl (by decide) (by show 7 < 18; decide)]
  rw [hn_I (n := 33) hX 34 rfl (by decide) (by decide) (by decide)]
  rw [hn_p [(va_rf (some (X + 27))), (.int (nI 0)), (va_rf (some (X + 28))), (.int (nI 0)), (va_rf (some (X + 29))), (va_rf (some (X + 30))), (va_rf (some (X + 31))), (va_rf (some (X + 32))), (va_rf (some (X + 33))), .null, .null, .int 0, .null, .null, .null, .int 0, .int 0, .int 0] rfl (by decide) (by show 8 < 18; decide)]
  rw [hn_I (n := 34) hX 35 rfl (by decide) (by decide) (by decide)]
  rw [hn_p [(va_rf (some (X + 27))), (.int (nI 0)), (va_rf (some (X + 28))), (.int (nI 0)), (va_rf (some (X + 29))), (va_rf (some (X + 30))), (va_rf (some (X + 31))), (va_rf (some (X + 32))), (va_rf (some (X + 33))), (va_rf (some (X + 34))), .null, .int 0, .null, .null, .null, .int 0, .int 0, .int 0] rfl (by decide) (by show 9 < 18; decide)]
  rw [hn_I (n := 35) hX 36 rfl (by decide) (by decide) (by decide)]
  rw [hn_p [(va_rf (some (X + 27))), (.int (nI 0)), (va_rf (some (X + 28))), (.int (nI 0)), (va_rf (some (X + 29))), (va_rf (some (X + 30))), (va_rf (some (X + 31))), (va_rf (some (X + 32))), (va_rf (some (X + 33))), (va_rf (some (X + 34))), (va_rf (some (X + 35))), .int 0, .null, .null, .null, .int 0, .int 0, .int 0] rfl (by decide) (by show 10 < 18; decide)]
  rw [hn_p [(va_rf (some (X + 27))), (.int (nI 0)), (va_rf (some (X + 28))), (.int (nI 0)), (va_rf (some (X + 29))), (va_rf (some (X + 30))), (va_rf (some (X + 31))), (va_rf (some (X + 32))), (va_rf (some (X + 33))), (va_rf (some (X + 34))), (va_rf (some (X + 35))), (.int (nI 0)), .null, .null, .null, .int 0, .int 0, .int 0] rfl (by decide) (by show 11 < 18; decide)]
  rw [hn_R (n := 36) hX 37 rfl (by decide) (by decide) (by decide)]
  rw [hn_p [(va_rf (some (X + 27))), (.int (nI 0)), (va_rf (some (X + 28))), (.int (nI 0)), (va_rf (some (X + 29))), (va_rf (some (X + 30))), (va_rf (some (X + 31))), (va_rf (some (X + 32))), (va_rf (some (X + 33))), (va_rf (some (X + 34))), (va_rf (some (X + 35))), (.int (nI 0)), (va_rf (some (X + 36))), .null, .null, .int 0, .int 0, .int 0] rfl (by decide) (by show 12 < 18; decide)]
  rw [hn_I (n := 37) hX 38 rfl (by decide) (by decide) (by decide)]
  rw [hn_p [(va_rf (some (X + 27))), (.int (nI 0)), (va_rf (some (X + 28))), (.int (nI 0)), (va_rf (some (X + 29))), (va_rf (some (X + 30))), (va_rf (some (X + 31))), (va_rf (some (X + 32))), (va_rf (some (X + 33))), (va_rf (some (X + 34))), (va_rf (some (X + 35))), (.int (nI 0)), (va_rf (some (X + 36))), (va_rf (some (X + 37))), .null, .int 0, .int 0, .int 0] rfl (by decide) (by show 13 < 18; decide)]
  rw [hn_G (n := 38) hX 51 rfl (by decide)]
  rw [hn_p [(va_rf (some (X + 27))), (.int (nI 0)), (va_rf (some (X + 28))), (.int (nI 0)), (va_rf (some (X + 29))), (va_rf (some (X + 30))), (va_rf (some (X + 31))), (va_rf (some (X + 32))), (va_rf (some (X + 33))), (va_rf (some (X + 34))), (va_rf (some (X + 35))), (.int (nI 0)), (va_rf (some (X + 36))), (va_rf (some (X + 37))), (va_rf (some (X + 38))), .int 0, .int 0, .int 0] rfl (by decide) (by show 14 < 18; decide)]
  rw [hn_p [(va_rf (some (X + 27))), (.int (nI 0)), (va_rf (some (X + 28))), (.int (nI 0)), (va_rf (some (X + 29))), (va_rf (some (X + 30))), (va_rf (some (X + 31))), (va_rf (some (X + 32))), (va_rf (some (X + 33))), (va_rf (some (X + 34))), (va_rf (some (X + 35))), (.int (nI 0)), (va_rf (some (X + 36))), (va_rf (some (X + 37))), (va_rf (some (X + 38))), (.int (nI 0)), .int 0, .int 0] rfl (by decide) (by show 15 < 18; decide)]
  rw [hn_p [(va_rf (some (X + 27))), (.int (nI 0)), (va_rf (some (X + 28))), (.int (nI 0)), (va_rf (some (X + 29))), (va_rf (some (X + 30))), (va_rf (some (X + 31))), (va_rf (some (X + 32))), (va_rf (some (X + 33))), (va_rf (some (X + 34))), (va_rf (some (X + 35))), (.int (nI 0)), (va_rf (some (X + 36))), (va_rf (some (X + 37))), (va_rf (some (X + 38))), (.int (nI 0)), (.int (nI 0)), .int 0] rfl (by decide) (by show 16 < 18; decide)]
  rw [hn_p [(va_rf (some (X + 27))), (.int (nI 0)), (va_rf (some (X + 28))), (.int (nI 0)), (va_rf (some (X + 29))), (va_rf (some (X + 30))), (va_rf (some (X + 31))), (va_rf (some (X + 32))), (va_rf (some (X + 33))), (va_rf (some (X + 34))), (va_rf (some (X + 35))), (.int (nI 0)), (va_rf (some (X + 36))), (va_rf (some (X + 37))), (va_rf (some (X + 38))), (.int (nI 0)), (.int (nI 0)), (.int (nI 1))] rfl (by decide) (by show 17 < 18; decide)]
  unfold in_k fd_k
  rfl
end XIN
