/-! THE CLASS: sort -/
theorem hset_comm {h : Hp} {a b : Nat} {e f : va_E} (n : a ≠ b) : hset (hset h a e) b f = hset (hset h b f) a e := by
  funext q
  unfold hset
  by_cases c1 : q = b
  · subst c1
    rw [if_pos rfl, if_neg (fun z => n z.symm), if_pos rfl]
  · rw [if_neg c1, if_neg c1]
section ZN
variable {G : Gx} {Y nx : Nat} {H : Hp} {β : Type}
theorem zp {fs : List Value} {k : Nat} {v : Value} {f : Hp → Option β} (hk : k < fs.length) : pfV (hset H Y (ob 7 fs)) Y [7] k v f = f (hset H Y (ob 7 (fs.set k v))) := by
  rw [pfV_at hset_same (by decide) hk, hset_hset]
theorem zn {c : ClassId} {e : va_E} {k lim : Nat} {f : Nat → Hp → Nat → Option β} (hk : k ≤ lim) (hl : lim < 2 ^ 31) (hY : Y ≠ g_B G + nx) : nwI G c (hset H Y e) nx (nI k) lim f = f (g_B G + nx) (hset (hset H (g_B G + nx) (.inl (c, k, .inl (fun _ => (0 : Int32))))) Y e) (nx + 1) := by
  unfold nwI
  rw [nI_clamp (by omega), if_pos ⟨nI_pos (by omega), hk⟩, hset_comm hY]
end ZN
theorem encYX {G : Gx} {X Y n : Nat} {c : CS} {y : YS} {h0 : Hp} (h : X + 108 ≤ Y) : encY G Y n y (encX G X c h0) = encX G X c (encY G Y n y h0) := by
  funext a
  by_cases c1 : X ≤ a ∧ a < X + 108
  · rw [encY_out (by omega)]
    unfold encX
    rw [if_pos c1, if_pos c1]
  · have e1 : encX G X c (encY G Y n y h0) a = encY G Y n y h0 a := encX_out (by omega)
    rw [e1]
    by_cases c2 : Y ≤ a ∧ a < Y + 7
    · unfold encY
      by_cases z : a = Y
      · rw [if_pos z, if_pos z]
      rw [if_neg z, if_neg z]
      by_cases z : a = Y + 1
      · rw [if_pos z, if_pos z]
      rw [if_neg z, if_neg z]
      by_cases z : a = Y + 2
      · rw [if_pos z, if_pos z]
      rw [if_neg z, if_neg z]
      by_cases z : a = Y + 3
      · rw [if_pos z, if_pos z]
      rw [if_neg z, if_neg z]
      by_cases z : a = Y + 4
      · rw [if_pos z, if_pos z]
      rw [if_neg z, if_neg z]
      by_cases z : a = Y + 5
      · rw [if_pos z, if_pos z]
      rw [if_neg z, if_neg z]
      by_cases z : a = Y + 6
      · rw [if_pos z, if_pos z]
      · omega
    · rw [encY_out (by omega), encY_out (by omega)]
      exact encX_out (by omega)
def TyR (fa : Nat → Nat → Int32) : Prop := ∀ j, j < 120 → fits .byte (.int (fa 2 j)) = true
section XSO
variable {G : Gx} {X lo nx : Nat} {h0 : Hp} {c : CS} {S : MS} {ns nt np lk td q : Nat}
/-- an object's first cells -/
def y0S (tx : Nat → Int32) : YS := (fun _ => nI 0, fun k => if k = 6 then tx else fun _ => 0)
theorem y0_eq {n : Nat} {tx : Nat → Int32} {H : Hp} (Y : Nat) (hY : Y = g_B G + nx) : hset (hset (hset (hset (hset (hset (hset H (g_B G + (nx + 1)) (aI G 6 (fun _ => 0))) (g_B G + (nx + 2)) (aI G 120 (fun _ => 0))) (g_B G + (nx + 3)) (aI G 10 (fun _ => 0))) (g_B G + (nx + 4)) (aI G 10 (fun _ => 0))) (g_B G + (nx + 5)) (aI G 10 (fun _ => 0))) (g_B G + (nx + 6)) (aB G n tx)) Y (ob 7 (yFs Y (y0S tx))) = encY G Y n (y0S tx) H := by
  subst hY
  funext a
  have e1 : ya (y0S tx) 1 = fun _ => 0 := rfl
  have e2 : ya (y0S tx) 2 = fun _ => 0 := rfl
  have e3 : ya (y0S tx) 3 = fun _ => 0 := rfl
  have e4 : ya (y0S tx) 4 = fun _ => 0 := rfl
  have e5 : ya (y0S tx) 5 = fun _ => 0 := rfl
  have e6 : ya (y0S tx) 6 = tx := rfl
  unfold encY hset
  rw [e1, e2, e3, e4, e5, e6]
  by_cases z : a = g_B G + nx
  · rw [if_pos z, if_pos z]
  rw [if_neg z, if_neg z]
  by_cases z : a = g_B G + nx + 1
  · rw [if_neg (by omega), if_neg (by omega), if_neg (by omega), if_neg (by omega), if_neg (by omega), if_pos (by omega), if_pos z]
  rw [if_neg z]
  by_cases z : a = g_B G + nx + 2
  · rw [if_neg (by omega), if_neg (by omega), if_neg (by omega), if_neg (by omega), if_pos (by omega), if_pos z]
  rw [if_neg z]
  by_cases z : a = g_B G + nx + 3
  · rw [if_neg (by omega), if_neg (by omega), if_neg (by omega), if_pos (by omega), if_pos z]
  rw [if_neg z]
  by_cases z : a = g_B G + nx + 4
  · rw [if_neg (by omega), if_neg (by omega), if_pos (by omega), if_pos z]
  rw [if_neg z]
  by_cases z : a = g_B G + nx + 5
  · rw [if_neg (by omega), if_pos (by omega), if_pos z]
  rw [if_neg z]
  by_cases z : a = g_B G + nx + 6
  · rw [if_pos (by omega), if_pos z]
  · rw [if_neg (by omega), if_neg (by omega), if_neg (by omega), if_neg (by omega), if_neg (by omega), if_neg (by omega), if_neg z]
set_option maxRecDepth 100000 in
set_option maxHeartbeats 1000000 in
theorem x_copyOf {H : Hp} {o : va_E} {Y z : Nat} (hq : q ≤ 120) (hH : H (X + 2) = some (aB G 120 (xa c 2))) (hY : Y ≠ g_B G + z) (hY2 : X + 2 ≠ Y) (hz : X + 2 ≠ g_B G + z) (hb : TyR (xa c)) : ∃ tx : Nat → Int32, F_J7_copyOf_9075b G (hset H Y o) z (X + 2) (nI q) = some (some (g_B G + z), hset (hset H (g_B G + z) (aB G q tx)) Y o, z + 1) ∧ ∀ j, j < q → tx j = xa c 2 j := by
  have h1 : hset H Y o (X + 2) = some (aB G 120 (xa c 2)) := by rw [hset_ne hY2]; exact hH
  have eln : ∀ {β : Type} {f : Int32 → Option β}, lnI (g_c G 2) (hset H Y o) (X + 2) f = f (nI 120) := fun {β f} => lnI_at h1
  unfold F_J7_copyOf_9075b
  rw [eln]
  by_cases c1 : q = 120
  · subst c1
    refine ⟨xa c 2, ?_, fun _ _ => rfl⟩
    rw [if_pos rfl]
    unfold clB
    rw [h1]
    show (if _ then _ else _) = _
    rw [if_pos ⟨rfl, by omega, by rw [List.all_eq_true]; exact fun j hj => hb j (List.mem_range.mp hj)⟩, hset_comm hY]
    rfl
  · have hn : ¬ nI q = nI 120 := fun w => c1 ((nI_eq (by omega) (by omega)).mp w)
    refine ⟨cv_cpy (xa c 2) (fun _ => 0) 0 0 q, ?_, fun j hj => cpy_0 hj⟩
    rw [if_neg hn, zn (by omega) (by omega) hY]
    have h2 : hset (hset H (g_B G + z) (.inl (g_c G 2, q, .inl (fun _ => (0 : Int32))))) Y o (X + 2) = some (aB G 120 (xa c 2)) := by rw [hset_ne hY2, hset_ne hz]; exact hH
    have h3 : hset (hset H (g_B G + z) (.inl (g_c G 2, q, .inl (fun _ => (0 : Int32))))) Y o (g_B G + z) = some (aB G q (fun _ => 0)) := by rw [hset_ne (fun w => hY w.symm)]; exact hset_same
    have eln2 : ∀ {β : Type} {f : Int32 → Option β}, lnI (g_c G 2) (hset (hset H (g_B G + z) (.inl (g_c G 2, q, .inl (fun _ => (0 : Int32))))) Y o) (X + 2) f = f (nI 120) := fun {β f} => lnI_at h2
    have em : mnI (nI 120) (nI q) = nI q := by
      unfold mnI
      have hl : nI q < nI 120 := by rw [nI_ltE (by omega) (by omega)]; omega
      rw [if_pos hl]
    rw [eln2, em]
    unfold acI
    rw [h2, h3]
    have en : (nI q).toNatClampNeg = q := nI_clamp (by omega)
    have e0 : (nI 0).toNatClampNeg = 0 := nI_clamp (by omega)
    show (if _ then _ else _) = _
    rw [en, e0, if_pos]
    · rw [hset_comm hY, hset_hset]
      rfl
    · refine ⟨⟨rfl, rfl, by decide, by decide, nI_pos (by omega)⟩, by omega, by omega, ?_⟩
      rw [List.all_eq_true]
      intro j hj
      have := List.mem_range.mp hj
      rw [Nat.zero_add]
      exact hb j (by omega)
set_option maxRecDepth 100000 in
set_option maxHeartbeats 1000000 in
theorem x_init7 (hX : X + 108 ≤ g_B G + nx) (hq : q ≤ 120) (hb : TyR (xa c)) : ∃ tx : Nat → Int32, F_X7_init G (hset (encX G X c h0) (g_B G + nx) (ob 7 [.null, .null, .int 0, .int 0, .null, .int 0, .null, .null, .null, .int 0])) (nx + 1) (g_B G + nx) (X + 2) (nI q) = some ((), encY G (g_B G + nx) q (y0S tx) (encX G X c h0), nx + 7) ∧ ∀ j, j < q → tx j = xa c 2 j := by
  obtain ⟨tx, ec, ht⟩ := x_copyOf (G := G) (X := X) (c := c) (q := q) (Y := g_B G + nx) (z := nx + 6) (H := hset (hset (hset (hset (hset (encX G X c h0) (g_B G + (nx + 1)) (aI G 6 (fun _ => 0))) (g_B G + (nx + 2)) (aI G 120 (fun _ => 0))) (g_B G + (nx + 3)) (aI G 10 (fun _ => 0))) (g_B G + (nx + 4)) (aI G 10 (fun _ => 0))) (g_B G + (nx + 5)) (aI G 10 (fun _ => 0))) (o := ob 7 [.ref (g_B G + (nx + 1)), .null, .int (nI 0), .int (nI 0), .ref (g_B G + (nx + 2)), .int (nI 0), .ref (g_B G + (nx + 3)), .ref (g_B G + (nx + 4)), .ref (g_B G + (nx + 5)), .int (nI 0)]) hq (by
    rw [hset_ne (by omega), hset_ne (by omega), hset_ne (by omega), hset_ne (by omega), hset_ne (by omega)]
    exact (encX_at (by decide)).trans cellX_2) (by omega) (by omega) (by omega) hb
  refine ⟨tx, ?_, ht⟩
  rw [← y0_eq (g_B G + nx) rfl]
  unfold F_X7_init
  rw [zn (by omega) (by omega) (by omega), zp (by simp), zp (by simp), zp (by simp), zn (by omega) (by omega) (by omega), zp (by simp), zp (by simp), zn (by omega) (by omega) (by omega), zp (by simp), zn (by omega) (by omega) (by omega), zp (by simp), zn (by omega) (by omega) (by omega), zp (by simp), zp (by simp)]
  refine (congrArg (fun z => cl z _) ec).trans ?_
  rw [cl_some, zp (by simp)]
  rfl
end XSO
