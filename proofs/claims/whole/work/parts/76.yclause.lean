/-! codes that are read keep to a stack -/
def okS : List Int32 → Nat → Nat → Prop
  | [], t, u => t = u
  | s :: r, t, u => ((∃ n, s = nI n ∧ n < 2 ^ 31 ∧ n / 2 % 4 ≤ 2) ∧ t < 14 ∧ okS r (t + 1) u) ∨ (s = -1 ∧ 1 ≤ t ∧ okS r t u) ∨ ((s = -2 ∨ s = -3) ∧ 2 ≤ t ∧ okS r (t - 1) u)
theorem okS_app : ∀ {l1 l2 : List Int32} {t u v : Nat}, okS l1 t u → okS l2 u v → okS (l1 ++ l2) t v
  | [], _, _, _, _, h1, h2 => by
    have h1 : _ = _ := h1
    subst h1
    exact h2
  | s :: r, l2, t, u, v, h1, h2 => by
    rcases h1 with ⟨a, b, c⟩ | ⟨a, b, c⟩ | ⟨a, b, c⟩
    · exact Or.inl ⟨a, b, okS_app c h2⟩
    · exact Or.inr (Or.inl ⟨a, b, okS_app c h2⟩)
    · exact Or.inr (Or.inr ⟨a, b, okS_app c h2⟩)
theorem okS_B : ∀ {l : List Int32} {t : Nat}, okS l t 1 → okB l t
  | [], _, h => h
  | s :: r, t, h => by
    rcases h with ⟨a, b, c⟩ | ⟨a, b, c⟩ | ⟨a, b, c⟩
    · exact Or.inl ⟨a, b, okS_B c⟩
    · exact Or.inr (Or.inl ⟨a, b, okS_B c⟩)
    · exact Or.inr (Or.inr ⟨a, b, okS_B c⟩)
theorem okB_C {R : List Int32} (hR : okC R 1) : ∀ {l : List Int32} {t : Nat}, okB l t → okC (l ++ R) t
  | [], t, h => by
    have h : t = 1 := h
    subst h
    exact hR
  | s :: r, t, h => by
    rcases h with ⟨⟨n, rfl, hn, _⟩, b, c⟩ | ⟨a, b, c⟩ | ⟨a, b, c⟩
    · exact Or.inl ⟨nI_pos hn, b, okB_C hR c⟩
    · exact Or.inr (Or.inl ⟨a, b, okB_C hR c⟩)
    · exact Or.inr (Or.inr (Or.inl ⟨a, b, okB_C hR c⟩))
theorem okC_sg : ∀ {sg : List Sg}, (∀ g ∈ sg, SgOk g) → okC (sgL sg) 0
  | [], _ => rfl
  | g :: r, h => by
    obtain ⟨h1, ⟨n, hn, h2⟩, h3⟩ := h g (by simp)
    obtain ⟨z, hz, ez⟩ : ∃ z, z ≤ 1 ∧ g.1 = nI z := by
      rcases h1 with q | q
      · exact ⟨0, by omega, q⟩
      · exact ⟨1, by omega, q⟩
    rw [sgL_c]
    refine okB_C ?_ h3
    refine Or.inr (Or.inr (Or.inr ⟨?_, rfl, okC_sg (fun g hg => h g (by simp [hg]))⟩))
    rw [h2, ez]
    exact (end_neg hn hz).1
section FG
variable {tp : Nat → Int32} {n : Nat}
theorem fg_le (hm : ∀ j, j < n → ∃ m, m < 256 ∧ tp j = nI m) : ∀ (r p v : Nat), r ≤ 3 → v < 10 ^ (3 - r) → ∃ u, u < 1000 ∧ (fgL tp n r (nI v) p).1 = nI u
  | 0, p, v, _, hv => ⟨v, hv, rfl⟩
  | r + 1, p, v, hr, hv => by
    have hv9 : v < 1000 := by
      have e1 : 10 ^ (3 - (r + 1)) ≤ 10 ^ 3 := Nat.pow_le_pow_right (by decide) (by omega)
      have e2 : (10 : Nat) ^ 3 = 1000 := by decide
      omega
    rw [fgL_s]
    by_cases c : ¬ bIn (hereP tp n p) (nI 48) (nI 57) = 0 ∧ (r = 2 ∨ ¬ nI v ≤ 0)
    · rw [if_pos c]
      have hl : p < n := by
        by_cases cl : n ≤ p
        · rw [here_f cl] at c
          exact absurd fg_m1 c.1
        · omega
      obtain ⟨q, hq, eq⟩ := hm p hl
      have eh : hereP tp n p = nI q := by rw [here_t hl, eq]
      have cb := c.1
      rw [eh] at cb
      have hqr : 48 ≤ q ∧ q ≤ 57 := by
        by_cases z : q < 48 ∨ 57 < q
        · exact absurd ((fg_bin hq).mpr z) cb
        · omega
      have ev : nI 10 * nI v + nI q - nI 48 = nI (10 * v + q - 48) := by rw [pk_mul, nI_add, pk_sub (by omega)]
      rw [eh, ev]
      refine fg_le hm r (p + 1) (10 * v + q - 48) (by omega) ?_
      have e1 : 10 ^ (3 - r) = 10 * 10 ^ (3 - (r + 1)) := by
        rw [show 3 - r = 3 - (r + 1) + 1 by omega, Nat.pow_succ, Nat.mul_comm]
      rw [e1]
      omega
    · rw [if_neg c]
      exact ⟨v, hv9, rfl⟩
theorem ts_okS (hm : ∀ j, j < n → ∃ m, m < 256 ∧ tp j = nI m) {p t : Nat} (h : (tsP tp n p).1 = true) (ht : t < 14) : okS (tsP tp n p).2.2 t (t + 1) := by
  unfold tsP at h ⊢
  by_cases c1 : hereP tp n p = nI 100 ∨ hereP tp n p = nI 107
  · rw [if_pos c1] at h ⊢
    by_cases c2 : isOp (hereP tp n (p + 1))
    · rw [if_pos c2] at h ⊢
      by_cases c3 : isFg tp n (p + 2)
      · rw [if_pos c3]
        obtain ⟨u, hu, eu⟩ := fg_le hm 3 (p + 2) 0 (by omega) (by decide)
        have ea : ∃ a, a ≤ 1 ∧ (if hereP tp n p = nI 100 then nI 0 else nI 1) = nI a := by
          by_cases q : hereP tp n p = nI 100
          · exact ⟨0, by omega, if_pos q⟩
          · exact ⟨1, by omega, if_neg q⟩
        obtain ⟨a, ha, ea⟩ := ea
        have eo : ∃ s, s ≤ 2 ∧ opN (hereP tp n (p + 1)) = nI s := by
          rcases c2 with q | q | q
          · exact ⟨0, by omega, by rw [q]; decide⟩
          · exact ⟨1, by omega, by rw [q]; decide⟩
          · exact ⟨2, by omega, by rw [q]; decide⟩
        obtain ⟨s, hs, es⟩ := eo
        refine Or.inl ⟨⟨a + 2 * s + 8 * u, ?_, by omega, by omega⟩, ht, rfl⟩
        show (if hereP tp n p = nI 100 then nI 0 else nI 1) + nI 2 * opN (hereP tp n (p + 1)) + nI 8 * (fgL tp n 3 (nI 0) (p + 2)).1 = _
        rw [ea, es, eu, pk_mul, pk_mul, nI_add, nI_add]
      · rw [if_neg c3] at h
        exact absurd h (show ¬ false = true by decide)
    · rw [if_neg c2] at h
      exact absurd h (show ¬ false = true by decide)
  · rw [if_neg c1] at h
    exact absurd h (show ¬ false = true by decide)
def hhN (k d : Nat) : Nat := (if k = 0 then 1 else if k = 1 then 2 else if k = 2 then 3 else if k = 3 then 2 else 3) + 2 * (5 - d)
theorem pz_okS (hm : ∀ j, j < n → ∃ m, m < 256 ∧ tp j = nI m) : ∀ (N k d p t : Nat), k ≤ 4 → d ≤ 5 → (pz tp n N k d p).1 = true → t + hhN k d ≤ 14 → (k ≤ 2 → okS (pz tp n N k d p).2.2 t (t + 1)) ∧ (3 ≤ k → okS (pz tp n N k d p).2.2 (t + 1) (t + 1)) := by
  intro N
  induction N with
  | zero => intro k d p t _ _ h; exact absurd h (by show ¬ false = true; decide)
  | succ N ih =>
    intro k d p t hk hd h ht
    rcases (show k = 0 ∨ k = 1 ∨ k = 2 ∨ k = 3 ∨ k = 4 by omega) with rfl | rfl | rfl | rfl | rfl
    · refine ⟨fun _ => ?_, fun z => absurd z (by omega)⟩
      have ht : t + (1 + 2 * (5 - d)) ≤ 14 := ht
      rw [pz_e0] at h ⊢
      by_cases c1 : d < 5 ∧ hereP tp n p = nI 33
      · rw [if_pos c1] at h ⊢
        by_cases cr : (pz tp n N 0 (d + 1) (p + 1)).1 = true
        · rw [if_pos cr]
          exact okS_app ((ih 0 (d + 1) (p + 1) t (by omega) (by omega) cr (by show t + (1 + 2 * (5 - (d + 1))) ≤ 14; omega)).1 (by omega)) (Or.inr (Or.inl ⟨rfl, by omega, rfl⟩))
        · rw [if_neg cr] at h
          exact absurd h (show ¬ false = true by decide)
      · rw [if_neg c1] at h ⊢
        by_cases c2 : d < 5 ∧ hereP tp n p = nI 40
        · rw [if_pos c2] at h ⊢
          by_cases cr : (pz tp n N 2 (d + 1) (p + 1)).1 = true ∧ hereP tp n (pz tp n N 2 (d + 1) (p + 1)).2.1 = nI 41
          · rw [if_pos cr]
            exact (ih 2 (d + 1) (p + 1) t (by omega) (by omega) cr.1 (by show t + (3 + 2 * (5 - (d + 1))) ≤ 14; omega)).1 (by omega)
          · rw [if_neg cr] at h
            exact absurd h (show ¬ false = true by decide)
        · rw [if_neg c2] at h ⊢
          exact ts_okS hm h (by omega)
    · refine ⟨fun _ => ?_, fun z => absurd z (by omega)⟩
      have ht : t + (2 + 2 * (5 - d)) ≤ 14 := ht
      rw [pz_e1] at h ⊢
      by_cases cr : (pz tp n N 0 d p).1 = true
      · rw [if_pos cr] at h ⊢
        exact okS_app ((ih 0 d p t (by omega) hd cr (by show t + (1 + 2 * (5 - d)) ≤ 14; omega)).1 (by omega)) ((ih 3 d _ t (by omega) hd h (by show t + (2 + 2 * (5 - d)) ≤ 14; omega)).2 (by omega))
      · rw [if_neg cr] at h
        exact absurd h (show ¬ false = true by decide)
    · refine ⟨fun _ => ?_, fun z => absurd z (by omega)⟩
      have ht : t + (3 + 2 * (5 - d)) ≤ 14 := ht
      rw [pz_e2] at h ⊢
      by_cases cr : (pz tp n N 1 d p).1 = true
      · rw [if_pos cr] at h ⊢
        exact okS_app ((ih 1 d p t (by omega) hd cr (by show t + (2 + 2 * (5 - d)) ≤ 14; omega)).1 (by omega)) ((ih 4 d _ t (by omega) hd h (by show t + (3 + 2 * (5 - d)) ≤ 14; omega)).2 (by omega))
      · rw [if_neg cr] at h
        exact absurd h (show ¬ false = true by decide)
    · refine ⟨fun z => absurd z (by omega), fun _ => ?_⟩
      have ht : t + (2 + 2 * (5 - d)) ≤ 14 := ht
      rw [pz_e3] at h ⊢
      by_cases c1 : hereP tp n p = nI 38
      · rw [if_pos c1] at h ⊢
        by_cases cr : (pz tp n N 0 d (p + 1)).1 = true
        · rw [if_pos cr] at h ⊢
          refine okS_app ((ih 0 d (p + 1) (t + 1) (by omega) hd cr (by show t + 1 + (1 + 2 * (5 - d)) ≤ 14; omega)).1 (by omega)) (Or.inr (Or.inr ⟨Or.inl rfl, by omega, ?_⟩))
          exact (ih 3 d _ t (by omega) hd h (by show t + (2 + 2 * (5 - d)) ≤ 14; omega)).2 (by omega)
        · rw [if_neg cr] at h
          exact absurd h (show ¬ false = true by decide)
      · rw [if_neg c1]
        exact rfl
    · refine ⟨fun z => absurd z (by omega), fun _ => ?_⟩
      have ht : t + (3 + 2 * (5 - d)) ≤ 14 := ht
      rw [show pz tp n (N + 1) 4 d p = _ from pz_e4 (k := 0)] at h ⊢
      by_cases c1 : hereP tp n p = nI 124
      · rw [if_pos c1] at h ⊢
        by_cases cr : (pz tp n N 1 d (p + 1)).1 = true
        · rw [if_pos cr] at h ⊢
          refine okS_app ((ih 1 d (p + 1) (t + 1) (by omega) hd cr (by show t + 1 + (2 + 2 * (5 - d)) ≤ 14; omega)).1 (by omega)) (Or.inr (Or.inr ⟨Or.inr rfl, by omega, ?_⟩))
          exact (ih 4 d _ t (by omega) hd h (by show t + (3 + 2 * (5 - d)) ≤ 14; omega)).2 (by omega)
        · rw [if_neg cr] at h
          exact absurd h (show ¬ false = true by decide)
      · rw [if_neg c1]
        exact rfl
theorem pz_okB (hm : ∀ j, j < n → ∃ m, m < 256 ∧ tp j = nI m) {p : Nat} (h : (pz tp n 1000 2 0 p).1 = true) : okB (pz tp n 1000 2 0 p).2.2 0 := okS_B ((pz_okS hm 1000 2 0 p 0 (by omega) (by omega) h (by decide)).1 (by omega))
end FG
/-! words -/
def Wor (k : Nat) : List Int32 := txB.getD k []
theorem W_sp : ∀ k, k < 6 → txB.getD (6 + k) [] = Wor k ++ [nI 32] := by decide
theorem W_ch : ∀ k, k < 6 → ∀ i, i < txN.getD k 0 → (Wor k).getD i 0 = nI ((Wor k).getD i 0).toNatClampNeg ∧ ((Wor k).getD i 0).toNatClampNeg < 128 := by decide +kernel
theorem W_len : ∀ k, k < 6 → (Wor k).length = txN.getD k 0 ∧ 0 < txN.getD k 0 ∧ txN.getD k 0 < 10 := by decide
def W0 (k : Nat) : Int32 := (Wor k).getD 0 0
theorem W_0 : ∀ k, k < 6 → Wor k = W0 k :: (Wor k).drop 1 := by decide
theorem W_ne : ∀ k, k < 6 → ∀ i, i < 6 → i ≠ k → W0 i ≠ W0 k := by decide
section SPP
variable {tp : Nat → Int32} {z : Nat}
theorem sp_app : ∀ (l1 l2 : List Int32) (p : Nat), spP tp z (l1 ++ l2) p = if (spP tp z l1 p).1 = true then spP tp z l2 (spP tp z l1 p).2 else (false, (spP tp z l1 p).2)
  | [], _, _ => (if_pos (show true = true from rfl)).symm
  | x :: l1, l2, p => by
    show (if hereP tp z p = x then spP tp z (l1 ++ l2) (p + 1) else (false, p)) = _
    have e : spP tp z (x :: l1) p = if hereP tp z p = x then spP tp z l1 (p + 1) else (false, p) := rfl
    rw [e]
    by_cases c : hereP tp z p = x
    · rw [if_pos c, if_pos c]
      exact sp_app l1 l2 (p + 1)
    · rw [if_neg c, if_neg c, if_neg (show ¬ false = true by decide)]
theorem sp_lt : ∀ (l : List Int32) (p : Nat), (spP tp z l p).1 = false → (spP tp z l p).2 < p + l.length
  | [], _, h => absurd h (by show ¬ true = false; decide)
  | x :: l, p, h => by
    have e : spP tp z (x :: l) p = if hereP tp z p = x then spP tp z l (p + 1) else (false, p) := rfl
    rw [e] at h ⊢
    by_cases c : hereP tp z p = x
    · rw [if_pos c] at h ⊢
      have := sp_lt l (p + 1) h
      simp only [List.length_cons]
      omega
    · rw [if_neg c]
      simp only [List.length_cons]
      omega
theorem sp_no {k p : Nat} (hk : k < 6) (h : ¬ hereP tp z p = W0 k) : spP tp z (Wor k) p = (false, p) := by
  rw [W_0 k hk]
  exact if_neg h
end SPP
section YW
variable {G : Gx} {Y n nx : Nat} {y : YS} {h0 : Hp} {tp : Nat → Int32}
set_option maxRecDepth 100000 in
set_option maxHeartbeats 1000000 in
theorem y_al2 {k p c : Nat} (hk : k < 6) (hR : RdY y tp n p c) : ∀ (r i m : Nat), i + r = txN.getD k 0 → r < m → p + i ≤ n → F_X7_alikeWith_2 G m (encY G Y n y h0) nx Y k (nI i) = some (nI ((spP tp n ((Wor k).drop i) (p + i)).2 - p), encY G Y n y h0, nx) := by
  obtain ⟨⟨hn, h6, hm6⟩, h2, hpn, h5, hc⟩ := id hR
  obtain ⟨wl, w0, w10⟩ := W_len k hk
  intro r
  induction r with
  | zero =>
    intro i m hi hm hpi
    obtain ⟨m, rfl⟩ : ∃ q, m = q + 1 := ⟨m - 1, by omega⟩
    rw [List.drop_eq_nil_of_le (by omega)]
    have l0 : nI (txN.getD k 0) ≤ nI i := by rw [nI_leE (by omega) (by omega)]; omega
    rw [F_X7_alikeWith_2_s, stL_at (by omega), if_pos l0]
    show some (nI i, encY G Y n y h0, nx) = some (nI (p + i - p), encY G Y n y h0, nx)
    rw [Nat.add_sub_cancel_left]
  | succ r ih =>
    intro i m hi hm hpi
    obtain ⟨m, rfl⟩ : ∃ q, m = q + 1 := ⟨m - 1, by omega⟩
    obtain ⟨ed, en⟩ := tx_drop k (by omega) i (by omega)
    obtain ⟨ec, ecl⟩ := W_ch k hk i (by omega)
    have ed : (Wor k).drop i = (Wor k).getD i 0 :: (Wor k).drop (i + 1) := ed
    have en : ¬ (Wor k).getD i 0 = -1 := en
    have l0 : ¬ nI (txN.getD k 0) ≤ nI i := by rw [nI_leE (by omega) (by omega)]; omega
    rw [ed]
    have es : spP tp n ((Wor k).getD i 0 :: (Wor k).drop (i + 1)) (p + i) = if hereP tp n (p + i) = (Wor k).getD i 0 then spP tp n ((Wor k).drop (i + 1)) (p + i + 1) else (false, p + i) := rfl
    rw [es, F_X7_alikeWith_2_s, stL_at (by omega), if_neg l0, yg_2, h2, yg_1, nn_some, yln_6, nI_add]
    unfold F_X7_alikeWith_49
    by_cases cl : n ≤ p + i
    · have l1 : nI n ≤ nI (p + i) := by rw [nI_leE (by omega) (by omega)]; exact cl
      rw [if_pos l1, if_neg (by rw [here_f cl]; exact fun z => en z.symm)]
      show some (nI i, encY G Y n y h0, nx) = some (nI (p + i - p), encY G Y n y h0, nx)
      rw [Nat.add_sub_cancel_left]
    · have l1 : ¬ nI n ≤ nI (p + i) := by rw [nI_leE (by omega) (by omega)]; exact cl
      have hl : p + i < n := by omega
      obtain ⟨q, hq, eq⟩ := hm6 (p + i) hl
      have e6 : ya y 6 (p + i) = sxB (nI q) := by rw [h6 _ hl, eq]
      have eh : hereP tp n (p + i) = nI q := by rw [here_t hl, eq]
      have hex : (sxB (nI q) = (Wor k).getD i 0) ↔ (hereP tp n (p + i) = (Wor k).getD i 0) := by
        rw [eh, ec, sx_eq hq ecl]
        exact (nI_eq (by omega) (by omega)).symm
      have esc : ∀ {β : Type} {f : Int32 → Option β}, stC k (nI i) f = f ((Wor k).getD i 0) := fun {β f} => stC_at (by omega) (by omega) w10
      rw [if_neg l1, yg_1, yg_2, h2, nn_some, nI_add, yal_6 hl hn, e6, esc]
      by_cases cc : hereP tp n (p + i) = (Wor k).getD i 0
      · rw [if_pos cc, if_pos (hex.mpr cc), nm_b, nI_add]
        exact ih (i + 1) m (by omega) (by omega) (by omega)
      · rw [if_neg cc, if_neg (fun z => cc (hex.mp z))]
        show some (nI i, encY G Y n y h0, nx) = some (nI (p + i - p), encY G Y n y h0, nx)
        rw [Nat.add_sub_cancel_left]
theorem y_alike {k p c : Nat} (hk : k < 6) (hR : RdY y tp n p c) : F_X7_alikeWith G (encY G Y n y h0) nx Y k = some (nI ((spP tp n (Wor k) p).2 - p), encY G Y n y h0, nx) :=
  y_al2 hk hR (txN.getD k 0) 0 fuelL (by omega) (by have := (W_len k hk).2.2; unfold fuelL; omega) hR.2.2.1
def aW (tp : Nat → Int32) (n p k : Nat) : Nat := (spP tp n (Wor k) p).2 - p
theorem aW_le {k p c : Nat} (hk : k < 6) (hR : RdY y tp n p c) : p + aW tp n p k ≤ n ∧ (spP tp n (Wor k) p).2 = p + aW tp n p k ∧ ((spP tp n (Wor k) p).1 = true → aW tp n p k = txN.getD k 0) ∧ ((spP tp n (Wor k) p).1 = false → ¬ aW tp n p k = txN.getD k 0) := by
  obtain ⟨h1, h2, h3⟩ := sp_ok (tp := tp) (z := n) (Wor k) p (tx_pos k (by omega)) hR.2.2.1
  have wl := (W_len k hk).1
  unfold aW
  refine ⟨by omega, by omega, fun z => by have := h3 z; omega, fun z => by have := sp_lt (tp := tp) (z := n) (Wor k) p z; omega⟩
set_option maxRecDepth 100000 in
set_option maxHeartbeats 1000000 in
theorem y_rwS {k p c lg m : Nat} (hk : k < 6) (hl : lg < 200) (hR : RdY y tp n p c) : F_X7_readWord_4 G (m + 1) (encY G Y n y h0) nx Y (nI lg) (nI k) = if aW tp n p k = txN.getD k 0 then some (nI k, encY G Y n (ysi y 2 (nI (p + aW tp n p k))) h0, nx) else F_X7_readWord_4 G m (encY G Y n y h0) nx Y (nI (if lg < aW tp n p k then aW tp n p k else lg)) (nI (k + 1)) := by
  have hn : n ≤ 120 := hR.1.1
  obtain ⟨q1, q2, _, _⟩ := aW_le hk hR
  have w10 := (W_len k hk).2.2
  have ea : F_X7_alikeWith G (encY G Y n y h0) nx Y k = some (nI (aW tp n p k), encY G Y n y h0, nx) := y_alike hk hR
  have ew : F_X7_wordFor G (encY G Y n y h0) nx (nI k) = some (k, encY G Y n y h0, nx) := by
    unfold F_X7_wordFor
    rcases (show k = 0 ∨ k = 1 ∨ k = 2 ∨ k = 3 ∨ k = 4 ∨ k = 5 by omega) with rfl | rfl | rfl | rfl | rfl | rfl <;> simp (disch := omega) only [nI_eqE] <;> rfl
  have l5 : ¬ nI 5 < nI k := by rw [nI_ltE (by omega) (by omega)]; omega
  rw [F_X7_readWord_4_s, if_neg l5, ew, cl_some, yk, ea, cl_some, stL_at (by omega)]
  by_cases ce : aW tp n p k = txN.getD k 0
  · rw [if_pos ce, if_pos (by rw [ce]), yg_2, hR.2.1, nI_add, yp_2]
  · have ne : ¬ nI (aW tp n p k) = nI (txN.getD k 0) := fun z => ce ((nI_eq (by omega) (by omega)).mp z)
    rw [if_neg ce, if_neg ne, nm_b, nm_b, nI_add]
    have em : mxI (nI lg) (nI (aW tp n p k)) = nI (if lg < aW tp n p k then aW tp n p k else lg) := by
      rw [mxI_le]
      have hle : (nI (aW tp n p k) ≤ nI lg) ↔ aW tp n p k ≤ lg := by rw [nI_leE (by omega) (by omega)]
      by_cases c : lg < aW tp n p k
      · rw [if_pos c, if_neg (fun z => by have := hle.mp z; omega)]
      · rw [if_neg c, if_pos (hle.mpr (by omega))]
    rw [em]
theorem y_rwE {p c : Nat} (hR : RdY y tp n p c) : ∀ (r j m lg : Nat), j + r = 6 → r < m → lg < 200 → (∀ i, j ≤ i → i < 6 → aW tp n p i = 0) → F_X7_readWord_4 G m (encY G Y n y h0) nx Y (nI lg) (nI j) = some (-1, encY G Y n (ysi y 2 (nI (p + lg))) h0, nx) := by
  intro r
  induction r with
  | zero =>
    intro j m lg hj hm hl h
    obtain ⟨m, rfl⟩ : ∃ q, m = q + 1 := ⟨m - 1, by omega⟩
    obtain rfl : j = 6 := by omega
    rw [F_X7_readWord_4_s, if_pos (by decide), yg_2, hR.2.1, nI_add, yp_2]
  | succ r ih =>
    intro j m lg hj hm hl h
    obtain ⟨m, rfl⟩ : ∃ q, m = q + 1 := ⟨m - 1, by omega⟩
    have a0 := h j (Nat.le_refl _) (by omega)
    have w0 := (W_len j (by omega)).2.1
    rw [y_rwS (by omega) hl hR, a0, if_neg (by omega), if_neg (by omega)]
    exact ih (j + 1) m lg (by omega) (by omega) hl (fun i h1 h2 => h i (by omega) h2)
theorem y_rwH {p c k : Nat} (hk : k < 6) (hR : RdY y tp n p c) (h : ∀ i, i < k → aW tp n p i = 0) : ∀ (r j m : Nat), j + r = k → r < m → F_X7_readWord_4 G m (encY G Y n y h0) nx Y (nI 0) (nI j) = F_X7_readWord_4 G (m - r) (encY G Y n y h0) nx Y (nI 0) (nI k) := by
  intro r
  induction r with
  | zero =>
    intro j m hj hm
    obtain rfl : j = k := by omega
    rfl
  | succ r ih =>
    intro j m hj hm
    obtain ⟨m, rfl⟩ : ∃ q, m = q + 1 := ⟨m - 1, by omega⟩
    have a0 := h j (by omega)
    have w0 := (W_len j (by omega)).2.1
    rw [y_rwS (by omega) (by omega) hR, a0, if_neg (by omega), if_neg (by omega), ih (j + 1) m (by omega) (by omega), show m + 1 - (r + 1) = m - r by omega]
theorem aW_no {p i : Nat} (hi : i < 6) (h : ¬ hereP tp n p = W0 i) : aW tp n p i = 0 := by
  unfold aW
  rw [sp_no hi h]
  exact Nat.sub_self p
/-- a word read -/
theorem y_word {p c k : Nat} (hk : k < 6) (hR : RdY y tp n p c) (h : hereP tp n p = W0 k) : F_X7_readWord G (encY G Y n y h0) nx Y = some (if (spP tp n (Wor k) p).1 = true then nI k else -1, encY G Y n (ysi y 2 (nI (spP tp n (Wor k) p).2)) h0, nx) := by
  have hn : n ≤ 120 := hR.1.1
  obtain ⟨q1, q2, q3, q4⟩ := aW_le hk hR
  have ho : ∀ i, i < 6 → i ≠ k → aW tp n p i = 0 := fun i hi hik => aW_no hi (by rw [h]; exact fun z => W_ne k hk i hi hik z.symm)
  unfold F_X7_readWord
  rw [y_rwH hk hR (fun i hi => ho i (by omega) (by omega)) k 0 fuelL (by omega) (by unfold fuelL; omega)]
  obtain ⟨m, em⟩ : ∃ q, fuelL - k = q + 1 := ⟨fuelL - k - 1, by unfold fuelL; omega⟩
  have hm : 100 < m := by unfold fuelL at em; omega
  rw [em, y_rwS hk (by omega) hR, q2]
  by_cases cr : (spP tp n (Wor k) p).1 = true
  · rw [if_pos cr, if_pos (q3 cr)]
  · have cr' : (spP tp n (Wor k) p).1 = false := by cases hb : (spP tp n (Wor k) p).1; rfl; exact absurd hb cr
    rw [if_neg cr, if_neg (q4 cr'), y_rwE hR (5 - k) (k + 1) m _ (by omega) (by omega) (by split <;> omega) (fun i h1 h2 => ho i h2 (by omega))]
    by_cases c0 : 0 < aW tp n p k
    · rw [if_pos c0]
    · rw [if_neg c0, show aW tp n p k = 0 by omega]
theorem y_word0 {p c : Nat} (hR : RdY y tp n p c) (h : ∀ k, k < 6 → ¬ hereP tp n p = W0 k) : F_X7_readWord G (encY G Y n y h0) nx Y = some (-1, encY G Y n (ysi y 2 (nI p)) h0, nx) := by
  unfold F_X7_readWord
  rw [y_rwE hR 6 0 fuelL 0 (by omega) (by unfold fuelL; omega) (by omega) (fun i _ hi => aW_no hi (h i hi))]
  rfl
end YW
