theorem chQ_ok {tp : Nat → Int32} {z w q : Nat} (h : q ≤ z) : q ≤ (chQ tp z w q).2.1 ∧ (chQ tp z w q).2.1 ≤ z ∧ ((chQ tp z w q).1 = true → q + (chQ tp z w q).2.2.length ≤ (chQ tp z w q).2.1) := by
  have no : ¬ false = true := by decide
  unfold chQ
  by_cases c1 : isFg tp z q
  · rw [if_pos c1]
    obtain ⟨g1, g2⟩ := fgL_le (tp := tp) (z := z) 3 (nI 0) q
    generalize fgL tp z 3 (nI 0) q = f at g1 g2 ⊢
    by_cases c2 : hereP tp z f.2 = nI 32
    · rw [if_pos c2]
      have hin : f.2 < z := here_in (by rw [c2]; decide)
      obtain ⟨o1, o2, o3⟩ := pz_ok (tp := tp) (z := z) 1000 2 0 (f.2 + 1) (by omega)
      generalize pz tp z 1000 2 0 (f.2 + 1) = r at o1 o2 o3 ⊢
      by_cases c3 : r.1 = true
      · rw [if_pos c3]
        have := (o3 c3).1
        refine ⟨by show q ≤ r.2.1; omega, o2, fun _ => ?_⟩
        show q + (r.2.2 ++ [-10 - nI 2 * f.1 - nI w]).length ≤ r.2.1
        rw [List.length_append]
        show q + (r.2.2.length + 1) ≤ r.2.1
        omega
      · rw [if_neg c3]
        exact ⟨by show q ≤ r.2.1; omega, o2, fun x => absurd x no⟩
    · rw [if_neg c2]
      exact ⟨g1, by show f.2 ≤ z; omega, fun x => absurd x no⟩
  · rw [if_neg c1]
    exact ⟨Nat.le_refl _, h, fun x => absurd x no⟩
theorem chP_ok {tp : Nat → Int32} {z w p : Nat} (hw : w < 2) (h : p ≤ z) : p ≤ (chP tp z w p).2.1 ∧ (chP tp z w p).2.1 ≤ z ∧ ((chP tp z w p).1 = true → p + (chP tp z w p).2.2.length ≤ (chP tp z w p).2.1) := by
  have no : ¬ false = true := by decide
  unfold chP
  obtain ⟨s1, s2, s3⟩ := sp_ok (tp := tp) (z := z) (txB.getD (6 + w) []) p (tx_pos (6 + w) (by omega)) h
  generalize spP tp z (txB.getD (6 + w) []) p = s at s1 s2 s3 ⊢
  by_cases c1 : s.1 = true
  · rw [if_pos c1]
    obtain ⟨h1, h2, h3⟩ := chQ_ok (tp := tp) (w := w) s2
    exact ⟨by omega, h2, fun x => by have := h3 x; omega⟩
  · rw [if_neg c1]
    exact ⟨s1, s2, fun x => absurd x no⟩
theorem tlP_ok {tp : Nat → Int32} {z k p : Nat} (hk : k < 12) (h : p ≤ z) : p ≤ (tlP tp z k p).2.1 ∧ (tlP tp z k p).2.1 ≤ z := by
  unfold tlP
  obtain ⟨s1, s2, s3⟩ := sp_ok (tp := tp) (z := z) (txB.getD k []) p (tx_pos k hk) h
  generalize spP tp z (txB.getD k []) p = s at s1 s2 s3 ⊢
  by_cases c1 : s.1 = true
  · rw [if_pos c1]
    by_cases c2 : isFg tp z s.2
    · rw [if_pos c2]
      obtain ⟨g1, g2⟩ := fgL_le (tp := tp) (z := z) 3 (nI 0) s.2
      exact ⟨by show p ≤ (fgL tp z 3 (nI 0) s.2).2; omega, by show (fgL tp z 3 (nI 0) s.2).2 ≤ z; omega⟩
    · rw [if_neg c2]
      exact ⟨s1, s2⟩
  · rw [if_neg c1]
    exact ⟨s1, s2⟩
theorem clP_ok {tp : Nat → Int32} {z p : Nat} (h : p ≤ z) : p ≤ (clP tp z p).2.1 ∧ (clP tp z p).2.1 ≤ z ∧ ((clP tp z p).1 = true → p + (clP tp z p).2.2.2.length ≤ (clP tp z p).2.1) := by
  have tl : ∀ (w k : Nat), k < 12 → p ≤ (clT w (tlP tp z k p)).2.1 ∧ (clT w (tlP tp z k p)).2.1 ≤ z ∧ ((clT w (tlP tp z k p)).1 = true → p + (clT w (tlP tp z k p)).2.2.2.length ≤ (clT w (tlP tp z k p)).2.1) := fun w k hk => by
    obtain ⟨h1, h2⟩ := tlP_ok (tp := tp) hk h
    exact ⟨h1, h2, fun _ => h1⟩
  unfold clP
  split
  · exact tl 1 9 (by omega)
  · split
    · exact chP_ok (by omega) h
    · split
      · exact chP_ok (by omega) h
      · split
        · exact tl 2 10 (by omega)
        · split
          · exact tl 3 11 (by omega)
          · split
            · exact tl 0 8 (by omega)
            · exact ⟨Nat.le_refl _, h, fun x => absurd x (show ¬ false = true by decide)⟩
