theorem ts_ok {tp : Nat → Int32} {z p : Nat} (hp : p ≤ z) : p ≤ (tsP tp z p).2.1 ∧ (tsP tp z p).2.1 ≤ z ∧ ((tsP tp z p).1 = true → p + (tsP tp z p).2.2.length ≤ (tsP tp z p).2.1 ∧ p < (tsP tp z p).2.1) := by
  unfold tsP
  by_cases c1 : hereP tp z p = nI 100 ∨ hereP tp z p = nI 107
  · rw [if_pos c1]
    have hin : p < z := here_in (fun q => by rw [q] at c1; exact absurd c1 (by decide))
    by_cases c2 : isOp (hereP tp z (p + 1))
    · rw [if_pos c2]
      have hin2 : p + 1 < z := here_in (fun q => by rw [q] at c2; exact absurd c2 (by decide))
      by_cases c3 : isFg tp z (p + 2)
      · rw [if_pos c3]
        have hin3 := fg_in c3
        obtain ⟨q1, q2⟩ := fgL_le (tp := tp) (z := z) 3 (nI 0) (p + 2)
        refine ⟨by show p ≤ (fgL tp z 3 (nI 0) (p + 2)).2; omega, by show (fgL tp z 3 (nI 0) (p + 2)).2 ≤ z; omega, fun _ => ⟨?_, ?_⟩⟩
        · show p + 1 ≤ (fgL tp z 3 (nI 0) (p + 2)).2
          omega
        · show p < (fgL tp z 3 (nI 0) (p + 2)).2
          omega
      · rw [if_neg c3]
        exact ⟨by show p ≤ p + 2; omega, by show p + 2 ≤ z; omega, fun q => absurd q (show ¬ false = true by decide)⟩
    · rw [if_neg c2]
      exact ⟨by show p ≤ p + 1; omega, by show p + 1 ≤ z; omega, fun q => absurd q (show ¬ false = true by decide)⟩
  · rw [if_neg c1]
    exact ⟨Nat.le_refl _, hp, fun q => absurd q (show ¬ false = true by decide)⟩
/-- a reading keeps to its text -/
def PzO (z p k : Nat) (r : Bool × Nat × List Int32) : Prop := p ≤ r.2.1 ∧ r.2.1 ≤ z ∧ (r.1 = true → p + r.2.2.length ≤ r.2.1 ∧ (k ≤ 2 → p < r.2.1))
theorem pz_e0 {tp : Nat → Int32} {z n d p : Nat} : pz tp z (n + 1) 0 d p = (if d < 5 ∧ hereP tp z p = nI 33 then (if (pz tp z n 0 (d + 1) (p + 1)).1 = true then (true, (pz tp z n 0 (d + 1) (p + 1)).2.1, (pz tp z n 0 (d + 1) (p + 1)).2.2 ++ [-1]) else (false, (pz tp z n 0 (d + 1) (p + 1)).2.1, [])) else if d < 5 ∧ hereP tp z p = nI 40 then (if (pz tp z n 2 (d + 1) (p + 1)).1 = true ∧ hereP tp z (pz tp z n 2 (d + 1) (p + 1)).2.1 = nI 41 then (true, (pz tp z n 2 (d + 1) (p + 1)).2.1 + 1, (pz tp z n 2 (d + 1) (p + 1)).2.2) else (false, (pz tp z n 2 (d + 1) (p + 1)).2.1, [])) else tsP tp z p) := rfl
theorem pz_e1 {tp : Nat → Int32} {z n d p : Nat} : pz tp z (n + 1) 1 d p = (if (pz tp z n 0 d p).1 = true then ((pz tp z n 3 d (pz tp z n 0 d p).2.1).1, (pz tp z n 3 d (pz tp z n 0 d p).2.1).2.1, (pz tp z n 0 d p).2.2 ++ (pz tp z n 3 d (pz tp z n 0 d p).2.1).2.2) else (false, (pz tp z n 0 d p).2.1, [])) := rfl
theorem pz_e2 {tp : Nat → Int32} {z n d p : Nat} : pz tp z (n + 1) 2 d p = (if (pz tp z n 1 d p).1 = true then ((pz tp z n 4 d (pz tp z n 1 d p).2.1).1, (pz tp z n 4 d (pz tp z n 1 d p).2.1).2.1, (pz tp z n 1 d p).2.2 ++ (pz tp z n 4 d (pz tp z n 1 d p).2.1).2.2) else (false, (pz tp z n 1 d p).2.1, [])) := rfl
theorem pz_e3 {tp : Nat → Int32} {z n d p : Nat} : pz tp z (n + 1) 3 d p = (if hereP tp z p = nI 38 then (if (pz tp z n 0 d (p + 1)).1 = true then ((pz tp z n 3 d (pz tp z n 0 d (p + 1)).2.1).1, (pz tp z n 3 d (pz tp z n 0 d (p + 1)).2.1).2.1, (pz tp z n 0 d (p + 1)).2.2 ++ (-2 :: (pz tp z n 3 d (pz tp z n 0 d (p + 1)).2.1).2.2)) else (false, (pz tp z n 0 d (p + 1)).2.1, [])) else (true, p, [])) := rfl
theorem pz_e4 {tp : Nat → Int32} {z n k d p : Nat} : pz tp z (n + 1) (k + 4) d p = (if hereP tp z p = nI 124 then (if (pz tp z n 1 d (p + 1)).1 = true then ((pz tp z n 4 d (pz tp z n 1 d (p + 1)).2.1).1, (pz tp z n 4 d (pz tp z n 1 d (p + 1)).2.1).2.1, (pz tp z n 1 d (p + 1)).2.2 ++ (-3 :: (pz tp z n 4 d (pz tp z n 1 d (p + 1)).2.1).2.2)) else (false, (pz tp z n 1 d (p + 1)).2.1, [])) else (true, p, [])) := rfl
theorem pz_ok {tp : Nat → Int32} {z : Nat} : ∀ (n k d p : Nat), p ≤ z → PzO z p k (pz tp z n k d p)
  | 0, _, _, p, h => ⟨Nat.le_refl _, h, fun q => absurd q (show ¬ false = true by decide)⟩
  | n + 1, 0, d, p, h => by
    rw [pz_e0]
    by_cases c1 : d < 5 ∧ hereP tp z p = nI 33
    · rw [if_pos c1]
      have hin : p < z := here_in (fun q => by rw [q] at c1; exact absurd c1.2 (by decide))
      obtain ⟨h1, h2, h3⟩ := pz_ok (tp := tp) (z := z) n 0 (d + 1) (p + 1) (by omega)
      generalize pz tp z n 0 (d + 1) (p + 1) = r at h1 h2 h3 ⊢
      by_cases c2 : r.1 = true
      · rw [if_pos c2]
        obtain ⟨h4, h5⟩ := h3 c2
        have h5 := h5 (by omega)
        refine ⟨by show p ≤ r.2.1; omega, h2, fun _ => ⟨?_, fun _ => by show p < r.2.1; omega⟩⟩
        show p + (r.2.2 ++ [-1]).length ≤ r.2.1
        rw [List.length_append]
        show p + (r.2.2.length + 1) ≤ r.2.1
        omega
      · rw [if_neg c2]
        exact ⟨by show p ≤ r.2.1; omega, h2, fun q => absurd q (show ¬ false = true by decide)⟩
    · rw [if_neg c1]
      by_cases c3 : d < 5 ∧ hereP tp z p = nI 40
      · rw [if_pos c3]
        have hin : p < z := here_in (fun q => by rw [q] at c3; exact absurd c3.2 (by decide))
        obtain ⟨h1, h2, h3⟩ := pz_ok (tp := tp) (z := z) n 2 (d + 1) (p + 1) (by omega)
        generalize pz tp z n 2 (d + 1) (p + 1) = r at h1 h2 h3 ⊢
        by_cases c2 : r.1 = true ∧ hereP tp z r.2.1 = nI 41
        · rw [if_pos c2]
          obtain ⟨h4, h5⟩ := h3 c2.1
          have hin2 : r.2.1 < z := here_in (fun q => by rw [q] at c2; exact absurd c2.2 (by decide))
          refine ⟨by show p ≤ r.2.1 + 1; omega, by show r.2.1 + 1 ≤ z; omega, fun _ => ⟨?_, fun _ => by show p < r.2.1 + 1; omega⟩⟩
          show p + r.2.2.length ≤ r.2.1 + 1
          omega
        · rw [if_neg c2]
          exact ⟨by show p ≤ r.2.1; omega, h2, fun q => absurd q (show ¬ false = true by decide)⟩
      · rw [if_neg c3]
        obtain ⟨h1, h2, h3⟩ := ts_ok (tp := tp) h
        exact ⟨h1, h2, fun q => ⟨(h3 q).1, fun _ => (h3 q).2⟩⟩
  | n + 1, 1, d, p, h => by
    rw [pz_e1]
    obtain ⟨h1, h2, h3⟩ := pz_ok (tp := tp) (z := z) n 0 d p h
    generalize pz tp z n 0 d p = r at h1 h2 h3 ⊢
    by_cases c : r.1 = true
    · rw [if_pos c]
      obtain ⟨h4, h5⟩ := h3 c
      have h5 := h5 (by omega)
      obtain ⟨g1, g2, g3⟩ := pz_ok (tp := tp) (z := z) n 3 d r.2.1 h2
      generalize pz tp z n 3 d r.2.1 = r2 at g1 g2 g3 ⊢
      refine ⟨by show p ≤ r2.2.1; omega, g2, fun q => ⟨?_, fun _ => by show p < r2.2.1; omega⟩⟩
      have := (g3 q).1
      show p + (r.2.2 ++ r2.2.2).length ≤ r2.2.1
      rw [List.length_append]
      omega
    · rw [if_neg c]
      exact ⟨h1, h2, fun q => absurd q (show ¬ false = true by decide)⟩
  | n + 1, 2, d, p, h => by
    rw [pz_e2]
    obtain ⟨h1, h2, h3⟩ := pz_ok (tp := tp) (z := z) n 1 d p h
    generalize pz tp z n 1 d p = r at h1 h2 h3 ⊢
    by_cases c : r.1 = true
    · rw [if_pos c]
      obtain ⟨h4, h5⟩ := h3 c
      have h5 := h5 (by omega)
      obtain ⟨g1, g2, g3⟩ := pz_ok (tp := tp) (z := z) n 4 d r.2.1 h2
      generalize pz tp z n 4 d r.2.1 = r2 at g1 g2 g3 ⊢
      refine ⟨by show p ≤ r2.2.1; omega, g2, fun q => ⟨?_, fun _ => by show p < r2.2.1; omega⟩⟩
      have := (g3 q).1
      show p + (r.2.2 ++ r2.2.2).length ≤ r2.2.1
      rw [List.length_append]
      omega
    · rw [if_neg c]
      exact ⟨h1, h2, fun q => absurd q (show ¬ false = true by decide)⟩
  | n + 1, 3, d, p, h => by
    rw [pz_e3]
    by_cases c1 : hereP tp z p = nI 38
    · rw [if_pos c1]
      have hin : p < z := here_in (fun q => by rw [q] at c1; exact absurd c1 (by decide))
      obtain ⟨h1, h2, h3⟩ := pz_ok (tp := tp) (z := z) n 0 d (p + 1) (by omega)
      generalize pz tp z n 0 d (p + 1) = r at h1 h2 h3 ⊢
      by_cases c : r.1 = true
      · rw [if_pos c]
        obtain ⟨h4, h5⟩ := h3 c
        obtain ⟨g1, g2, g3⟩ := pz_ok (tp := tp) (z := z) n 3 d r.2.1 h2
        generalize pz tp z n 3 d r.2.1 = r2 at g1 g2 g3 ⊢
        refine ⟨by show p ≤ r2.2.1; omega, g2, fun q => ⟨?_, fun q => absurd q (by decide)⟩⟩
        have := (g3 q).1
        show p + (r.2.2 ++ (-2 :: r2.2.2)).length ≤ r2.2.1
        rw [List.length_append]
        show p + (r.2.2.length + (r2.2.2.length + 1)) ≤ r2.2.1
        omega
      · rw [if_neg c]
        exact ⟨by show p ≤ r.2.1; omega, h2, fun q => absurd q (show ¬ false = true by decide)⟩
    · rw [if_neg c1]
      exact ⟨Nat.le_refl _, h, fun _ => ⟨Nat.le_refl _, fun q => absurd q (by decide)⟩⟩
  | n + 1, k + 4, d, p, h => by
    rw [pz_e4]
    by_cases c1 : hereP tp z p = nI 124
    · rw [if_pos c1]
      have hin : p < z := here_in (fun q => by rw [q] at c1; exact absurd c1 (by decide))
      obtain ⟨h1, h2, h3⟩ := pz_ok (tp := tp) (z := z) n 1 d (p + 1) (by omega)
      generalize pz tp z n 1 d (p + 1) = r at h1 h2 h3 ⊢
      by_cases c : r.1 = true
      · rw [if_pos c]
        obtain ⟨h4, h5⟩ := h3 c
        obtain ⟨g1, g2, g3⟩ := pz_ok (tp := tp) (z := z) n 4 d r.2.1 h2
        generalize pz tp z n 4 d r.2.1 = r2 at g1 g2 g3 ⊢
        refine ⟨by show p ≤ r2.2.1; omega, g2, fun q => ⟨?_, fun q => absurd q (by omega)⟩⟩
        have := (g3 q).1
        show p + (r.2.2 ++ (-3 :: r2.2.2)).length ≤ r2.2.1
        rw [List.length_append]
        show p + (r.2.2.length + (r2.2.2.length + 1)) ≤ r2.2.1
        omega
      · rw [if_neg c]
        exact ⟨by show p ≤ r.2.1; omega, h2, fun q => absurd q (show ¬ false = true by decide)⟩
    · rw [if_neg c1]
      exact ⟨Nat.le_refl _, h, fun _ => ⟨Nat.le_refl _, fun q => absurd q (by omega)⟩⟩
/-- a reading went well: the reader after -/
theorem Rs.rd {st st' : MS} {tp : Nat → Int32} {z p a c d : Nat} {r : Bool × Nat × List Int32} (hR : Rd st tp z p a c d) (h : Rs st a c d r st') (ok : r.1 = true) (hp : p + r.2.2.length ≤ r.2.1) (hz : r.2.1 ≤ z) : Rd st' tp z r.2.1 a (c + r.2.2.length) d ∧ ma st' 1 = emR (ma st 1) a c r.2.2 := by
  obtain ⟨⟨h5, h6, hz1, hp1⟩, h7, h8, h4, ha, hc, hcp, htp⟩ := hR
  obtain ⟨X, f, q5, q8, qt, _⟩ := h
  obtain ⟨q7, hX⟩ := qt ok
  have e1 : ma st' 1 = emR (ma st 1) a c r.2.2 := by rw [f.ofa 1 (by decide), ma_msa_s, hX]
  refine ⟨⟨⟨q5, (f.of1 6 (by decide)).trans h6, hz1, hz⟩, q7, q8, (f.of1 4 (by decide)).trans h4, ha, by rw [e1]; exact emR_cn _ _ _ hc, by omega, fun i hi => ?_⟩, e1⟩
  rw [← htp i hi]
  unfold tpM
  rw [e1]
  exact emR_ag r.2.2 (ma st 1) c ha (by omega) (10 + i) (by omega) (by omega) (by omega)
/-- two readings, one after the other -/
theorem Rs.seq {st st1 st2 : MS} {a c d : Nat} {r1 r2 : Bool × Nat × List Int32} (h1 : Rs st a c d r1 st1) (ok : r1.1 = true) (h2 : Rs st1 a (c + r1.2.2.length) d r2 st2) (ha : a < 6) (hl : c + r1.2.2.length ≤ 140) {code : List Int32} (hc : r2.1 = true → code = r1.2.2 ++ r2.2.2) : Rs st a c d (r2.1, r2.2.1, code) st2 := by
  obtain ⟨X1, f1, q5, q8, qt, _⟩ := h1
  obtain ⟨q7, hX1⟩ := qt ok
  obtain ⟨X2, f2, w5, w8, wt, wf⟩ := h2
  have e1 : ma st1 1 = X1 := by rw [f1.ofa 1 (by decide), ma_msa_s]
  have f3 := fr_cg1 (f := X2) f1
  rw [msa_msa] at f3
  refine ⟨X2, (f3.trans f2).mono (by decide), w5, w8, fun q => ?_, fun q => ?_⟩
  · obtain ⟨w7, hX2⟩ := wt q
    exact ⟨w7, by rw [hX2, e1, hX1, hc q, emR_app]⟩
  · obtain ⟨w7, ag⟩ := wf q
    refine ⟨w7, ?_⟩
    rw [e1, hX1] at ag
    exact (emR_ag r1.2.2 (ma st 1) c ha hl).trans ag
