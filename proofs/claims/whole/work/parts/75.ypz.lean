/-! THE CLASS: tests, parts -/
def emY : (Nat → Int32) → Nat → List Int32 → Nat → Int32
  | f, _, [] => f
  | f, c, x :: l => emY (upK f c x) (c + 1) l
theorem emY_app : ∀ (l1 l2 : List Int32) (f : Nat → Int32) (c : Nat), emY f c (l1 ++ l2) = emY (emY f c l1) (c + l1.length) l2
  | [], _, _, _ => rfl
  | x :: l1, l2, f, c => by
    show emY _ (c + 1) (l1 ++ l2) = _
    rw [emY_app l1 l2]
    show _ = emY (emY _ (c + 1) l1) (c + (l1.length + 1)) l2
    rw [show c + 1 + l1.length = c + (l1.length + 1) by omega]
theorem emY_lo : ∀ (l : List Int32) (f : Nat → Int32) (c j : Nat), j < c → emY f c l j = f j
  | [], _, _, _, _ => rfl
  | x :: l, f, c, j, h => by
    show emY (upK f c x) (c + 1) l j = f j
    rw [emY_lo l _ (c + 1) j (by omega), upK_n (by omega)]
theorem emY_at : ∀ (l : List Int32) (f : Nat → Int32) (c j : Nat), j < l.length → emY f c l (c + j) = l.getD j 0
  | [], _, _, j, h => absurd h (by simp)
  | x :: l, f, c, 0, _ => by
    show emY (upK f c x) (c + 1) l (c + 0) = x
    rw [emY_lo l _ (c + 1) (c + 0) (by omega)]
    exact upK_s
  | x :: l, f, c, j + 1, h => by
    show emY (upK f c x) (c + 1) l (c + (j + 1)) = l.getD j 0
    rw [show c + (j + 1) = c + 1 + j by omega]
    exact emY_at l _ (c + 1) j (by simpa using h)
def RdY (y : YS) (tp : Nat → Int32) (n p c : Nat) : Prop := TxR y tp n ∧ yi y 2 = nI p ∧ p ≤ n ∧ yi y 5 = nI c ∧ c ≤ p
/-- what a reading leaves -/
def Ry (y : YS) (c : Nat) (r : Bool × Nat × List Int32) (y' : YS) : Prop := (∀ k, k ≠ 2 → k ≠ 3 → k ≠ 5 → yi y' k = yi y k) ∧ (∀ k, k ≠ 2 → ya y' k = ya y k) ∧ yi y' 2 = nI r.2.1 ∧ (r.1 = true → yi y' 5 = nI (c + r.2.2.length) ∧ ya y' 2 = emY (ya y 2) c r.2.2)
theorem Ry.pos {y y' : YS} {c q : Nat} (h : Ry y c (true, q, []) y') : yi y' 2 = nI q := h.2.2.1
theorem Ry.at2 {y : YS} {c q : Nat} (hc : yi y 5 = nI c) : Ry y c (true, q, []) (ysi y 2 (nI q)) := ⟨fun k h2 h3 h5 => yi_ysi_n h2, fun k h2 => rfl, yi_ysi_s, fun _ => ⟨by rw [yi_ysi_n (by decide)]; exact hc, rfl⟩⟩
theorem Ry.fg {y y' : YS} {c q : Nat} (h : FyR y y') (h2 : yi y' 2 = nI q) (hc : yi y 5 = nI c) : Ry y c (true, q, []) y' := ⟨fun k h2 h3 h5 => h.1 k h2 h3, fun k _ => by rw [h.2], h2, fun _ => ⟨(h.1 5 (by decide) (by decide)).trans hc, by rw [h.2]; rfl⟩⟩
theorem Ry.put {y : YS} {c q : Nat} {x : Int32} (hp : yi y 2 = nI q) : Ry y c (true, q, [x]) (ysi (ysa y 2 (upK (ya y 2) c x)) 5 (nI (c + 1))) := ⟨fun k h2 h3 h5 => by rw [yi_ysi_n h5]; rfl, fun k h2 => by rw [ya_ysi, ya_ysa_n h2], by rw [yi_ysi_n (by decide)]; exact hp, fun _ => ⟨yi_ysi_s, by rw [ya_ysi, ya_ysa_s]; rfl⟩⟩
theorem Ry.bad {y y' : YS} {c : Nat} {r : Bool × Nat × List Int32} {l : List Int32} (h : Ry y c r y') : Ry y c (false, r.2.1, l) y' := ⟨h.1, h.2.1, h.2.2.1, fun z => absurd z (show ¬ false = true by decide)⟩
theorem Ry.rd {y y' : YS} {tp : Nat → Int32} {n p c : Nat} {r : Bool × Nat × List Int32} (hR : RdY y tp n p c) (h : Ry y c r y') (ok : r.1 = true) (hp : p + r.2.2.length ≤ r.2.1) (hz : r.2.1 ≤ n) : RdY y' tp n r.2.1 (c + r.2.2.length) := by
  obtain ⟨hT, h2, hpn, h5, hc⟩ := hR
  obtain ⟨e5, _⟩ := h.2.2.2 ok
  exact ⟨hT.cg (h.2.1 6 (by decide)), h.2.2.1, hz, e5, by omega⟩
theorem Ry.seq {y y1 y2 : YS} {c : Nat} {r1 r2 : Bool × Nat × List Int32} (h1 : Ry y c r1 y1) (ok : r1.1 = true) (h2 : Ry y1 (c + r1.2.2.length) r2 y2) : Ry y c (r2.1, r2.2.1, r1.2.2 ++ r2.2.2) y2 := by
  obtain ⟨a5, a2⟩ := h1.2.2.2 ok
  refine ⟨fun k q2 q3 q5 => (h2.1 k q2 q3 q5).trans (h1.1 k q2 q3 q5), fun k q2 => (h2.2.1 k q2).trans (h1.2.1 k q2), h2.2.2.1, fun z => ?_⟩
  obtain ⟨b5, b2⟩ := h2.2.2.2 z
  refine ⟨?_, ?_⟩
  · rw [b5]
    show nI (c + r1.2.2.length + r2.2.2.length) = nI (c + (r1.2.2 ++ r2.2.2).length)
    rw [List.length_append, Nat.add_assoc]
  · rw [b2, a2]
    exact (emY_app _ _ _ _).symm
section YP
variable {G : Gx} {Y n nx : Nat} {y : YS} {h0 : Hp} {tp : Nat → Int32}
theorem RdY.adv {p c : Nat} (hR : RdY y tp n p c) (hp : p < n) : RdY (ysi y 2 (nI (p + 1))) tp n (p + 1) c := ⟨hR.1.cg rfl, yi_ysi_s, hp, by rw [yi_ysi_n (by decide)]; exact hR.2.2.2.1, by have := hR.2.2.2.2; omega⟩
theorem here_lt {p x : Nat} (h : hereP tp n p = nI x) (hx : x < 2 ^ 31) : p < n := here_in (fun z => by rw [h] at z; exact nI_m1 hx z.symm)
/-- take, as one of two -/
theorem y_takeT {p c x : Nat} (hR : RdY y tp n p c) (hx : x < 128) (h : hereP tp n p = nI x) : F_X7_take G (encY G Y n y h0) nx Y (nI x) = some (nI 1, encY G Y n (ysi y 2 (nI (p + 1))) h0, nx) := by
  rw [y_take hR.1 hR.2.1 hR.2.2.1 hx, if_pos h, if_pos h]
theorem y_takeF {p c x : Nat} (hR : RdY y tp n p c) (hx : x < 128) (h : ¬ hereP tp n p = nI x) : F_X7_take G (encY G Y n y h0) nx Y (nI x) = some (nI 0, encY G Y n y h0, nx) := by
  rw [y_take hR.1 hR.2.1 hR.2.2.1 hx, if_neg h, if_neg h]
theorem ts_sum {v s a : Int32} : v * nI 8 + s * nI 2 + a = a + nI 2 * s + nI 8 * v := by
  rw [Int32.mul_comm v, Int32.mul_comm s, Int32.add_comm (nI 8 * v), Int32.add_comm _ a, ← Int32.add_assoc]
set_option maxRecDepth 100000 in
set_option maxHeartbeats 1000000 in
theorem y_t74 {p c s a : Nat} (hs : s ≤ 2) (hR : RdY y tp n p c) (hcp : c < p) : ∃ y' : YS, F_X7_readTest_74 G (encY G Y n y h0) nx (nI s) Y (nI a) = some (if isFg tp n p then nI 1 else nI 0, encY G Y n y' h0, nx) ∧ Ry y c (if isFg tp n p then (true, (fgL tp n 3 (nI 0) p).2, [nI a + nI 2 * nI s + nI 8 * (fgL tp n 3 (nI 0) p).1]) else (false, p, [])) y' := by
  obtain ⟨hT, h2, hpn, h5, hc⟩ := id hR
  obtain ⟨y1, e1, f1, p1, v1⟩ := y_number (G := G) (Y := Y) (nx := nx) (h0 := h0) hT h2 hpn
  have c1 : yi y1 5 = nI c := (f1.1 5 (by decide) (by decide)).trans h5
  have hn : n ≤ 120 := hT.1
  unfold F_X7_readTest_74 F_X7_readTest_86
  by_cases cf : isFg tp n p
  · rw [if_pos cf] at e1 p1
    rw [if_pos cf, if_pos cf]
    have r1 := Ry.fg f1 p1 h5
    have e2 := y_put (G := G) (Y := Y) (n := n) (nx := nx) (h0 := h0) c1 (by omega) (nI a + nI 2 * nI s + nI 8 * (fgL tp n 3 (nI 0) p).1)
    refine ⟨_, ?_, r1.seq rfl (Ry.put p1)⟩
    rw [if_neg (nI_pos (by omega)), yk, e1, cl_some, if_neg (show ¬ nI 1 = 0 by decide), yg_3, v1, yk, ts_sum, e2, cl_some, zk_n1]
    rfl
  · rw [if_neg cf] at e1 p1
    rw [if_neg cf, if_neg cf]
    refine ⟨y1, ?_, (Ry.fg f1 p1 h5).bad⟩
    rw [if_neg (nI_pos (by omega)), yk, e1, cl_some, if_pos (show nI 0 = 0 from rfl), zk_n0]
set_option maxRecDepth 100000 in
set_option maxHeartbeats 1000000 in
theorem y_t27 {p c a : Nat} (ha : a < 2 ^ 31) (hR : RdY y tp n p c) : ∃ y' : YS, F_X7_readTest_27 G (encY G Y n y h0) nx (nI a) Y = some (if isOp (hereP tp n p) then (if isFg tp n (p + 1) then nI 1 else nI 0) else nI 0, encY G Y n y' h0, nx) ∧ Ry y c (if isOp (hereP tp n p) then (if isFg tp n (p + 1) then (true, (fgL tp n 3 (nI 0) (p + 1)).2, [nI a + nI 2 * opN (hereP tp n p) + nI 8 * (fgL tp n 3 (nI 0) (p + 1)).1]) else (false, p + 1, [])) else (false, p, [])) y' := by
  obtain ⟨hT, h2, hpn, h5, hc⟩ := id hR
  have ha0 : (0 : Int32) ≤ nI a := nI_pos' ha
  unfold F_X7_readTest_27
  rw [if_pos ha0, yk]
  have fin : ∀ s x, s ≤ 2 → x < 128 → hereP tp n p = nI x → opN (hereP tp n p) = nI s → isOp (hereP tp n p) → ∃ y' : YS, F_X7_readTest_74 G (encY G Y n (ysi y 2 (nI (p + 1))) h0) nx (nI s) Y (nI a) = some (if isOp (hereP tp n p) then (if isFg tp n (p + 1) then nI 1 else nI 0) else nI 0, encY G Y n y' h0, nx) ∧ Ry y c (if isOp (hereP tp n p) then (if isFg tp n (p + 1) then (true, (fgL tp n 3 (nI 0) (p + 1)).2, [nI a + nI 2 * opN (hereP tp n p) + nI 8 * (fgL tp n 3 (nI 0) (p + 1)).1]) else (false, p + 1, [])) else (false, p, [])) y' := by
    intro s x hs hx hh ho hi
    obtain ⟨y', e, r⟩ := y_t74 (G := G) (Y := Y) (nx := nx) (h0 := h0) (a := a) hs (hR.adv (here_lt hh (by omega))) (by omega)
    rw [if_pos hi, if_pos hi, ho]
    refine ⟨y', e, ?_⟩
    have := (Ry.at2 (q := p + 1) h5).seq rfl r
    by_cases cf : isFg tp n (p + 1)
    · rw [if_pos cf] at this ⊢
      exact this
    · rw [if_neg cf] at this ⊢
      exact this
  by_cases c60 : hereP tp n p = nI 60
  · have e0 := y_takeT (G := G) (Y := Y) (nx := nx) (h0 := h0) hR (show 60 < 128 by decide) c60
    obtain ⟨y', e, r⟩ := fin 0 60 (by decide) (by decide) c60 (by rw [c60]; decide) (Or.inl c60)
    refine ⟨y', ?_, r⟩
    rw [e0, cl_some, if_neg (show ¬ nI 1 = 0 by decide)]
    exact e
  · have e0 := y_takeF (G := G) (Y := Y) (nx := nx) (h0 := h0) hR (show 60 < 128 by decide) c60
    rw [e0, cl_some, if_pos (show nI 0 = 0 from rfl), yk]
    by_cases c61 : hereP tp n p = nI 61
    · have e1 := y_takeT (G := G) (Y := Y) (nx := nx) (h0 := h0) hR (show 61 < 128 by decide) c61
      obtain ⟨y', e, r⟩ := fin 1 61 (by decide) (by decide) c61 (by rw [c61]; decide) (Or.inr (Or.inl c61))
      refine ⟨y', ?_, r⟩
      rw [e1, cl_some, if_neg (show ¬ nI 1 = 0 by decide)]
      exact e
    · have e1 := y_takeF (G := G) (Y := Y) (nx := nx) (h0 := h0) hR (show 61 < 128 by decide) c61
      rw [e1, cl_some, if_pos (show nI 0 = 0 from rfl), yk]
      by_cases c62 : hereP tp n p = nI 62
      · have e2 := y_takeT (G := G) (Y := Y) (nx := nx) (h0 := h0) hR (show 62 < 128 by decide) c62
        obtain ⟨y', e, r⟩ := fin 2 62 (by decide) (by decide) c62 (by rw [c62]; decide) (Or.inr (Or.inr c62))
        refine ⟨y', ?_, r⟩
        rw [e2, cl_some, if_neg (show ¬ nI 1 = 0 by decide)]
        exact e
      · have e2 := y_takeF (G := G) (Y := Y) (nx := nx) (h0 := h0) hR (show 62 < 128 by decide) c62
        have hno : ¬ isOp (hereP tp n p) := fun z => z.elim c60 (fun z => z.elim c61 c62)
        rw [if_neg hno, if_neg hno]
        refine ⟨y, ?_, ⟨fun k _ _ _ => rfl, fun k _ => rfl, h2, fun z => absurd z (show ¬ false = true by decide)⟩⟩
        rw [e2, cl_some, if_pos (show nI 0 = 0 from rfl)]
        unfold F_X7_readTest_74 F_X7_readTest_86
        rw [if_pos (by decide), zk_n0]
set_option maxRecDepth 100000 in
set_option maxHeartbeats 1000000 in
theorem y_test {p c : Nat} (hR : RdY y tp n p c) : ∃ y' : YS, F_X7_readTest G (encY G Y n y h0) nx Y = some (b2i (tsP tp n p).1, encY G Y n y' h0, nx) ∧ Ry y c (tsP tp n p) y' := by
  obtain ⟨hT, h2, hpn, h5, hc⟩ := id hR
  have fin : ∀ a x, a < 2 ^ 31 → x < 128 → hereP tp n p = nI x → (hereP tp n p = nI 100 ∨ hereP tp n p = nI 107) → (if hereP tp n p = nI 100 then nI 0 else nI 1) = nI a → ∃ y' : YS, F_X7_readTest_27 G (encY G Y n (ysi y 2 (nI (p + 1))) h0) nx (nI a) Y = some (b2i (tsP tp n p).1, encY G Y n y' h0, nx) ∧ Ry y c (tsP tp n p) y' := by
    intro a x ha hx hh ho hi
    obtain ⟨y', e, r⟩ := y_t27 (G := G) (Y := Y) (nx := nx) (h0 := h0) ha (hR.adv (here_lt hh (by omega)))
    have s := (Ry.at2 (q := p + 1) h5).seq rfl r
    refine ⟨y', ?_, ?_⟩
    · rw [e]
      unfold tsP
      rw [if_pos ho]
      by_cases c1 : isOp (hereP tp n (p + 1))
      · rw [if_pos c1, if_pos c1]
        by_cases c2 : isFg tp n (p + 2)
        · rw [if_pos (show isFg tp n (p + 1 + 1) from c2), if_pos c2]; rfl
        · rw [if_neg (show ¬ isFg tp n (p + 1 + 1) from c2), if_neg c2]; rfl
      · rw [if_neg c1, if_neg c1]; rfl
    · unfold tsP
      rw [if_pos ho, hi]
      by_cases c1 : isOp (hereP tp n (p + 1))
      · rw [if_pos c1] at s ⊢
        by_cases c2 : isFg tp n (p + 2)
        · rw [if_pos (show isFg tp n (p + 1 + 1) from c2)] at s
          rw [if_pos c2]
          exact s
        · rw [if_neg (show ¬ isFg tp n (p + 1 + 1) from c2)] at s
          rw [if_neg c2]
          exact s
      · rw [if_neg c1] at s ⊢
        exact s
  unfold F_X7_readTest
  rw [yk]
  by_cases c100 : hereP tp n p = nI 100
  · have e0 := y_takeT (G := G) (Y := Y) (nx := nx) (h0 := h0) hR (show 100 < 128 by decide) c100
    obtain ⟨y', e, r⟩ := fin 0 100 (by decide) (by decide) c100 (Or.inl c100) (if_pos c100)
    refine ⟨y', ?_, r⟩
    rw [e0, cl_some, if_neg (show ¬ nI 1 = 0 by decide)]
    exact e
  · have e0 := y_takeF (G := G) (Y := Y) (nx := nx) (h0 := h0) hR (show 100 < 128 by decide) c100
    rw [e0, cl_some, if_pos (show nI 0 = 0 from rfl), yk]
    by_cases c107 : hereP tp n p = nI 107
    · have e1 := y_takeT (G := G) (Y := Y) (nx := nx) (h0 := h0) hR (show 107 < 128 by decide) c107
      obtain ⟨y', e, r⟩ := fin 1 107 (by decide) (by decide) c107 (Or.inr c107) (if_neg c100)
      refine ⟨y', ?_, r⟩
      rw [e1, cl_some, if_neg (show ¬ nI 1 = 0 by decide)]
      exact e
    · have e1 := y_takeF (G := G) (Y := Y) (nx := nx) (h0 := h0) hR (show 107 < 128 by decide) c107
      rw [ts_no (fun z => z.elim c100 c107)]
      refine ⟨y, ?_, ⟨fun k _ _ _ => rfl, fun k _ => rfl, h2, fun z => absurd z (show ¬ false = true by decide)⟩⟩
      rw [e1, cl_some, if_pos (show nI 0 = 0 from rfl)]
      unfold F_X7_readTest_27
      rw [if_neg (by decide), zk_n0]
      rfl
def mgY (k d : Nat) : Nat := 1 + 3 * (5 - d) + (if k = 1 then 1 else if k = 2 then 2 else if k = 4 then 1 else 0)
noncomputable def PY (G : Gx) (Y n : Nat) (h0 : Hp) (nx : Nat) (y : YS) (d mg ml i : Nat) : Nat → Rz Int32
  | 0 => F_X7_readPart G mg (encY G Y n y h0) nx Y (nI d)
  | 1 => F_X7_readBoth G mg (encY G Y n y h0) nx Y (nI d)
  | 2 => F_X7_readEither G mg (encY G Y n y h0) nx Y (nI d)
  | 3 => F_X7_readBoth_12 G (F_X7_readBoth G mg) (F_X7_readEither G mg) (F_X7_readPart G mg) ml (encY G Y n y h0) nx Y (nI d) (nI i)
  | _ => F_X7_readEither_12 G (F_X7_readBoth G mg) (F_X7_readEither G mg) (F_X7_readPart G mg) ml (encY G Y n y h0) nx Y (nI d) (nI i)
theorem Ry.no {y : YS} {c p : Nat} (h2 : yi y 2 = nI p) : Ry y c (false, p, []) y := ⟨fun k _ _ _ => rfl, fun k _ => rfl, h2, fun z => absurd z (show ¬ false = true by decide)⟩
theorem Ry.yes {y : YS} {c p : Nat} (h2 : yi y 2 = nI p) (h5 : yi y 5 = nI c) : Ry y c (true, p, []) y := ⟨fun k _ _ _ => rfl, fun k _ => rfl, h2, fun _ => ⟨h5, rfl⟩⟩
theorem b2_f {b : Bool} (h : ¬ b = true) : b2i b = nI 0 := by cases b; rfl; exact absurd rfl h
theorem b2_t {b : Bool} (h : b = true) : b2i b = nI 1 := by rw [h]; rfl
set_option maxRecDepth 100000 in
set_option maxHeartbeats 1000000 in
theorem y_pz : ∀ (N k d p c mg ml i : Nat) (y : YS), k ≤ 4 → d ≤ 5 → 4 * (n - p) + rkN k ≤ N → mgY k d ≤ mg → n - p < ml → i ≤ p → RdY y tp n p c → ∃ y' : YS, PY G Y n h0 nx y d mg ml i k = some (b2i (pz tp n N k d p).1, encY G Y n y' h0, nx) ∧ Ry y c (pz tp n N k d p) y' := by
  intro N
  induction N with
  | zero =>
    intro k d p c mg ml i y hk hd hn
    exfalso
    unfold rkN at hn
    split at hn
    · omega
    · split at hn <;> omega
  | succ N ih =>
    intro k d p c mg ml i y hk hd hN hg hl hi hR
    obtain ⟨hT, h2, hpn, h5, hc⟩ := id hR
    have hn : n ≤ 120 := hT.1
    rcases (show k = 0 ∨ k = 1 ∨ k = 2 ∨ k = 3 ∨ k = 4 by omega) with rfl | rfl | rfl | rfl | rfl
    · -- a part
      have hg' : 1 + 3 * (5 - d) + 0 ≤ mg := hg
      have hN' : 4 * (n - p) + 1 ≤ N + 1 := hN
      obtain ⟨mg, rfl⟩ : ∃ q, mg = q + 1 := ⟨mg - 1, by omega⟩
      obtain ⟨yT, eT, rT⟩ := y_test (G := G) (Y := Y) (nx := nx) (h0 := h0) hR
      have e77 : ∀ cb ce cp, F_X7_readPart_77 G cb ce cp (encY G Y n y h0) nx Y = some (b2i (tsP tp n p).1, encY G Y n yT h0, nx) := fun cb ce cp => by
        unfold F_X7_readPart_77
        rw [yk, eT, cl_some, zk_of (b2i_z _)]
      show ∃ y', F_X7_readPart G (mg + 1) (encY G Y n y h0) nx Y (nI d) = _ ∧ _
      rw [F_X7_readPart_s, pz_e0]
      unfold B_X7_readPart F_X7_readPart_38 F_X7_readPart_37 F_X7_readPart_36 F_X7_readPart_37 F_X7_readPart_75 F_X7_readPart_76
      by_cases c5 : d = 5
      · have l5 : nI 5 ≤ nI d := by rw [nI_leE (by omega) (by omega)]; omega
        rw [if_pos l5, if_pos l5, if_neg (show ¬ (d < 5 ∧ hereP tp n p = nI 33) from fun z => by have := z.1; omega), if_neg (show ¬ (d < 5 ∧ hereP tp n p = nI 40) from fun z => by have := z.1; omega)]
        exact ⟨yT, e77 _ _ _, rT⟩
      · have l5 : ¬ nI 5 ≤ nI d := by rw [nI_leE (by omega) (by omega)]; omega
        rw [if_neg l5, yk]
        by_cases c33 : hereP tp n p = nI 33
        · have hlt := here_lt c33 (by decide)
          have e0 := y_takeT (G := G) (Y := Y) (nx := nx) (h0 := h0) hR (show 33 < 128 by decide) c33
          have hR1 := hR.adv hlt
          obtain ⟨y1, e1, r1⟩ := ih 0 (d + 1) (p + 1) c mg (n + 1) 0 _ (by omega) (by omega) (by show 4 * (n - (p + 1)) + 1 ≤ N; omega) (by show 1 + 3 * (5 - (d + 1)) + 0 ≤ mg; omega) (by omega) (by omega) hR1
          have e1 : F_X7_readPart G mg (encY G Y n (ysi y 2 (nI (p + 1))) h0) nx Y (nI (d + 1)) = _ := e1
          have ok := pz_ok (tp := tp) (z := n) N 0 (d + 1) (p + 1) (by omega)
          have q1 := (Ry.at2 (q := p + 1) h5).seq rfl r1
          rw [if_pos ⟨by omega, c33⟩, e0, cl_some, if_neg (show ¬ nI 1 = 0 by decide), yk, nI_add, e1, cl_some]
          by_cases cr : (pz tp n N 0 (d + 1) (p + 1)).1 = true
          · have hR2 := Ry.rd hR1 r1 cr (ok.2.2 cr).1 ok.2.1
            have hlen := (ok.2.2 cr).1
            have hlast := ok.2.1
            have e2 := y_put (G := G) (Y := Y) (n := n) (nx := nx) (h0 := h0) hR2.2.2.2.1 (by omega) (-1)
            rw [if_pos cr, if_neg (by rw [b2_t cr]; decide), yk, e2, cl_some, if_neg (show ¬ nI 1 = 0 by decide), zk_n1]
            exact ⟨_, rfl, q1.seq cr (Ry.put hR2.2.1)⟩
          · rw [if_neg cr, if_pos (by rw [b2_f cr]; rfl), zk_n0]
            exact ⟨y1, rfl, q1.bad⟩
        · have e0 := y_takeF (G := G) (Y := Y) (nx := nx) (h0 := h0) hR (show 33 < 128 by decide) c33
          rw [if_neg (fun z => c33 z.2), e0, cl_some, if_pos (show nI 0 = 0 from rfl), if_neg l5, yk]
          by_cases c40 : hereP tp n p = nI 40
          · have hlt := here_lt c40 (by decide)
            have e0 := y_takeT (G := G) (Y := Y) (nx := nx) (h0 := h0) hR (show 40 < 128 by decide) c40
            have hR1 := hR.adv hlt
            obtain ⟨y1, e1, r1⟩ := ih 2 (d + 1) (p + 1) c mg (n + 1) 0 _ (by omega) (by omega) (by show 4 * (n - (p + 1)) + 3 ≤ N; omega) (by show 1 + 3 * (5 - (d + 1)) + 2 ≤ mg; omega) (by omega) (by omega) hR1
            have e1 : F_X7_readEither G mg (encY G Y n (ysi y 2 (nI (p + 1))) h0) nx Y (nI (d + 1)) = _ := e1
            have ok := pz_ok (tp := tp) (z := n) N 2 (d + 1) (p + 1) (by omega)
            have q1 := (Ry.at2 (q := p + 1) h5).seq rfl r1
            rw [if_pos ⟨by omega, c40⟩, e0, cl_some, if_neg (show ¬ nI 1 = 0 by decide), yk, nI_add, e1, cl_some]
            by_cases cr : (pz tp n N 2 (d + 1) (p + 1)).1 = true
            · have hR2 := Ry.rd hR1 r1 cr (ok.2.2 cr).1 ok.2.1
              rw [if_neg (by rw [b2_t cr]; decide), yk]
              by_cases c41 : hereP tp n (pz tp n N 2 (d + 1) (p + 1)).2.1 = nI 41
              · have e2 := y_takeT (G := G) (Y := Y) (nx := nx) (h0 := h0) hR2 (show 41 < 128 by decide) c41
                have q2 := q1.seq cr (Ry.at2 (q := (pz tp n N 2 (d + 1) (p + 1)).2.1 + 1) hR2.2.2.2.1)
                rw [if_pos ⟨cr, c41⟩, e2, cl_some, if_neg (show ¬ nI 1 = 0 by decide), zk_n1]
                refine ⟨_, rfl, ?_⟩
                rw [List.append_nil] at q2
                exact q2
              · have e2 := y_takeF (G := G) (Y := Y) (nx := nx) (h0 := h0) hR2 (show 41 < 128 by decide) c41
                rw [if_neg (fun z => c41 z.2), e2, cl_some, if_pos (show nI 0 = 0 from rfl), zk_n0]
                exact ⟨y1, rfl, q1.bad⟩
            · have eb : b2i (pz tp n N 2 (d + 1) (p + 1)).1 = 0 := by rw [b2_f cr]; rfl
              rw [if_pos eb, zk_n0, if_neg (fun z => cr z.1)]
              exact ⟨y1, rfl, q1.bad⟩
          · have e0 := y_takeF (G := G) (Y := Y) (nx := nx) (h0 := h0) hR (show 40 < 128 by decide) c40
            rw [if_neg (fun z => c40 z.2), e0, cl_some, if_pos (show nI 0 = 0 from rfl)]
            exact ⟨yT, e77 _ _ _, rT⟩
    · -- a both
      have hg' : 1 + 3 * (5 - d) + 1 ≤ mg := hg
      have hN' : 4 * (n - p) + 2 ≤ N + 1 := hN
      obtain ⟨mg, rfl⟩ : ∃ q, mg = q + 1 := ⟨mg - 1, by omega⟩
      show ∃ y', F_X7_readBoth G (mg + 1) (encY G Y n y h0) nx Y (nI d) = _ ∧ _
      obtain ⟨y1, e1, r1⟩ := ih 0 d p c mg (n + 1) 0 y (by omega) hd (by show 4 * (n - p) + 1 ≤ N; omega) (by show 1 + 3 * (5 - d) + 0 ≤ mg; omega) (by omega) (by omega) hR
      have e1 : F_X7_readPart G mg (encY G Y n y h0) nx Y (nI d) = _ := e1
      have ok := pz_ok (tp := tp) (z := n) N 0 d p hpn
      rw [F_X7_readBoth_s, pz_e1]
      unfold B_X7_readBoth
      rw [yk, e1, cl_some]
      by_cases cr : (pz tp n N 0 d p).1 = true
      · have hR2 := Ry.rd hR r1 cr (ok.2.2 cr).1 ok.2.1
        have hlt := (ok.2.2 cr).2 (by omega)
        obtain ⟨y2, e2, r2⟩ := ih 3 d (pz tp n N 0 d p).2.1 (c + (pz tp n N 0 d p).2.2.length) mg fuelL 0 y1 (by omega) hd (by show 4 * (n - (pz tp n N 0 d p).2.1) + 1 ≤ N; omega) (by show 1 + 3 * (5 - d) + 0 ≤ mg; omega) (by unfold fuelL; omega) (by omega) hR2
        have e2 : F_X7_readBoth_12 G (F_X7_readBoth G mg) (F_X7_readEither G mg) (F_X7_readPart G mg) fuelL (encY G Y n y1 h0) nx Y (nI d) (nI 0) = _ := e2
        rw [if_pos cr, if_neg (by rw [b2_t cr]; decide)]
        exact ⟨y2, e2, r1.seq cr r2⟩
      · rw [if_neg cr, if_pos (by rw [b2_f cr]; rfl), zk_n0]
        exact ⟨y1, rfl, r1.bad⟩
    · -- an either
      have hg' : 1 + 3 * (5 - d) + 2 ≤ mg := hg
      have hN' : 4 * (n - p) + 3 ≤ N + 1 := hN
      obtain ⟨mg, rfl⟩ : ∃ q, mg = q + 1 := ⟨mg - 1, by omega⟩
      show ∃ y', F_X7_readEither G (mg + 1) (encY G Y n y h0) nx Y (nI d) = _ ∧ _
      obtain ⟨y1, e1, r1⟩ := ih 1 d p c mg (n + 1) 0 y (by omega) hd (by show 4 * (n - p) + 2 ≤ N; omega) (by show 1 + 3 * (5 - d) + 1 ≤ mg; omega) (by omega) (by omega) hR
      have e1 : F_X7_readBoth G mg (encY G Y n y h0) nx Y (nI d) = _ := e1
      have ok := pz_ok (tp := tp) (z := n) N 1 d p hpn
      rw [F_X7_readEither_s, pz_e2]
      unfold B_X7_readEither
      rw [yk, e1, cl_some]
      by_cases cr : (pz tp n N 1 d p).1 = true
      · have hR2 := Ry.rd hR r1 cr (ok.2.2 cr).1 ok.2.1
        have hlt := (ok.2.2 cr).2 (by omega)
        obtain ⟨y2, e2, r2⟩ := ih 4 d (pz tp n N 1 d p).2.1 (c + (pz tp n N 1 d p).2.2.length) mg fuelL 0 y1 (by omega) hd (by show 4 * (n - (pz tp n N 1 d p).2.1) + 1 ≤ N; omega) (by show 1 + 3 * (5 - d) + 1 ≤ mg; omega) (by unfold fuelL; omega) (by omega) hR2
        have e2 : F_X7_readEither_12 G (F_X7_readBoth G mg) (F_X7_readEither G mg) (F_X7_readPart G mg) fuelL (encY G Y n y1 h0) nx Y (nI d) (nI 0) = _ := e2
        rw [if_pos cr, if_neg (by rw [b2_t cr]; decide)]
        exact ⟨y2, e2, r1.seq cr r2⟩
      · rw [if_neg cr, if_pos (by rw [b2_f cr]; rfl), zk_n0]
        exact ⟨y1, rfl, r1.bad⟩
    · -- what follows a both
      have hg' : 1 + 3 * (5 - d) + 0 ≤ mg := hg
      have hN' : 4 * (n - p) + 1 ≤ N + 1 := hN
      obtain ⟨ml, rfl⟩ : ∃ q, ml = q + 1 := ⟨ml - 1, by omega⟩
      show ∃ y', F_X7_readBoth_12 G (F_X7_readBoth G mg) (F_X7_readEither G mg) (F_X7_readPart G mg) (ml + 1) (encY G Y n y h0) nx Y (nI d) (nI i) = _ ∧ _
      rw [F_X7_readBoth_12_s, pz_e3]
      unfold F_X7_readBoth_52 F_X7_readBoth_44
      by_cases c38 : hereP tp n p = nI 38
      · have hlt := here_lt c38 (by decide)
        have e0 := y_takeT (G := G) (Y := Y) (nx := nx) (h0 := h0) hR (show 38 < 128 by decide) c38
        have hR1 := hR.adv hlt
        obtain ⟨y1, e1, r1⟩ := ih 0 d (p + 1) c mg (n + 1) 0 _ (by omega) hd (by show 4 * (n - (p + 1)) + 1 ≤ N; omega) (by show 1 + 3 * (5 - d) + 0 ≤ mg; omega) (by omega) (by omega) hR1
        have e1 : F_X7_readPart G mg (encY G Y n (ysi y 2 (nI (p + 1))) h0) nx Y (nI d) = _ := e1
        have ok := pz_ok (tp := tp) (z := n) N 0 d (p + 1) (by omega)
        have q1 := (Ry.at2 (q := p + 1) h5).seq rfl r1
        have l120 : ¬ nI 120 ≤ nI i := by rw [nI_leE (by omega) (by omega)]; omega
        rw [if_pos c38, if_neg l120, yk, e0, cl_some, if_neg (show ¬ nI 1 = 0 by decide), yk, e1, cl_some]
        by_cases cr : (pz tp n N 0 d (p + 1)).1 = true
        · have hR2 := Ry.rd hR1 r1 cr (ok.2.2 cr).1 ok.2.1
          have hlen := (ok.2.2 cr).1
          have hlt2 := (ok.2.2 cr).2 (by omega)
          have hlast := ok.2.1
          have e2 := y_put (G := G) (Y := Y) (n := n) (nx := nx) (h0 := h0) hR2.2.2.2.1 (by omega) (-2)
          have rp := Ry.put (c := c + (pz tp n N 0 d (p + 1)).2.2.length) (x := (-2)) hR2.2.1
          have hR3 : RdY _ tp n (pz tp n N 0 d (p + 1)).2.1 (c + (pz tp n N 0 d (p + 1)).2.2.length + 1) := ⟨hR2.1.cg (rp.2.1 6 (by decide)), rp.2.2.1, ok.2.1, (rp.2.2.2 rfl).1, by omega⟩
          obtain ⟨y3, e3, r3⟩ := ih 3 d (pz tp n N 0 d (p + 1)).2.1 (c + (pz tp n N 0 d (p + 1)).2.2.length + 1) mg ml (i + 1) _ (by omega) hd (by show 4 * (n - (pz tp n N 0 d (p + 1)).2.1) + 1 ≤ N; omega) (by show 1 + 3 * (5 - d) + 0 ≤ mg; omega) (by omega) (by omega) hR3
          have e3 : F_X7_readBoth_12 G (F_X7_readBoth G mg) (F_X7_readEither G mg) (F_X7_readPart G mg) ml (encY G Y n _ h0) nx Y (nI d) (nI (i + 1)) = _ := e3
          rw [if_pos cr, if_neg (by rw [b2_t cr]; decide), yk, e2, cl_some, if_neg (show ¬ nI 1 = 0 by decide), nm_b, nI_add]
          exact ⟨y3, e3, q1.seq cr (rp.seq rfl r3)⟩
        · rw [if_neg cr, if_pos (by rw [b2_f cr]; rfl), zk_n0]
          exact ⟨y1, rfl, q1.bad⟩
      · have e0 := y_takeF (G := G) (Y := Y) (nx := nx) (h0 := h0) hR (show 38 < 128 by decide) c38
        rw [if_neg c38]
        refine ⟨y, ?_, Ry.yes h2 h5⟩
        by_cases l120 : nI 120 ≤ nI i
        · rw [if_pos l120, zk_n1]; rfl
        · rw [if_neg l120, yk, e0, cl_some, if_pos (show nI 0 = 0 from rfl), zk_n1]; rfl
    · -- what follows an either
      have hg' : 1 + 3 * (5 - d) + 1 ≤ mg := hg
      have hN' : 4 * (n - p) + 1 ≤ N + 1 := hN
      obtain ⟨ml, rfl⟩ : ∃ q, ml = q + 1 := ⟨ml - 1, by omega⟩
      show ∃ y', F_X7_readEither_12 G (F_X7_readBoth G mg) (F_X7_readEither G mg) (F_X7_readPart G mg) (ml + 1) (encY G Y n y h0) nx Y (nI d) (nI i) = _ ∧ _
      rw [F_X7_readEither_12_s, show pz tp n (N + 1) 4 d p = _ from pz_e4 (k := 0)]
      unfold F_X7_readEither_52 F_X7_readEither_44
      by_cases c124 : hereP tp n p = nI 124
      · have hlt := here_lt c124 (by decide)
        have e0 := y_takeT (G := G) (Y := Y) (nx := nx) (h0 := h0) hR (show 124 < 128 by decide) c124
        have hR1 := hR.adv hlt
        obtain ⟨y1, e1, r1⟩ := ih 1 d (p + 1) c mg (n + 1) 0 _ (by omega) hd (by show 4 * (n - (p + 1)) + 2 ≤ N; omega) (by show 1 + 3 * (5 - d) + 1 ≤ mg; omega) (by omega) (by omega) hR1
        have e1 : F_X7_readBoth G mg (encY G Y n (ysi y 2 (nI (p + 1))) h0) nx Y (nI d) = _ := e1
        have ok := pz_ok (tp := tp) (z := n) N 1 d (p + 1) (by omega)
        have q1 := (Ry.at2 (q := p + 1) h5).seq rfl r1
        have l120 : ¬ nI 120 ≤ nI i := by rw [nI_leE (by omega) (by omega)]; omega
        rw [if_pos c124, if_neg l120, yk, e0, cl_some, if_neg (show ¬ nI 1 = 0 by decide), yk, e1, cl_some]
        by_cases cr : (pz tp n N 1 d (p + 1)).1 = true
        · have hR2 := Ry.rd hR1 r1 cr (ok.2.2 cr).1 ok.2.1
          have hlen := (ok.2.2 cr).1
          have hlt2 := (ok.2.2 cr).2 (by omega)
          have hlast := ok.2.1
          have e2 := y_put (G := G) (Y := Y) (n := n) (nx := nx) (h0 := h0) hR2.2.2.2.1 (by omega) (-3)
          have rp := Ry.put (c := c + (pz tp n N 1 d (p + 1)).2.2.length) (x := (-3)) hR2.2.1
          have hR3 : RdY _ tp n (pz tp n N 1 d (p + 1)).2.1 (c + (pz tp n N 1 d (p + 1)).2.2.length + 1) := ⟨hR2.1.cg (rp.2.1 6 (by decide)), rp.2.2.1, ok.2.1, (rp.2.2.2 rfl).1, by omega⟩
          obtain ⟨y3, e3, r3⟩ := ih 4 d (pz tp n N 1 d (p + 1)).2.1 (c + (pz tp n N 1 d (p + 1)).2.2.length + 1) mg ml (i + 1) _ (by omega) hd (by show 4 * (n - (pz tp n N 1 d (p + 1)).2.1) + 1 ≤ N; omega) (by show 1 + 3 * (5 - d) + 1 ≤ mg; omega) (by omega) (by omega) hR3
          have e3 : F_X7_readEither_12 G (F_X7_readBoth G mg) (F_X7_readEither G mg) (F_X7_readPart G mg) ml (encY G Y n _ h0) nx Y (nI d) (nI (i + 1)) = _ := e3
          rw [if_pos cr, if_neg (by rw [b2_t cr]; decide), yk, e2, cl_some, if_neg (show ¬ nI 1 = 0 by decide), nm_b, nI_add]
          exact ⟨y3, e3, q1.seq cr (rp.seq rfl r3)⟩
        · rw [if_neg cr, if_pos (by rw [b2_f cr]; rfl), zk_n0]
          exact ⟨y1, rfl, q1.bad⟩
      · have e0 := y_takeF (G := G) (Y := Y) (nx := nx) (h0 := h0) hR (show 124 < 128 by decide) c124
        rw [if_neg c124]
        refine ⟨y, ?_, Ry.yes h2 h5⟩
        by_cases l120 : nI 120 ≤ nI i
        · rw [if_pos l120, zk_n1]; rfl
        · rw [if_neg l120, yk, e0, cl_some, if_pos (show nI 0 = 0 from rfl), zk_n1]; rfl
/-- an either from its beginning -/
theorem y_either {p c : Nat} (hR : RdY y tp n p c) : ∃ y' : YS, F_X7_readEither G 64 (encY G Y n y h0) nx Y (nI 0) = some (b2i (pz tp n 1000 2 0 p).1, encY G Y n y' h0, nx) ∧ Ry y c (pz tp n 1000 2 0 p) y' := by
  have hn : n ≤ 120 := hR.1.1
  exact y_pz (G := G) (Y := Y) (nx := nx) (h0 := h0) 1000 2 0 p c 64 (n + 1) 0 y (by omega) (by omega) (by show 4 * (n - p) + 3 ≤ 1000; omega) (by decide) (by omega) (by omega) hR
end YP
