/-! THE CLASS: a text -/
theorem emR_Y {a : Nat} : ∀ (l : List Int32) (s : Nat → Int32) (c j : Nat), a < 6 → emR s a c l (170 + 140 * a + j) = emY (fun j => s (170 + 140 * a + j)) c l j
  | [], _, _, _, _ => rfl
  | x :: l, s, c, j, ha => by
    show emR (upK (upK s (170 + 140 * a + c) x) (130 + a) (nI (c + 1))) a (c + 1) l (170 + 140 * a + j) = emY (upK (fun j => s (170 + 140 * a + j)) c x) (c + 1) l j
    rw [emR_Y l _ (c + 1) j ha]
    refine congrArg (fun f => emY f (c + 1) l j) (funext fun i => ?_)
    show upK (upK s (170 + 140 * a + c) x) (130 + a) (nI (c + 1)) (170 + 140 * a + i) = _
    rw [upK_n (by omega)]
    by_cases e : i = c
    · subst e; rw [upK_s, upK_s]
    · rw [upK_n (by omega), upK_n e]
theorem emR_v {a : Nat} : ∀ (l : List Int32) (s : Nat → Int32) (c k : Nat), k ≠ 130 + a → k < 170 + 140 * a → emR s a c l k = s k
  | [], _, _, _, _, _ => rfl
  | x :: l, s, c, k, h1, h2 => by
    show emR (upK (upK s (170 + 140 * a + c) x) (130 + a) (nI (c + 1))) a (c + 1) l k = s k
    rw [emR_v l _ (c + 1) k h1 h2, upK_n h1, upK_n (by omega)]
theorem sgL_len : ∀ sg : List Sg, (sgL sg).length = lenS sg + sg.length
  | [] => rfl
  | g :: r => by
    have ih := sgL_len r
    rw [sgL_c]
    simp only [List.length_append, List.length_cons]
    show _ = g.2.2.length + lenS r + (r.length + 1)
    omega
theorem sgL_app : ∀ (sg : List Sg) (g : Sg), sgL (sg ++ [g]) = sgL sg ++ (g.2.2 ++ [-10 - nI 2 * g.2.1 - g.1])
  | [], _ => rfl
  | x :: r, g => by
    show sgL (x :: (r ++ [g])) = _
    rw [sgL_c, sgL_c, sgL_app r g, List.append_assoc]
    rfl
theorem lenS_app : ∀ (sg : List Sg) (g : Sg), lenS (sg ++ [g]) = lenS sg + g.2.2.length
  | [], g => by show g.2.2.length + 0 = 0 + g.2.2.length; omega
  | x :: r, g => by
    have ih := lenS_app r g
    show x.2.2.length + lenS (r ++ [g]) = x.2.2.length + lenS r + g.2.2.length
    omega
theorem SgAt_app {co cw cn ce co' cw' cn' ce' : Nat → Int32} {g : Sg} : ∀ (sg : List Sg) (i q : Nat), SgAt co cw cn ce i q sg → (∀ j, j < q + lenS sg → co' j = co j) → (∀ j, j < i + sg.length → cw' j = cw j ∧ cn' j = cn j ∧ ce' j = ce j) → cw' (i + sg.length) = g.1 → cn' (i + sg.length) = g.2.1 → ce' (i + sg.length) = nI (q + lenS sg + g.2.2.length) → (∀ j, j < g.2.2.length → co' (q + lenS sg + j) = g.2.2.getD j 0) → SgAt co' cw' cn' ce' i q (sg ++ [g])
  | [], i, q, _, _, _, h1, h2, h3, h4 => ⟨h1, h2, h3, h4, trivial⟩
  | x :: r, i, q, ⟨s1, s2, s3, s4, s5⟩, ho, hw, h1, h2, h3, h4 => by
    have hl : lenS (x :: r) = x.2.2.length + lenS r := rfl
    have hn : (x :: r).length = r.length + 1 := rfl
    obtain ⟨w1, w2, w3⟩ := hw i (by omega)
    refine ⟨w1.trans s1, w2.trans s2, w3.trans s3, fun j hj => by rw [ho _ (by omega)]; exact s4 j hj, ?_⟩
    refine SgAt_app r (i + 1) (q + x.2.2.length) s5 (fun j hj => ho j (by omega)) (fun j hj => hw j (by omega)) ?_ ?_ ?_ ?_
    · rw [show i + 1 + r.length = i + (x :: r).length by omega]; exact h1
    · rw [show i + 1 + r.length = i + (x :: r).length by omega]; exact h2
    · rw [show i + 1 + r.length = i + (x :: r).length by omega, show q + x.2.2.length + lenS r + g.2.2.length = q + lenS (x :: r) + g.2.2.length by omega]; exact h3
    · intro j hj
      rw [show q + x.2.2.length + lenS r + j = q + lenS (x :: r) + j by omega]
      exact h4 j hj
/-- the class's object against the reference's row -/
def Iv (y : YS) (X : Nat → Int32) (a c : Nat) (sg : List Sg) : Prop := (∀ g ∈ sg, SgOk g) ∧ c = lenS sg + sg.length ∧ yi y 5 = nI (lenS sg) ∧ yi y 9 = nI sg.length ∧ SgAt (ya y 2) (ya y 3) (ya y 4) (ya y 5) 0 0 sg ∧ X (130 + a) = nI c ∧ (∀ j, j < c → X (170 + 140 * a + j) = (sgL sg).getD j 0) ∧ ∀ w, w < 4 → ya y 1 (2 + w) = X (140 + 4 * a + w) ∧ ∃ v, v ≤ 999 ∧ ya y 1 (2 + w) = nI v
theorem Iv.step {y y' : YS} {X : Nat → Int32} {a c : Nat} {sg : List Sg} {r : Bool × Nat × Option (Nat × Int32) × List Int32} (h : Iv y X a c sg) (ha : a < 6) (hk : Rk y (lenS sg) sg.length r y') : ∃ sg', Iv y' (emR (wrO X a r.2.2.1) a c r.2.2.2) a (c + r.2.2.2.length) sg' ∧ sg'.length ≤ sg.length + 1 ∧ ya y' 6 = ya y 6 ∧ lenS sg' ≤ lenS sg + r.2.2.2.length := by
  obtain ⟨i1, i2, i3, i4, i5, i6, i7, i8⟩ := h
  rcases hk with ⟨w, v, e1, e2, hw, hv, k5, k9, ko, k1⟩ | ⟨g, e1, hg, e2, k5, k9, k1, k6, k2, k3, k4, kk5⟩
  · refine ⟨sg, ?_, by omega, ko 6 (by decide), by omega⟩
    rw [e1, e2]
    show Iv y' (upK X (140 + 4 * a + w) (nI v)) a (c + 0) sg
    refine ⟨i1, i2, k5.trans i3, k9.trans i4, ?_, ?_, fun j hj => ?_, fun j hj => ?_⟩
    · rw [ko 2 (by decide), ko 3 (by decide), ko 4 (by decide), ko 5 (by decide)]; exact i5
    · rw [upK_n (by omega)]; exact i6
    · rw [upK_n (by omega)]; exact i7 j hj
    · rw [k1]
      by_cases e : j = w
      · subst e
        rw [upK_s, upK_s]
        exact ⟨rfl, v, hv, rfl⟩
      · rw [upK_n (by omega), upK_n (by omega)]
        exact i8 j hj
  · refine ⟨sg ++ [g], ?_, by simp, k6, by rw [lenS_app, e2]; simp only [List.length_append]; omega⟩
    rw [e1, e2]
    show Iv y' (emR X a c (g.2.2 ++ [-10 - nI 2 * g.2.1 - g.1])) a (c + (g.2.2 ++ [-10 - nI 2 * g.2.1 - g.1]).length) (sg ++ [g])
    have el : (sg ++ [g]).length = sg.length + 1 := by simp
    have ec : (g.2.2 ++ [-10 - nI 2 * g.2.1 - g.1]).length = g.2.2.length + 1 := by simp
    have eL : (sgL sg).length = c := by rw [sgL_len]; exact i2.symm
    refine ⟨?_, by rw [lenS_app, el, ec]; omega, by rw [lenS_app]; exact k5, by rw [el]; exact k9, ?_, emR_cn _ _ _ i6, fun j hj => ?_, fun j hj => ?_⟩
    · intro x hx
      rcases List.mem_append.mp hx with z | z
      · exact i1 x z
      · obtain rfl := List.mem_singleton.mp z
        exact hg
    · refine SgAt_app sg 0 0 i5 (fun j hj => ?_) (fun j hj => ⟨?_, ?_, ?_⟩) ?_ ?_ ?_ (fun j hj => ?_)
      · rw [k2]; exact emY_lo _ _ _ _ (by omega)
      · rw [k3, upK_n (by omega)]
      · rw [k4, upK_n (by omega)]
      · rw [kk5, upK_n (by omega)]
      · rw [k3, Nat.zero_add, upK_s]
      · rw [k4, Nat.zero_add, upK_s]
      · rw [kk5, Nat.zero_add, Nat.zero_add, upK_s]
      · rw [k2, Nat.zero_add]
        exact emY_at _ _ _ _ hj
    · rw [emR_Y _ _ _ _ ha, sgL_app]
      by_cases hjc : j < c
      · rw [emY_lo _ _ _ _ hjc]
        show X (170 + 140 * a + j) = _
        rw [i7 j hjc]
        simp only [List.getD_eq_getElem?_getD]
        rw [List.getElem?_append_left (by omega)]
      · obtain ⟨i, rfl⟩ : ∃ i, j = c + i := ⟨j - c, by omega⟩
        rw [emY_at _ _ _ _ (by omega)]
        simp only [List.getD_eq_getElem?_getD]
        rw [List.getElem?_append_right (l₁ := sgL sg) (by omega), eL, Nat.add_sub_cancel_left]
    · rw [k1, emR_v _ _ _ _ (by omega) (by omega)]
      exact i8 j hj
/-- a text from a clause on -/
def txP (tp : Nat → Int32) (z a r p c : Nat) (X : Nat → Int32) : Bool × Nat × Nat × (Nat → Int32) := if (clP tp z p).1 = true then soP tp z a r (clP tp z p).2.1 (c + (clP tp z p).2.2.2.length) (emR (wrO X a (clP tp z p).2.2.1) a c (clP tp z p).2.2.2) else (false, (clP tp z p).2.1, c, X)
theorem so_s {tp : Nat → Int32} {z a r p c : Nat} {X : Nat → Int32} : soP tp z a (r + 1) p c X = if hereP tp z p = nI 59 then txP tp z a r (p + 1) c X else (true, p, c, X) := rfl
section YR
variable {G : Gx} {Y n nx : Nat} {h0 : Hp} {tp : Nat → Int32}
set_option maxRecDepth 100000 in
set_option maxHeartbeats 1000000 in
theorem y_rt2 {a : Nat} (ha : a < 6) : ∀ (r i m p c : Nat) (X : Nat → Int32) (sg : List Sg) (y : YS), i + r = 10 → 1 ≤ i → r < m → RdY y tp n p (lenS sg) → Iv y X a c sg → sg.length ≤ i - 1 → ∃ y' : YS, F_X7_readText_2 G m (encY G Y n y h0) nx Y (nI i) = some (if (txP tp n a r p c X).1 = true ∧ (txP tp n a r p c X).2.1 = n then -1 else nI (txP tp n a r p c X).2.1, encY G Y n y' h0, nx) ∧ ((txP tp n a r p c X).1 = true → (txP tp n a r p c X).2.1 = n → ∃ sg', Iv y' (txP tp n a r p c X).2.2.2 a (txP tp n a r p c X).2.2.1 sg' ∧ sg'.length ≤ 10 ∧ lenS sg' ≤ n) := by
  intro r
  induction r with
  | zero =>
    intro i m p c X sg y hi h1 hm hR hI hs
    obtain ⟨m, rfl⟩ : ∃ q, m = q + 1 := ⟨m - 1, by omega⟩
    obtain rfl : i = 10 := by omega
    have hn : n ≤ 120 := hR.1.1
    obtain ⟨y1, e1, p1, k1⟩ := y_clause (G := G) (Y := Y) (nx := nx) (h0 := h0) hR hI.2.2.2.1 (by omega)
    have ok := clP_ok (tp := tp) (z := n) (p := p) hR.2.2.1
    rw [F_X7_readText_2_s, if_neg (by decide), yk, e1, cl_some]
    unfold F_X7_readText_49 txP
    by_cases cr : (clP tp n p).1 = true
    · obtain ⟨sg', I', l', a6, ls⟩ := hI.step ha (k1 cr)
      have hc := ok.2.2 cr
      have hR5 := hR.2.2.2.2
      rw [if_pos cr, if_neg (by rw [b2_t cr]; decide), yg_2, p1, yg_1, nn_some, yln_6]
      by_cases ce : (clP tp n p).2.1 = n
      · have hcond : (soP tp n a 0 (clP tp n p).2.1 (c + (clP tp n p).2.2.2.length) (emR (wrO X a (clP tp n p).2.2.1) a c (clP tp n p).2.2.2)).1 = true ∧ (soP tp n a 0 (clP tp n p).2.1 (c + (clP tp n p).2.2.2.length) (emR (wrO X a (clP tp n p).2.2.1) a c (clP tp n p).2.2.2)).2.1 = n := ⟨rfl, ce⟩
        refine ⟨y1, ?_, fun _ _ => ⟨sg', I', by omega, by omega⟩⟩
        rw [if_pos (by rw [ce]), if_pos hcond]
      · have cn : ¬ nI (clP tp n p).2.1 = nI n := fun z => ce ((nI_eq (by omega) (by omega)).mp z)
        have hcond : ¬ ((soP tp n a 0 (clP tp n p).2.1 (c + (clP tp n p).2.2.2.length) (emR (wrO X a (clP tp n p).2.2.1) a c (clP tp n p).2.2.2)).1 = true ∧ (soP tp n a 0 (clP tp n p).2.1 (c + (clP tp n p).2.2.2.length) (emR (wrO X a (clP tp n p).2.2.1) a c (clP tp n p).2.2.2)).2.1 = n) := fun z => ce z.2
        refine ⟨y1, ?_, fun _ z => absurd z ce⟩
        rw [if_neg cn, if_pos rfl, yg_2, p1, if_neg hcond]
        rfl
    · rw [if_neg cr, if_pos (by rw [b2_f cr]; rfl), yg_2, p1, if_neg (show ¬ (false = true ∧ (clP tp n p).2.1 = n) from fun z => ffF z.1)]
      exact ⟨y1, rfl, fun z => absurd z ffF⟩
  | succ r ih =>
    intro i m p c X sg y hi h1 hm hR hI hs
    obtain ⟨m, rfl⟩ : ∃ q, m = q + 1 := ⟨m - 1, by omega⟩
    have hn : n ≤ 120 := hR.1.1
    obtain ⟨y1, e1, p1, k1⟩ := y_clause (G := G) (Y := Y) (nx := nx) (h0 := h0) hR hI.2.2.2.1 (by omega)
    have ok := clP_ok (tp := tp) (z := n) (p := p) hR.2.2.1
    have l10 : ¬ nI 10 < nI i := by rw [nI_ltE (by omega) (by omega)]; omega
    have i10 : ¬ nI i = nI 10 := fun z => by have := (nI_eq (by omega) (by omega)).mp z; omega
    rw [F_X7_readText_2_s, if_neg l10, yk, e1, cl_some]
    unfold F_X7_readText_49
    have et : txP tp n a (r + 1) p c X = if (clP tp n p).1 = true then (if hereP tp n (clP tp n p).2.1 = nI 59 then txP tp n a r ((clP tp n p).2.1 + 1) (c + (clP tp n p).2.2.2.length) (emR (wrO X a (clP tp n p).2.2.1) a c (clP tp n p).2.2.2) else (true, (clP tp n p).2.1, c + (clP tp n p).2.2.2.length, emR (wrO X a (clP tp n p).2.2.1) a c (clP tp n p).2.2.2)) else (false, (clP tp n p).2.1, c, X) := rfl
    rw [et]
    by_cases cr : (clP tp n p).1 = true
    · obtain ⟨sg', I', l', a6, ls⟩ := hI.step ha (k1 cr)
      have hc := ok.2.2 cr
      have hR5 := hR.2.2.2.2
      have hR1 : RdY y1 tp n (clP tp n p).2.1 (lenS sg') := ⟨hR.1.cg a6, p1, ok.2.1, I'.2.2.1, by omega⟩
      rw [if_pos cr, if_neg (by rw [b2_t cr]; decide), yg_2, p1, yg_1, nn_some, yln_6]
      by_cases c59 : hereP tp n (clP tp n p).2.1 = nI 59
      · have hlt := here_lt c59 (by decide)
        have cn : ¬ nI (clP tp n p).2.1 = nI n := fun z => by have := (nI_eq (by omega) (by omega)).mp z; omega
        have e2 := y_takeT (G := G) (Y := Y) (nx := nx) (h0 := h0) hR1 (show 59 < 128 by decide) c59
        have I2 : Iv (ysi y1 2 (nI ((clP tp n p).2.1 + 1))) (emR (wrO X a (clP tp n p).2.2.1) a c (clP tp n p).2.2.2) a (c + (clP tp n p).2.2.2.length) sg' := by
          obtain ⟨i1, i2, i3, i4, i5⟩ := I'
          exact ⟨i1, i2, by rw [yi_ysi_n (by decide)]; exact i3, by rw [yi_ysi_n (by decide)]; exact i4, i5⟩
        obtain ⟨y', r1, r2⟩ := ih (i + 1) m ((clP tp n p).2.1 + 1) _ _ sg' _ (by omega) (by omega) (by omega) (hR1.adv hlt) I2 (by omega)
        rw [if_pos c59, if_neg cn, if_neg i10, yk, e2, cl_some, if_neg (show ¬ nI 1 = 0 by decide), nm_b, nI_add]
        exact ⟨y', r1, r2⟩
      · rw [if_neg c59]
        by_cases ce : (clP tp n p).2.1 = n
        · refine ⟨y1, ?_, fun _ _ => ⟨sg', I', by omega, by omega⟩⟩
          rw [if_pos (by rw [ce]), if_pos (show true = true ∧ (clP tp n p).2.1 = n from ⟨rfl, ce⟩)]
        · have cn : ¬ nI (clP tp n p).2.1 = nI n := fun z => ce ((nI_eq (by omega) (by omega)).mp z)
          have e2 := y_takeF (G := G) (Y := Y) (nx := nx) (h0 := h0) hR1 (show 59 < 128 by decide) c59
          refine ⟨y1, ?_, fun _ z => absurd z ce⟩
          rw [if_neg cn, if_neg i10, yk, e2, cl_some, if_pos (show nI 0 = 0 from rfl), yg_2, p1, if_neg (show ¬ (true = true ∧ (clP tp n p).2.1 = n) from fun z => ce z.2)]
    · rw [if_neg cr, if_pos (by rw [b2_f cr]; rfl), yg_2, p1, if_neg (show ¬ (false = true ∧ (clP tp n p).2.1 = n) from fun z => ffF z.1)]
      exact ⟨y1, rfl, fun z => absurd z ffF⟩
theorem range_getD (l : List Int32) : (List.range l.length).map (fun j => l.getD j 0) = l := by
  refine List.ext_getElem (by simp) (fun i h1 h2 => ?_)
  rw [List.getElem_map, List.getElem_range]
  simp only [List.getD_eq_getElem?_getD]
  rw [List.getElem?_eq_getElem h2]
  rfl
/-- a SORT made -/
theorem Iv.so {y : YS} {X : Nat → Int32} {a c lo : Nat} {sg : List Sg} (h : Iv y X a c sg) (ha : a < 6) (hl : sg.length ≤ 10) (hs : lenS sg ≤ 120) (hlo : lo ≤ Y) {h' : Hp} (hh : ∀ q, Y ≤ q → q < Y + 7 → h' q = encY G Y n y h0 q) : SoAt G lo h' Y X a ∧ CodeOk X a := by
  obtain ⟨i1, i2, i3, i4, i5, i6, i7, i8⟩ := h
  have sn : sN X (130 + a) = c := by unfold sN; rw [i6, nI_clamp (by omega)]
  have eL : codeL X a = sgL sg := by
    unfold codeL
    rw [sn]
    have e : (List.range c).map (fun j => X (170 + 140 * a + j)) = (List.range (sgL sg).length).map (fun j => (sgL sg).getD j 0) := by
      rw [sgL_len, ← i2]
      exact List.map_congr_left (fun j hj => i7 j (List.mem_range.mp hj))
    rw [e]
    exact range_getD _
  refine ⟨⟨Y + 1, Y + 6, Y + 2, Y + 3, Y + 4, Y + 5, ya y 1, ya y 2, ya y 3, ya y 4, ya y 5, yi y 2, yi y 3, yi y 5, sg, ⟨by omega, by omega, by omega, by omega, by omega, by omega, by omega⟩, ?_, ?_, ?_, ?_, ?_, ?_, i8, hl, hs, i1, i5, eL⟩, ?_⟩
  · rw [hh Y (by omega) (by omega), encY_0]
    unfold yFs
    rw [i4]
  · rw [hh _ (by omega) (by omega)]; exact encY_1
  · rw [hh _ (by omega) (by omega)]; exact encY_2
  · rw [hh _ (by omega) (by omega)]; exact encY_3
  · rw [hh _ (by omega) (by omega)]; exact encY_4
  · rw [hh _ (by omega) (by omega)]; exact encY_5
  · refine ⟨by rw [sn]; exact i6, by omega, ?_⟩
    rw [eL]
    exact okC_sg i1
end YR
