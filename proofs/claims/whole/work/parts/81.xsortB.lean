/-! THE CLASS: sort, put together -/
theorem AgF.wr {a : Nat} {s : Nat → Int32} {o : Option (Nat × Int32)} (ho : ∀ w v, o = some (w, v) → w < 4) : AgF a s (wrO s a o) := fun k _ h2 _ => wrO_n ho h2
theorem tx_ag {tp : Nat → Int32} {z a : Nat} (ha : a < 6) (hz : z ≤ 120) : ∀ (r p c : Nat) (X : Nat → Int32), p ≤ z → c ≤ p → AgF a X (txP tp z a r p c X).2.2.2 := by
  intro r
  induction r with
  | zero =>
    intro p c X hp hc
    have ok := clP_ok (tp := tp) (z := z) hp
    unfold txP
    by_cases cr : (clP tp z p).1 = true
    · have := ok.2.2 cr
      rw [if_pos cr]
      exact (AgF.wr clP_w).trans (emR_ag _ _ _ ha (by omega))
    · rw [if_neg cr]
      exact AgF.rf
  | succ r ih =>
    intro p c X hp hc
    have ok := clP_ok (tp := tp) (z := z) hp
    unfold txP
    by_cases cr : (clP tp z p).1 = true
    · have := ok.2.2 cr
      rw [if_pos cr, so_s]
      have a1 : AgF a X (emR (wrO X a (clP tp z p).2.2.1) a c (clP tp z p).2.2.2) := (AgF.wr clP_w).trans (emR_ag _ _ _ ha (by omega))
      by_cases c59 : hereP tp z (clP tp z p).2.1 = nI 59
      · have hlt := here_lt c59 (by decide)
        rw [if_pos c59]
        exact a1.trans (ih _ _ _ (by omega) (by omega))
      · rw [if_neg c59]
        exact a1
    · rw [if_neg cr]
      exact AgF.rf
theorem so_ag {s : Nat → Int32} {a q : Nat} (ha : a < 6) (hq : q ≤ 120) : AgF a (upK s 5 (nI 0)) (soT s a q).2.2.2 := (AgF.zv ha).trans (tx_ag ha hq 9 0 0 _ (by omega) (by omega))
theorem AgF.lo {a : Nat} {s s' : Nat → Int32} (h : AgF a s s') {k : Nat} (hk : k < 130) : s' k = s k := h k (by omega) (by omega) (by omega)
theorem AgF.hi {a : Nat} {s s' : Nat → Int32} (h : AgF a s s') (ha : a < 6) {k : Nat} (hk : 1010 ≤ k) : s' k = s k := h k (by omega) (by omega) (by omega)
theorem codeL_blk {a b : Nat} {s s' : Nat → Int32} (h : AgF a s s') (ha : a < 6) (hb : b < 6) (hab : b ≠ a) (hl : sN s (130 + b) ≤ 140) : sN s' (130 + b) = sN s (130 + b) ∧ codeL s' b = codeL s b := by
  have e : sN s' (130 + b) = sN s (130 + b) := by unfold sN; rw [h (130 + b) (by omega) (by omega) (by omega)]
  refine ⟨e, ?_⟩
  unfold codeL
  rw [e]
  refine List.map_congr_left (fun j hj => h _ (by omega) (by omega) ?_)
  have := List.mem_range.mp hj
  omega
theorem CodeOk_blk {a b : Nat} {s s' : Nat → Int32} (h : AgF a s s') (ha : a < 6) (hb : b < 6) (hab : b ≠ a) (hc : CodeOk s b) : CodeOk s' b := by
  obtain ⟨h1, h2, h3⟩ := hc
  obtain ⟨e1, e2⟩ := codeL_blk h ha hb hab h2
  refine ⟨?_, ?_, ?_⟩
  · rw [e1, h (130 + b) (by omega) (by omega) (by omega)]; exact h1
  · rw [e1]; exact h2
  · rw [e2]; exact h3
theorem SoAt.blk {G : Gx} {lo : Nat} {h : Hp} {p : Nat} {s s' : Nat → Int32} {a b : Nat} (hs : SoAt G lo h p s b) (hag : AgF a s s') (ha : a < 6) (hb : b < 6) (hab : b ≠ a) (hl : sN s (130 + b) ≤ 140) : SoAt G lo h p s' b := by
  obtain ⟨pl, pt, pc, pw, pn, pe, l, co, cw, cn, ce, x2, x3, x5, sg, bb, h1, h2, h3, h4, h5, h6, hv, r1, r2, r3, r4, e⟩ := hs
  exact ⟨pl, pt, pc, pw, pn, pe, l, co, cw, cn, ce, x2, x3, x5, sg, bb, h1, h2, h3, h4, h5, h6, fun w hw => by
    rw [hag (140 + 4 * b + w) (by omega) (by omega) (by omega)]
    exact hv w hw, r1, r2, r3, r4, by rw [(codeL_blk hag ha hb hab hl).2]; exact e⟩
/-- the tape empty, the row else where a SORT may come -/
theorem XC.empty {G : Gx} {X lo : Nat} {h0 h0' : Hp} {c c' : CS} {s s' : Nat → Int32} {ns nt np lk td q : Nat} (h : XC G X lo h0 c s ns nt np lk td q) (hn : ns < 6) (hh : ∀ q x, lo ≤ q → h0 q = some x → h0' q = some x) (hag : AgF ns (upK s 5 (nI 0)) s') (ea : xa c' = xa c) (er : xr c' = xr c) (e111 : xi c' 111 = nI 0) (ei : ∀ k, k ≠ 111 → xi c' k = xi c k) : XC G X lo h0' c' s' ns nt np lk td 0 := by
  obtain ⟨h1, ⟨⟨i1, i2, i3, i4, i5, i6⟩, t, so, pl, ta⟩, ⟨w1, w2, w3, w4, w5, w6, w7, w8, w9, w10, w11, w12, w13, w14, w15⟩⟩ := h
  have gl : ∀ k, k < 130 → k ≠ 5 → s' k = s k := fun k z1 z2 => by rw [hag.lo z1, upK_n z2]
  have gh : ∀ k, 1010 ≤ k → s' k = s k := fun k z1 => by rw [hag.hi hn z1, upK_n (by omega)]
  have g5 : s' 5 = nI 0 := by rw [hag.lo (by omega), upK_s]
  have gN : ∀ k, 1010 ≤ k → sN s' k = sN s k := fun k hk => by unfold sN; rw [gh k hk]
  have c5 : ∀ b, b < ns → CodeOk (upK s 5 (nI 0)) b := fun b hb => CodeOk_cg (by omega) (fun k z1 z2 => upK_n (by omega)) (w14 b hb)
  refine ⟨h1, ⟨⟨?_, ?_, ?_, ?_, ?_, ?_⟩, ?_, ?_, ?_, fun j hj => absurd hj (by omega)⟩, ⟨(gl 0 (by omega) (by omega)).trans w1, w2, (gl 1 (by omega) (by omega)).trans w3, w4, (gl 2 (by omega) (by omega)).trans w5, w6, (gl 3 (by omega) (by omega)).trans w7, w8, by rw [gl 4 (by omega) (by omega)]; exact w9, g5, by omega, ?_, ?_, fun b hb => CodeOk_blk hag hn (by omega) (by omega) (c5 b hb), fun j hj => absurd hj (by omega)⟩⟩
  · rw [e111, g5]
  · rw [ei 112 (by omega), gl 0 (by omega) (by omega)]; exact i2
  · rw [ei 113 (by omega), gl 1 (by omega) (by omega)]; exact i3
  · rw [ei 114 (by omega), gl 2 (by omega) (by omega)]; exact i4
  · rw [ei 115 (by omega), gl 3 (by omega) (by omega)]; exact i5
  · rw [ei 116 (by omega), gl 4 (by omega) (by omega)]; exact i6
  · intro j hj
    rw [ea, gh (1010 + j) (by omega), gh (1018 + j) (by omega), gh (1034 + j) (by omega), gh (1042 + j) (by omega), gh (1050 + j) (by omega), gh (1058 + j) (by omega), gh (1026 + j) (by omega)]
    exact t j hj
  · intro b hb
    rw [er]
    obtain ⟨p, ep, sp⟩ := so b hb
    have s1 := (sp.heap hh).cg (s' := upK s 5 (nI 0)) (by omega) (fun k z1 z2 => upK_n (by omega)) (w14 b hb).2.1
    exact ⟨p, ep, s1.blk hag hn (by omega) (by omega) (c5 b hb).2.1⟩
  · intro j hj
    rw [ea, er, gN (1070 + j) (by omega), gN (1094 + j) (by omega), gh (1082 + j) (by omega), gh (1094 + j) (by omega)]
    obtain ⟨q', e1, e2, e3, e4, e5⟩ := pl j hj
    exact ⟨q', e1, e2, hh _ _ e2 e3, e4, fun i hi => by rw [gh (1110 + 10 * j + i) (by omega)]; exact e5 i hi⟩
  · intro j hj
    unfold ThV
    rw [gh (1010 + j) (by omega), gh (1018 + j) (by omega), gh (1034 + j) (by omega), gh (1042 + j) (by omega), gh (1026 + j) (by omega)]
    exact w12 j hj
  · intro j hj
    obtain ⟨u1, u2, r, u3, u4, u5⟩ := w13 j hj
    exact ⟨by rw [gh (1070 + j) (by omega)]; exact u1, by rw [gh (1082 + j) (by omega)]; exact u2, r, u3, by rw [gh (1094 + j) (by omega)]; exact u4, fun i hi => by rw [gh (1110 + 10 * j + i) (by omega)]; exact u5 i hi⟩
/-- a SORT more -/
theorem XC.more {G : Gx} {X lo Y : Nat} {h0 : Hp} {c c' : CS} {s : Nat → Int32} {ns nt np lk td : Nat} (h : XC G X lo h0 c s ns nt np lk td 0) (hn : ns < 6) (hs : SoAt G lo h0 Y s ns) (hc : CodeOk s ns) (ea : xa c' = xa c) (er : ∀ k, k ≠ 3 → xr c' k = xr c k) (e3 : xr c' 3 = upK (xr c 3) ns (some Y)) (e112 : xi c' 112 = nI (ns + 1)) (ei : ∀ k, k ≠ 112 → xi c' k = xi c k) : XC G X lo h0 c' (upK s 0 (nI (ns + 1))) (ns + 1) nt np lk td 0 := by
  obtain ⟨h1, ⟨⟨i1, i2, i3, i4, i5, i6⟩, t, so, pl, ta⟩, ⟨w1, w2, w3, w4, w5, w6, w7, w8, w9, w10, w11, w12, w13, w14, w15⟩⟩ := h
  have g : ∀ k, k ≠ 0 → upK s 0 (nI (ns + 1)) k = s k := fun k hk => upK_n hk
  have gN : ∀ k, k ≠ 0 → sN (upK s 0 (nI (ns + 1))) k = sN s k := fun k hk => by unfold sN; rw [g k hk]
  refine ⟨h1, ⟨⟨?_, ?_, ?_, ?_, ?_, ?_⟩, ?_, ?_, ?_, fun j hj => absurd hj (by omega)⟩, ⟨upK_s, by omega, (g 1 (by omega)).trans w3, w4, (g 2 (by omega)).trans w5, w6, (g 3 (by omega)).trans w7, w8, by rw [g 4 (by omega)]; exact w9, (g 5 (by omega)).trans w10, w11, ?_, ?_, ?_, fun j hj => absurd hj (by omega)⟩⟩
  · rw [ei 111 (by omega), g 5 (by omega)]; exact i1
  · rw [e112, upK_s]
  · rw [ei 113 (by omega), g 1 (by omega)]; exact i3
  · rw [ei 114 (by omega), g 2 (by omega)]; exact i4
  · rw [ei 115 (by omega), g 3 (by omega)]; exact i5
  · rw [ei 116 (by omega), g 4 (by omega)]; exact i6
  · intro j hj
    rw [ea, g (1010 + j) (by omega), g (1018 + j) (by omega), g (1034 + j) (by omega), g (1042 + j) (by omega), g (1050 + j) (by omega), g (1058 + j) (by omega), g (1026 + j) (by omega)]
    exact t j hj
  · intro b hb
    rw [e3]
    by_cases e : b = ns
    · subst e
      rw [upK_s]
      exact ⟨Y, rfl, hs.cg (by omega) (fun k z1 z2 => g k (by omega)) hc.2.1⟩
    · rw [upK_n e]
      obtain ⟨p, ep, sp⟩ := so b (by omega)
      exact ⟨p, ep, sp.cg (by omega) (fun k z1 z2 => g k (by omega)) (w14 b (by omega)).2.1⟩
  · intro j hj
    rw [ea, er 11 (by omega), gN (1070 + j) (by omega), gN (1094 + j) (by omega), g (1082 + j) (by omega), g (1094 + j) (by omega)]
    obtain ⟨q', e1, e2, e3, e4, e5⟩ := pl j hj
    exact ⟨q', e1, e2, e3, e4, fun i hi => by rw [g (1110 + 10 * j + i) (by omega)]; exact e5 i hi⟩
  · intro j hj
    obtain ⟨⟨a, ha, ea'⟩, r⟩ := w12 j hj
    unfold ThV
    rw [g (1010 + j) (by omega), g (1018 + j) (by omega), g (1034 + j) (by omega), g (1042 + j) (by omega), g (1026 + j) (by omega)]
    exact ⟨⟨a, by omega, ea'⟩, r⟩
  · intro j hj
    obtain ⟨u1, u2, r, u3, u4, u5⟩ := w13 j hj
    exact ⟨by rw [g (1070 + j) (by omega)]; exact u1, by rw [g (1082 + j) (by omega)]; exact u2, r, u3, by rw [g (1094 + j) (by omega)]; exact u4, fun i hi => by rw [g (1110 + 10 * j + i) (by omega)]; exact u5 i hi⟩
  · intro b hb
    by_cases e : b = ns
    · subst e
      exact CodeOk_cg (by omega) (fun k z1 z2 => g k (by omega)) hc
    · exact CodeOk_cg (by omega) (fun k z1 z2 => g k (by omega)) (w14 b (by omega))
def PSo (k : Nat) : Prop := k = 111 ∨ k = 112 ∨ k = 3
section XSB
variable {G : Gx} {X lo nx : Nat} {h0 : Hp} {c : CS} {S : MS} {ns nt np lk td q : Nat}
theorem x_sort6 (hC : XC G X lo h0 c (ma S 1) 6 nt np lk td q) : F_X11_sort G (encX G X c h0) nx X = some (-4, encX G X c h0, nx) := by
  have e112 : xi c 112 = nI 6 := hC.bk.2.1.trans hC.nsC.1
  unfold F_X11_sort
  simp (maxSteps := 3000000) (disch := omega) only [e112, xi_xsi_s, xi_xsi_n, xl_xsi, xa_xsi, xj_xsi, xr_xsi, xsi_xsi, xi_xsl, xl_xsl_s, xl_xsl_n, xa_xsl, xj_xsl, xr_xsl, xsl_xsl, xi_xsa, xl_xsa, xa_xsa_s, xa_xsa_n, xj_xsa, xr_xsa, xsa_xsa, xi_xsj, xl_xsj, xa_xsj, xj_xsj_s, xj_xsj_n, xr_xsj, xsj_xsj, xi_xsr, xl_xsr, xa_xsr, xj_xsr, xr_xsr_s, xr_xsr_n, xsr_xsr, xk_0, xg_0_0, xg_0_1, xg_0_2, xp_0_2, xg_0_3, xg_0_4, xg_0_5, xg_0_6, xk_1, xg_1_0, xg_1_1, xp_1_1, xg_1_2, xg_1_3, xp_1_3, xg_1_4, xg_1_5, xg_1_6, xg_1_7, xg_1_8, xg_1_9, xg_1_10, xg_1_11, xp_1_11, xg_1_12, xg_1_13, xg_1_14, xg_1_15, xp_1_15, xg_1_16, xp_1_16, xg_1_17, xp_1_17, xk_26, xg_26_0, xg_26_1, xp_26_1, xg_26_2, xg_26_3, xp_26_3, xg_26_4, xg_26_5, xg_26_6, xg_26_7, xg_26_8, xg_26_9, xg_26_10, xg_26_11, xp_26_11, xg_26_12, xg_26_13, xg_26_14, xg_26_15, xp_26_15, xg_26_16, xp_26_16, xg_26_17, xp_26_17, xk_51, xg_51_0, xg_51_1, xg_51_2, xg_51_3, xg_51_4, xg_51_5, xg_51_6, xg_51_7, xp_51_7, xg_51_8, xp_51_8, xk_90, xg_90_0, xg_90_1, xg_90_2, xg_90_3, xp_90_3, xg_90_4, xg_90_5, xp_90_5, xg_90_6, xg_90_7, xp_90_7, xg_90_8, xp_90_8, xg_90_9, xp_90_9, xg_90_10, xas_2, xal_2, xal_3, xas_4, xal_4, xln_4, xas_5, xal_5, xln_5, xas_6, xal_6, xln_6, xas_7, xal_7, xln_7, xas_8, xal_8, xln_8, xas_9, xal_9, xln_9, xas0_10, xas1_10, xasb_10, xal_10, xal_11, xas_12, xal_12, xln_12, xas_27, xal_27, xal_28, xas_29, xal_29, xln_29, xas_30, xal_30, xln_30, xas_31, xal_31, xln_31, xas_32, xal_32, xln_32, xas_33, xal_33, xln_33, xas_34, xal_34, xln_34, xas0_35, xas1_35, xasb_35, xal_35, xal_36, xas_37, xal_37, xln_37, xas_88, xal_88, xln_88, xal_89, xas_89, xln_89, xas_103, xal_103, xln_103, xas_104, xal_104, xln_104, xas_105, xal_105, xln_105, xas_106, xal_106, xln_106, xas_107, xal_107, xln_107, xal_13, xal_in14, xas_in14, xln_in14, xal_38, xal_in39, xas_in39, xln_in39, xal_52, xal_in53, xas_in53, xln_in53, xal_61, xal_in62, xas_in62, xln_in62, xal_70, xal_in71, xas_in71, xln_in71, xal_79, xal_in80, xas_in80, xln_in80, xal_91, xal_in92, xas_in92, xln_in92, cl_some, nm_b, nn_some, qn_some, qn_none, zk_0, zk_1, zk_n0, zk_n1, nI_add, pk_mul, pk_sub, nI_leE, nI_ltE, nI_eqE, nI_lt0, nI_ge0, nI_eq0, nI_gt0, nI_le0, ilt_t, ilt_f, ile_t, ile_f, ieq_t, ieq_f, if_tt, if_ff, Nat.add_sub_cancel]
set_option maxRecDepth 100000 in
set_option maxHeartbeats 1000000 in
theorem x_sort (hC : XC G X lo h0 c (ma S 1) ns nt np lk td q) (hn : ns < 6) (hlo : lo ≤ g_B G + nx) (hf : Fsh G h0 nx) (hR : RfR lo h0 (xr c)) (hb : TyR (xa c)) : ∃ (c' : CS) (h0' : Hp) (nx' : Nat), F_X11_sort G (encX G X c h0) nx X = some (if (soT (ma S 1) ns q).1 = true ∧ (soT (ma S 1) ns q).2.1 = q then nI ns else -10 - nI (soT (ma S 1) ns q).2.1, encX G X c' h0', nx') ∧ HG G h0 nx h0' nx' ∧ nx' ≤ nx + 7 ∧ FrX PSo c c' ∧ RfR lo h0' (xr c') ∧ (soOk (ma S 1) ns q → XC G X lo h0' c' (upK (soT (ma S 1) ns q).2.2.2 0 (nI (ns + 1))) (ns + 1) nt np lk td 0) ∧ (¬ soOk (ma S 1) ns q → ∀ s', AgF ns (upK (ma S 1) 5 (nI 0)) s' → XC G X lo h0' c' s' ns nt np lk td 0) := by
  have e112 : xi c 112 = nI ns := hC.bk.2.1.trans hC.nsC.1
  have hq : q ≤ 120 := hC.2.2.2.2.2.2.2.2.2.2.2.2.1
  have e111 : xi c 111 = nI q := hC.bk.1.trans hC.2.2.2.2.2.2.2.2.2.2.2.1
  have hX := hC.1
  obtain ⟨tx, e7, ht⟩ := x_init7 (G := G) (X := X) (nx := nx) (h0 := h0) (c := c) (q := q) (by omega) hq hb
  have hT : TxR (y0S tx) (fun i => ma S 1 (10 + i)) q := ⟨hq, fun j hj => by
    show tx j = _
    rw [ht j hj]
    exact hC.2.1.2.2.2.2 j hj, hC.2.2.2.2.2.2.2.2.2.2.2.2.2.2.2.2⟩
  have hI : Iv (y0S tx) (soX (ma S 1) ns) ns 0 [] := by
    refine ⟨fun g hg => absurd hg (by simp), rfl, rfl, rfl, trivial, ?_, fun j hj => absurd hj (by omega), fun w hw => ⟨?_, 0, by omega, rfl⟩⟩
    · unfold soX
      rw [zv_n 4 (by omega) (by omega), upK_s]
    · unfold soX
      rw [zv_s 4 hw]
      rfl
  obtain ⟨y1, er, hI1⟩ := y_rt2 (G := G) (Y := g_B G + nx) (nx := nx + 7) (h0 := encX G X c h0) (n := q) (tp := fun i => ma S 1 (10 + i)) (a := ns) hn 9 1 fuelL 0 0 (soX (ma S 1) ns) [] (y0S tx) (by omega) (by omega) (by unfold fuelL; omega) ⟨hT, rfl, by omega, rfl, by show 0 ≤ 0; omega⟩ hI (by show 0 ≤ 0; omega)
  have er : F_X7_readText G (encY G (g_B G + nx) q (y0S tx) (encX G X c h0)) (nx + 7) (g_B G + nx) = some (if (soT (ma S 1) ns q).1 = true ∧ (soT (ma S 1) ns q).2.1 = q then -1 else nI (soT (ma S 1) ns q).2.1, encY G (g_B G + nx) q y1 (encX G X c h0), nx + 7) := er
  have hI1 : (soT (ma S 1) ns q).1 = true → (soT (ma S 1) ns q).2.1 = q → ∃ sg', Iv y1 (soT (ma S 1) ns q).2.2.2 ns (soT (ma S 1) ns q).2.2.1 sg' ∧ sg'.length ≤ 10 ∧ lenS sg' ≤ q := hI1
  rw [encYX (show X + 108 ≤ g_B G + nx by omega)] at er e7
  rw [encYX (show X + 108 ≤ g_B G + nx by omega)] at er
  generalize hh' : encY G (g_B G + nx) q y1 h0 = h0' at er
  have ey : h0' (g_B G + nx) = some (ob 7 (yFs (g_B G + nx) y1)) := by rw [← hh']; exact encY_0
  have hG : HG G h0 nx h0' (nx + 7) := ⟨by omega, fun a ha => by rw [← hh']; exact encY_out (by omega), fun a ha => by rw [← hh', encY_out (by omega)]; exact hf a (by omega)⟩
  have hkp := hG.keep hf
  have ag := so_ag (s := ma S 1) (a := ns) (q := q) hn hq
  rw [encX_hset (Or.inr (show X + 108 ≤ g_B G + nx by omega))] at e7
  have ck1 : ∀ {β : Type} {f : Nat → Option β}, ck (encX G X c (encY G (g_B G + nx) q (y0S tx) h0)) (g_B G + nx) [7] f = f 7 := ck_at (by rw [encX_out (Or.inr (by omega))]; exact encY_0) (by decide)
  unfold F_X11_sort nwO
  rw [xg_0_0, nn_some, xg_1_3, e112, if_pos (by rw [nI_ltE (by omega) (by omega)]; exact hn), encX_hset (Or.inr (show X + 108 ≤ g_B G + nx by omega))]
  dsimp only
  rw [xg_0_0, nn_some, xg_1_0, xg_0_0, nn_some, xg_1_1, e111, nn_some, e7, cl_some, ck1, er, cl_some, xg_0_0, nn_some, xp_1_1]
  by_cases hok : (soT (ma S 1) ns q).1 = true ∧ (soT (ma S 1) ns q).2.1 = q
  · obtain ⟨sg', I', l10, ls⟩ := hI1 hok.1 hok.2
    obtain ⟨hso, hco⟩ := I'.so (G := G) (Y := g_B G + nx) (n := q) (h0 := h0) (h' := h0') hn l10 (by omega) hlo (fun a h1 h2 => by rw [← hh'])
    have e3 : ∀ {β : Type} {f : Hp → Option β}, asR (g_c G 4) [7] (encX G X (xsi c 111 (nI 0)) h0') (X + 3) (nI ns) (some (g_B G + nx)) f = f (encX G X (xsr (xsi c 111 (nI 0)) 3 (upK (xr c 3) ns (some (g_B G + nx)))) h0') := fun {β f} => xas_3 hn (by
      show (match encX G X (xsi c 111 (nI 0)) h0' (g_B G + nx) with | some (.inr q) => decide (q.1 ∈ [7]) | _ => false) = true
      rw [encX_out (Or.inr (by omega)), ey]
      rfl)
    rw [if_pos hok, if_pos (by decide), if_pos hok]
    have e112' : xi (xsi c 111 (nI 0)) 112 = nI ns := (xi_xsi_n (by decide)).trans e112
    rw [xg_0_0, nn_some, xg_1_2, xg_0_0, nn_some, xg_1_3, e112', nn_some, e3, xg_0_0, nn_some, xg_1_3, xi_xsr, e112', nI_add, xp_1_3, xg_0_0, nn_some, xg_1_3, xi_xsi_s]
    refine ⟨_, h0', nx + 7, by rw [pk_sub (by omega), Nat.add_sub_cancel], hG, by omega, ((FrX.si (P := PSo) (Or.inl rfl)).trans (FrX.sr (P := PSo) (Or.inr (Or.inr rfl))) (fun _ z => z) (fun _ z => z)).trans (FrX.si (P := PSo) (Or.inr (Or.inl rfl))) (fun _ z => z) (fun _ z => z), ?_, fun _ => ?_, fun z => absurd hok z⟩
    · have hR' := hR.keep hkp
      refine ⟨fun j p hj he => ?_, fun j p hj he => ?_⟩
      · have he : upK (xr c 3) ns (some (g_B G + nx)) j = some p := by
          rw [xr_xsi, xr_xsr_s] at he
          exact he
        by_cases e : j = ns
        · subst e
          rw [upK_s] at he
          obtain rfl := Option.some.inj he
          exact ⟨hlo, _, ey⟩
        · rw [upK_n e] at he
          exact hR'.1 j p hj he
      · rw [xr_xsi, xr_xsr_n (by decide)] at he
        exact hR'.2 j p hj he
    · have hE := hC.empty (c' := xsi c 111 (nI 0)) hn (fun a x _ hx => hkp a x hx) ag rfl rfl xi_xsi_s (fun k hk => xi_xsi_n hk)
      exact hE.more hn hso hco rfl (fun k hk => xr_xsr_n hk) xr_xsr_s xi_xsi_s (fun k hk => xi_xsi_n hk)
  · have hp : (soT (ma S 1) ns q).2.1 ≤ q := by
      have : ∀ (r p c : Nat) (X : Nat → Int32), p ≤ q → (txP (fun i => ma S 1 (10 + i)) q ns r p c X).2.1 ≤ q := by
        intro r
        induction r with
        | zero =>
          intro p c X hp
          have ok := clP_ok (tp := fun i => ma S 1 (10 + i)) (z := q) hp
          unfold txP
          split
          · exact ok.2.1
          · exact ok.2.1
        | succ r ih =>
          intro p c X hp
          have ok := clP_ok (tp := fun i => ma S 1 (10 + i)) (z := q) hp
          unfold txP
          split
          · rw [so_s]
            split
            · rename_i h59
              exact ih _ _ _ (here_lt h59 (by decide))
            · exact ok.2.1
          · exact ok.2.1
      exact this 9 0 0 _ (by omega)
    rw [if_neg hok, if_neg (nI_pos (by omega)), if_neg hok]
    refine ⟨xsi c 111 (nI 0), h0', nx + 7, rfl, hG, by omega, FrX.si (P := PSo) (Or.inl rfl), hR.keep hkp, fun z => absurd z hok, fun _ s' hs' => ?_⟩
    exact hC.empty (c' := xsi c 111 (nI 0)) hn (fun a x _ hx => hkp a x hx) hs' rfl rfl xi_xsi_s (fun k hk => xi_xsi_n hk)
end XSB
