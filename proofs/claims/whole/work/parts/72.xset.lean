/-! THE CLASS: looks, thing, row, plan -/
theorem codeL_cg {s s' : Nat → Int32} {a : Nat} (ha : a < 6) (hag : ∀ k, 130 ≤ k → k < 1010 → s' k = s k) (hl : sN s (130 + a) ≤ 140) : sN s' (130 + a) = sN s (130 + a) ∧ codeL s' a = codeL s a := by
  have e : sN s' (130 + a) = sN s (130 + a) := by unfold sN; rw [hag (130 + a) (by omega) (by omega)]
  refine ⟨e, ?_⟩
  unfold codeL
  rw [e]
  refine List.map_congr_left (fun j hj => hag _ (by omega) ?_)
  have := List.mem_range.mp hj
  omega
theorem CodeOk_cg {s s' : Nat → Int32} {a : Nat} (ha : a < 6) (hag : ∀ k, 130 ≤ k → k < 1010 → s' k = s k) (hc : CodeOk s a) : CodeOk s' a := by
  obtain ⟨h1, h2, h3⟩ := hc
  obtain ⟨e1, e2⟩ := codeL_cg ha hag h2
  refine ⟨?_, ?_, ?_⟩
  · rw [e1, hag (130 + a) (by omega) (by omega)]; exact h1
  · rw [e1]; exact h2
  · rw [e2]; exact h3
theorem SoAt.cg {G : Gx} {lo : Nat} {h : Hp} {p : Nat} {s s' : Nat → Int32} {a : Nat} (hs : SoAt G lo h p s a) (ha : a < 6) (hag : ∀ k, 130 ≤ k → k < 1010 → s' k = s k) (hl : sN s (130 + a) ≤ 140) : SoAt G lo h p s' a := by
  obtain ⟨pl, pt, pc, pw, pn, pe, l, co, cw, cn, ce, x2, x3, x5, sg, b, h1, h2, h3, h4, h5, h6, hv, r1, r2, r3, r4, e⟩ := hs
  exact ⟨pl, pt, pc, pw, pn, pe, l, co, cw, cn, ce, x2, x3, x5, sg, b, h1, h2, h3, h4, h5, h6, fun w hw => by
    rw [hag (140 + 4 * a + w) (by omega) (by omega)]
    exact hv w hw, r1, r2, r3, r4, by rw [(codeL_cg ha hag hl).2]; exact e⟩
/-- the book goes on; its tape and its sorts stay -/
theorem XC.goon {G : Gx} {X lo : Nat} {h0 h0' : Hp} {c c' : CS} {s s' : Nat → Int32} {ns nt np lk td q nt' np' lk' : Nat} (h : XC G X lo h0 c s ns nt np lk td q) (hh : ∀ q x, lo ≤ q → h0 q = some x → h0' q = some x) (hag : ∀ k, 10 ≤ k → k < 1010 → s' k = s k) (e2 : xa c' 2 = xa c 2) (e3 : xr c' 3 = xr c 3) (hI : BkI (xi c') s') (hT : ThR (xa c') s' nt') (hP : PlR lo h0' (xa c') (xr c') s' np') (v0 : s' 0 = s 0) (v5 : s' 5 = s 5) (v1 : s' 1 = nI nt') (n8 : nt' ≤ 8) (v2 : s' 2 = nI np') (n12 : np' ≤ 12) (v3 : s' 3 = s 3) (v4 : ∃ l, 1 ≤ l ∧ l ≤ 3 ∧ s' 4 = nI l ∧ lk' = min l nt') (hV : ∀ t, t < nt' → ThV s' ns t) (hW : ∀ p, p < np' → PlV s' nt' p) : XC G X lo h0' c' s' ns nt' np' lk' td q := by
  obtain ⟨h1, ⟨i, t, so, pl, ta⟩, ⟨w1, w2, w3, w4, w5, w6, w7, w8, w9, w10, w11, w12, w13, w14, w15⟩⟩ := h
  refine ⟨h1, ⟨hI, hT, ?_, hP, ?_⟩, ⟨v0.trans w1, w2, v1, n8, v2, n12, v3.trans w7, w8, v4, v5.trans w10, w11, hV, hW, fun a ha => CodeOk_cg (by omega) (fun k h1 h2 => hag k (by omega) h2) (w14 a ha), fun j hj => ?_⟩⟩
  · intro a ha
    rw [e3]
    obtain ⟨p, ep, sp⟩ := so a ha
    exact ⟨p, ep, (sp.heap hh).cg (by omega) (fun k h1 h2 => hag k (by omega) h2) (w14 a ha).2.1⟩
  · intro j hj
    rw [e2, hag (10 + j) (by omega) (by omega)]
    exact ta j hj
  · rw [hag (10 + j) (by omega) (by omega)]
    exact w15 j hj
theorem hp_id {lo : Nat} {h0 : Hp} : ∀ q x, lo ≤ q → h0 q = some x → h0 q = some x := fun _ _ _ h => h
section XST
variable {G : Gx} {X lo nx : Nat} {h0 : Hp} {c : CS} {S : MS} {ns nt np lk td q : Nat}
def PB1 (k : Nat) : Prop := (4 ≤ k ∧ k < 26) ∨ (113 ≤ k ∧ k ≤ 116)
set_option maxRecDepth 100000 in
set_option maxHeartbeats 1000000 in
theorem x_looks (hC : XC G X lo h0 c (ma S 1) ns nt np lk td q) (v : Int32) : ∃ (c' : CS) (lk' : Nat), F_X11_looks G (encX G X c h0) nx X v = some ((looksF S v).1, encX G X c' h0, nx) ∧ FrX PB1 c c' ∧ xr c' = xr c ∧ XC G X lo h0 c' (looksF S v).2 ns nt np lk' td q := by
  have b6 := hC.bk.2.2.2.2.2
  unfold F_X11_looks looksF
  simp (maxSteps := 3000000) (disch := omega) only [x_within, xi_xsi_s, xi_xsi_n, xl_xsi, xa_xsi, xj_xsi, xr_xsi, xsi_xsi, xi_xsl, xl_xsl_s, xl_xsl_n, xa_xsl, xj_xsl, xr_xsl, xsl_xsl, xi_xsa, xl_xsa, xa_xsa_s, xa_xsa_n, xj_xsa, xr_xsa, xsa_xsa, xi_xsj, xl_xsj, xa_xsj, xj_xsj_s, xj_xsj_n, xr_xsj, xsj_xsj, xi_xsr, xl_xsr, xa_xsr, xj_xsr, xr_xsr_s, xr_xsr_n, xsr_xsr, xk_0, xg_0_0, xg_0_1, xg_0_2, xp_0_2, xg_0_3, xg_0_4, xg_0_5, xg_0_6, xk_1, xg_1_0, xg_1_1, xp_1_1, xg_1_2, xg_1_3, xp_1_3, xg_1_4, xg_1_5, xg_1_6, xg_1_7, xg_1_8, xg_1_9, xg_1_10, xg_1_11, xp_1_11, xg_1_12, xg_1_13, xg_1_14, xg_1_15, xp_1_15, xg_1_16, xp_1_16, xg_1_17, xp_1_17, xk_26, xg_26_0, xg_26_1, xp_26_1, xg_26_2, xg_26_3, xp_26_3, xg_26_4, xg_26_5, xg_26_6, xg_26_7, xg_26_8, xg_26_9, xg_26_10, xg_26_11, xp_26_11, xg_26_12, xg_26_13, xg_26_14, xg_26_15, xp_26_15, xg_26_16, xp_26_16, xg_26_17, xp_26_17, xk_51, xg_51_0, xg_51_1, xg_51_2, xg_51_3, xg_51_4, xg_51_5, xg_51_6, xg_51_7, xp_51_7, xg_51_8, xp_51_8, xk_90, xg_90_0, xg_90_1, xg_90_2, xg_90_3, xp_90_3, xg_90_4, xg_90_5, xp_90_5, xg_90_6, xg_90_7, xp_90_7, xg_90_8, xp_90_8, xg_90_9, xp_90_9, xg_90_10, xas_2, xal_2, xal_3, xas_4, xal_4, xln_4, xas_5, xal_5, xln_5, xas_6, xal_6, xln_6, xas_7, xal_7, xln_7, xas_8, xal_8, xln_8, xas_9, xal_9, xln_9, xas0_10, xas1_10, xasb_10, xal_10, xal_11, xas_12, xal_12, xln_12, xas_27, xal_27, xal_28, xas_29, xal_29, xln_29, xas_30, xal_30, xln_30, xas_31, xal_31, xln_31, xas_32, xal_32, xln_32, xas_33, xal_33, xln_33, xas_34, xal_34, xln_34, xas0_35, xas1_35, xasb_35, xal_35, xal_36, xas_37, xal_37, xln_37, xas_88, xal_88, xln_88, xal_89, xas_89, xln_89, xas_103, xal_103, xln_103, xas_104, xal_104, xln_104, xas_105, xal_105, xln_105, xas_106, xal_106, xln_106, xas_107, xal_107, xln_107, xal_13, xal_in14, xas_in14, xln_in14, xal_38, xal_in39, xas_in39, xln_in39, xal_52, xal_in53, xas_in53, xln_in53, xal_61, xal_in62, xas_in62, xln_in62, xal_70, xal_in71, xas_in71, xln_in71, xal_79, xal_in80, xas_in80, xln_in80, xal_91, xal_in92, xas_in92, xln_in92, cl_some, nm_b, nn_some, qn_some, qn_none, zk_0, zk_1, zk_n0, zk_n1, nI_add, pk_mul, pk_sub, nI_leE, nI_ltE, nI_eqE, nI_lt0, nI_ge0, nI_eq0, nI_gt0, nI_le0, ilt_t, ilt_f, ile_t, ile_f, ieq_t, ieq_f, if_tt, if_ff, Nat.add_sub_cancel]
  by_cases c1 : bIn v (nI 1) (nI 3) = 0
  · rw [if_pos c1, if_pos c1]
    exact ⟨c, lk, rfl, FrX.rf, rfl, hC⟩
  · rw [if_neg c1, if_neg c1]
    obtain ⟨l, hl1, hl3, rfl⟩ := bIn_lh (by omega) (by omega) c1
    refine ⟨xsi c 116 (nI l), min l nt, ?_, FrX.si (P := PB1) (by unfold PB1; omega), rfl, ?_⟩
    · simp (maxSteps := 3000000) (disch := omega) only [b6, xi_xsi_s, xi_xsi_n, xl_xsi, xa_xsi, xj_xsi, xr_xsi, xsi_xsi, xi_xsl, xl_xsl_s, xl_xsl_n, xa_xsl, xj_xsl, xr_xsl, xsl_xsl, xi_xsa, xl_xsa, xa_xsa_s, xa_xsa_n, xj_xsa, xr_xsa, xsa_xsa, xi_xsj, xl_xsj, xa_xsj, xj_xsj_s, xj_xsj_n, xr_xsj, xsj_xsj, xi_xsr, xl_xsr, xa_xsr, xj_xsr, xr_xsr_s, xr_xsr_n, xsr_xsr, xk_0, xg_0_0, xg_0_1, xg_0_2, xp_0_2, xg_0_3, xg_0_4, xg_0_5, xg_0_6, xk_1, xg_1_0, xg_1_1, xp_1_1, xg_1_2, xg_1_3, xp_1_3, xg_1_4, xg_1_5, xg_1_6, xg_1_7, xg_1_8, xg_1_9, xg_1_10, xg_1_11, xp_1_11, xg_1_12, xg_1_13, xg_1_14, xg_1_15, xp_1_15, xg_1_16, xp_1_16, xg_1_17, xp_1_17, xk_26, xg_26_0, xg_26_1, xp_26_1, xg_26_2, xg_26_3, xp_26_3, xg_26_4, xg_26_5, xg_26_6, xg_26_7, xg_26_8, xg_26_9, xg_26_10, xg_26_11, xp_26_11, xg_26_12, xg_26_13, xg_26_14, xg_26_15, xp_26_15, xg_26_16, xp_26_16, xg_26_17, xp_26_17, xk_51, xg_51_0, xg_51_1, xg_51_2, xg_51_3, xg_51_4, xg_51_5, xg_51_6, xg_51_7, xp_51_7, xg_51_8, xp_51_8, xk_90, xg_90_0, xg_90_1, xg_90_2, xg_90_3, xp_90_3, xg_90_4, xg_90_5, xp_90_5, xg_90_6, xg_90_7, xp_90_7, xg_90_8, xp_90_8, xg_90_9, xp_90_9, xg_90_10, xas_2, xal_2, xal_3, xas_4, xal_4, xln_4, xas_5, xal_5, xln_5, xas_6, xal_6, xln_6, xas_7, xal_7, xln_7, xas_8, xal_8, xln_8, xas_9, xal_9, xln_9, xas0_10, xas1_10, xasb_10, xal_10, xal_11, xas_12, xal_12, xln_12, xas_27, xal_27, xal_28, xas_29, xal_29, xln_29, xas_30, xal_30, xln_30, xas_31, xal_31, xln_31, xas_32, xal_32, xln_32, xas_33, xal_33, xln_33, xas_34, xal_34, xln_34, xas0_35, xas1_35, xasb_35, xal_35, xal_36, xas_37, xal_37, xln_37, xas_88, xal_88, xln_88, xal_89, xas_89, xln_89, xas_103, xal_103, xln_103, xas_104, xal_104, xln_104, xas_105, xal_105, xln_105, xas_106, xal_106, xln_106, xas_107, xal_107, xln_107, xal_13, xal_in14, xas_in14, xln_in14, xal_38, xal_in39, xas_in39, xln_in39, xal_52, xal_in53, xas_in53, xln_in53, xal_61, xal_in62, xas_in62, xln_in62, xal_70, xal_in71, xas_in71, xln_in71, xal_79, xal_in80, xas_in80, xln_in80, xal_91, xal_in92, xas_in92, xln_in92, cl_some, nm_b, nn_some, qn_some, qn_none, zk_0, zk_1, zk_n0, zk_n1, nI_add, pk_mul, pk_sub, nI_leE, nI_ltE, nI_eqE, nI_lt0, nI_ge0, nI_eq0, nI_gt0, nI_le0, ilt_t, ilt_f, ile_t, ile_f, ieq_t, ieq_f, if_tt, if_ff, Nat.add_sub_cancel]
    · obtain ⟨h1, ⟨⟨i1, i2, i3, i4, i5, i6⟩, t, so, pl, ta⟩, ⟨w1, w2, w3, w4, w5, w6, w7, w8, w9, w10, w11, w12, w13, w14, w15⟩⟩ := id hC
      have g : ∀ k, k ≠ 4 → upK (ma S 1) 4 (nI l) k = ma S 1 k := fun k hk => upK_n hk
      have gN : ∀ k, k ≠ 4 → sN (upK (ma S 1) 4 (nI l)) k = sN (ma S 1) k := fun k hk => by unfold sN; rw [g k hk]
      show XC G X lo h0 _ (upK (ma S 1) 4 (nI l)) ns nt np (min l nt) td q
      refine hC.goon hp_id (fun k h1 h2 => g k (by omega)) rfl rfl ?_ ?_ ?_ (g 0 (by omega)) (g 5 (by omega)) ((g 1 (by omega)).trans w3) w4 ((g 2 (by omega)).trans w5) w6 (g 3 (by omega)) ⟨l, hl1, hl3, upK_s, rfl⟩ ?_ ?_
      · refine ⟨?_, ?_, ?_, ?_, ?_, ?_⟩
        · rw [xi_xsi_n (by omega), g 5 (by omega)]; exact i1
        · rw [xi_xsi_n (by omega), g 0 (by omega)]; exact i2
        · rw [xi_xsi_n (by omega), g 1 (by omega)]; exact i3
        · rw [xi_xsi_n (by omega), g 2 (by omega)]; exact i4
        · rw [xi_xsi_n (by omega), g 3 (by omega)]; exact i5
        · rw [xi_xsi_s, upK_s]
      · intro j hj
        rw [g (1010 + j) (by omega), g (1018 + j) (by omega), g (1034 + j) (by omega), g (1042 + j) (by omega), g (1050 + j) (by omega), g (1058 + j) (by omega), g (1026 + j) (by omega)]
        exact t j hj
      · intro j hj
        rw [gN (1070 + j) (by omega), gN (1094 + j) (by omega), g (1082 + j) (by omega), g (1094 + j) (by omega)]
        obtain ⟨q', e1, e2, e3, e4, e5⟩ := pl j hj
        exact ⟨q', e1, e2, e3, e4, fun i hi => by rw [g (1110 + 10 * j + i) (by omega)]; exact e5 i hi⟩
      · intro j hj
        unfold ThV
        rw [g (1010 + j) (by omega), g (1018 + j) (by omega), g (1034 + j) (by omega), g (1042 + j) (by omega), g (1026 + j) (by omega)]
        exact w12 j hj
      · intro j hj
        obtain ⟨u1, u2, r, u3, u4, u5⟩ := w13 j hj
        exact ⟨by rw [g (1070 + j) (by omega)]; exact u1, by rw [g (1082 + j) (by omega)]; exact u2, r, u3, by rw [g (1094 + j) (by omega)]; exact u4, fun i hi => by rw [g (1110 + 10 * j + i) (by omega)]; exact u5 i hi⟩
set_option maxRecDepth 100000 in
set_option maxHeartbeats 1000000 in
theorem x_thing (hC : XC G X lo h0 c (ma S 1) ns nt np lk td q) (a v : Int32) : ∃ (c' : CS) (nt' lk' : Nat), F_X11_thing G (encX G X c h0) nx X a v = some ((thingF S nt a v).1, encX G X c' h0, nx) ∧ FrX PB1 c c' ∧ xr c' = xr c ∧ XC G X lo h0 c' (thingF S nt a v).2 ns nt' np lk' td q := by
  obtain ⟨n1, n2⟩ := hC.nsC
  have e112 : xi c 112 = nI ns := hC.bk.2.1.trans n1
  have h5 := x_thC hC
  have h8 := x_nt8 hC
  unfold F_X11_thing F_X0_addThing thingF
  rw [n1]
  simp (maxSteps := 3000000) (disch := omega) only [e112, x_within, xi_xsi_s, xi_xsi_n, xl_xsi, xa_xsi, xj_xsi, xr_xsi, xsi_xsi, xi_xsl, xl_xsl_s, xl_xsl_n, xa_xsl, xj_xsl, xr_xsl, xsl_xsl, xi_xsa, xl_xsa, xa_xsa_s, xa_xsa_n, xj_xsa, xr_xsa, xsa_xsa, xi_xsj, xl_xsj, xa_xsj, xj_xsj_s, xj_xsj_n, xr_xsj, xsj_xsj, xi_xsr, xl_xsr, xa_xsr, xj_xsr, xr_xsr_s, xr_xsr_n, xsr_xsr, xk_0, xg_0_0, xg_0_1, xg_0_2, xp_0_2, xg_0_3, xg_0_4, xg_0_5, xg_0_6, xk_1, xg_1_0, xg_1_1, xp_1_1, xg_1_2, xg_1_3, xp_1_3, xg_1_4, xg_1_5, xg_1_6, xg_1_7, xg_1_8, xg_1_9, xg_1_10, xg_1_11, xp_1_11, xg_1_12, xg_1_13, xg_1_14, xg_1_15, xp_1_15, xg_1_16, xp_1_16, xg_1_17, xp_1_17, xk_26, xg_26_0, xg_26_1, xp_26_1, xg_26_2, xg_26_3, xp_26_3, xg_26_4, xg_26_5, xg_26_6, xg_26_7, xg_26_8, xg_26_9, xg_26_10, xg_26_11, xp_26_11, xg_26_12, xg_26_13, xg_26_14, xg_26_15, xp_26_15, xg_26_16, xp_26_16, xg_26_17, xp_26_17, xk_51, xg_51_0, xg_51_1, xg_51_2, xg_51_3, xg_51_4, xg_51_5, xg_51_6, xg_51_7, xp_51_7, xg_51_8, xp_51_8, xk_90, xg_90_0, xg_90_1, xg_90_2, xg_90_3, xp_90_3, xg_90_4, xg_90_5, xp_90_5, xg_90_6, xg_90_7, xp_90_7, xg_90_8, xp_90_8, xg_90_9, xp_90_9, xg_90_10, xas_2, xal_2, xal_3, xas_4, xal_4, xln_4, xas_5, xal_5, xln_5, xas_6, xal_6, xln_6, xas_7, xal_7, xln_7, xas_8, xal_8, xln_8, xas_9, xal_9, xln_9, xas0_10, xas1_10, xasb_10, xal_10, xal_11, xas_12, xal_12, xln_12, xas_27, xal_27, xal_28, xas_29, xal_29, xln_29, xas_30, xal_30, xln_30, xas_31, xal_31, xln_31, xas_32, xal_32, xln_32, xas_33, xal_33, xln_33, xas_34, xal_34, xln_34, xas0_35, xas1_35, xasb_35, xal_35, xal_36, xas_37, xal_37, xln_37, xas_88, xal_88, xln_88, xal_89, xas_89, xln_89, xas_103, xal_103, xln_103, xas_104, xal_104, xln_104, xas_105, xal_105, xln_105, xas_106, xal_106, xln_106, xas_107, xal_107, xln_107, xal_13, xal_in14, xas_in14, xln_in14, xal_38, xal_in39, xas_in39, xln_in39, xal_52, xal_in53, xas_in53, xln_in53, xal_61, xal_in62, xas_in62, xln_in62, xal_70, xal_in71, xas_in71, xln_in71, xal_79, xal_in80, xas_in80, xln_in80, xal_91, xal_in92, xas_in92, xln_in92, cl_some, nm_b, nn_some, qn_some, qn_none, zk_0, zk_1, zk_n0, zk_n1, nI_add, pk_mul, pk_sub, nI_leE, nI_ltE, nI_eqE, nI_lt0, nI_ge0, nI_eq0, nI_gt0, nI_le0, ilt_t, ilt_f, ile_t, ile_f, ieq_t, ieq_f, if_tt, if_ff, Nat.add_sub_cancel]
  by_cases c1 : bIn a (nI 0) (nI ns - nI 1) = 0
  · rw [if_pos c1, if_pos c1]
    exact ⟨c, nt, lk, rfl, FrX.rf, rfl, hC⟩
  · rw [if_neg c1, if_neg c1]
    by_cases c2 : bIn v (nI 0) (nI 99) = 0
    · rw [if_pos c2, if_pos c2]
      exact ⟨c, nt, lk, rfl, FrX.rf, rfl, hC⟩
    · rw [if_neg c2, if_neg c2]
      obtain ⟨a, ha, rfl⟩ := bIn_nI (by omega) c1
      obtain ⟨v, hv0, hv, rfl⟩ := bIn_lh (by omega) (by omega) c2
      by_cases c3 : nt = 8
      · refine ⟨c, nt, lk, ?_, FrX.rf, rfl, ?_⟩
        · rw [if_pos c3]
          simp (maxSteps := 3000000) (disch := omega) only [h5, xi_xsi_s, xi_xsi_n, xl_xsi, xa_xsi, xj_xsi, xr_xsi, xsi_xsi, xi_xsl, xl_xsl_s, xl_xsl_n, xa_xsl, xj_xsl, xr_xsl, xsl_xsl, xi_xsa, xl_xsa, xa_xsa_s, xa_xsa_n, xj_xsa, xr_xsa, xsa_xsa, xi_xsj, xl_xsj, xa_xsj, xj_xsj_s, xj_xsj_n, xr_xsj, xsj_xsj, xi_xsr, xl_xsr, xa_xsr, xj_xsr, xr_xsr_s, xr_xsr_n, xsr_xsr, xk_0, xg_0_0, xg_0_1, xg_0_2, xp_0_2, xg_0_3, xg_0_4, xg_0_5, xg_0_6, xk_1, xg_1_0, xg_1_1, xp_1_1, xg_1_2, xg_1_3, xp_1_3, xg_1_4, xg_1_5, xg_1_6, xg_1_7, xg_1_8, xg_1_9, xg_1_10, xg_1_11, xp_1_11, xg_1_12, xg_1_13, xg_1_14, xg_1_15, xp_1_15, xg_1_16, xp_1_16, xg_1_17, xp_1_17, xk_26, xg_26_0, xg_26_1, xp_26_1, xg_26_2, xg_26_3, xp_26_3, xg_26_4, xg_26_5, xg_26_6, xg_26_7, xg_26_8, xg_26_9, xg_26_10, xg_26_11, xp_26_11, xg_26_12, xg_26_13, xg_26_14, xg_26_15, xp_26_15, xg_26_16, xp_26_16, xg_26_17, xp_26_17, xk_51, xg_51_0, xg_51_1, xg_51_2, xg_51_3, xg_51_4, xg_51_5, xg_51_6, xg_51_7, xp_51_7, xg_51_8, xp_51_8, xk_90, xg_90_0, xg_90_1, xg_90_2, xg_90_3, xp_90_3, xg_90_4, xg_90_5, xp_90_5, xg_90_6, xg_90_7, xp_90_7, xg_90_8, xp_90_8, xg_90_9, xp_90_9, xg_90_10, xas_2, xal_2, xal_3, xas_4, xal_4, xln_4, xas_5, xal_5, xln_5, xas_6, xal_6, xln_6, xas_7, xal_7, xln_7, xas_8, xal_8, xln_8, xas_9, xal_9, xln_9, xas0_10, xas1_10, xasb_10, xal_10, xal_11, xas_12, xal_12, xln_12, xas_27, xal_27, xal_28, xas_29, xal_29, xln_29, xas_30, xal_30, xln_30, xas_31, xal_31, xln_31, xas_32, xal_32, xln_32, xas_33, xal_33, xln_33, xas_34, xal_34, xln_34, xas0_35, xas1_35, xasb_35, xal_35, xal_36, xas_37, xal_37, xln_37, xas_88, xal_88, xln_88, xal_89, xas_89, xln_89, xas_103, xal_103, xln_103, xas_104, xal_104, xln_104, xas_105, xal_105, xln_105, xas_106, xal_106, xln_106, xas_107, xal_107, xln_107, xal_13, xal_in14, xas_in14, xln_in14, xal_38, xal_in39, xas_in39, xln_in39, xal_52, xal_in53, xas_in53, xln_in53, xal_61, xal_in62, xas_in62, xln_in62, xal_70, xal_in71, xas_in71, xln_in71, xal_79, xal_in80, xas_in80, xln_in80, xal_91, xal_in92, xas_in92, xln_in92, cl_some, nm_b, nn_some, qn_some, qn_none, zk_0, zk_1, zk_n0, zk_n1, nI_add, pk_mul, pk_sub, nI_leE, nI_ltE, nI_eqE, nI_lt0, nI_ge0, nI_eq0, nI_gt0, nI_le0, ilt_t, ilt_f, ile_t, ile_f, ieq_t, ieq_f, if_tt, if_ff, Nat.add_sub_cancel]
        · rw [if_pos c3]
          exact hC
      · rw [if_neg c3]
        have n8 : nt < 8 := by omega
        let c' : CS := xsi (xsa (xsa (xsa (xsa (xsa (xsa (xsa c 4 (upK (xa c 4) nt (nI a))) 5 (upK (xa c 5) nt (nI v))) 6 (upK (xa c 6) nt (nI 1000000))) 7 (upK (xa c 7) nt (nI 0))) 8 (upK (xa c 8) nt (nI 0))) 9 (upK (xa c 9) nt (nI 0))) 10 (upK (xa c 10) nt (nI 1))) 113 (nI (nt + 1))
        obtain ⟨h1, ⟨⟨i1, i2, i3, i4, i5, i6⟩, t, so, pl, ta⟩, ⟨w1, w2, w3, w4, w5, w6, w7, w8, ⟨l, l1, l3, l4, l5⟩, w10, w11, w12, w13, w14, w15⟩⟩ := id hC
        have pb : ∀ k, (4 ≤ k ∧ k < 26) ∨ (113 ≤ k ∧ k ≤ 116) → PB1 k := fun k z => z
        refine ⟨c', nt + 1, min l (nt + 1), ?_, ?_, rfl, ?_⟩
        · simp (maxSteps := 3000000) (disch := omega) only [h5, xi_xsi_s, xi_xsi_n, xl_xsi, xa_xsi, xj_xsi, xr_xsi, xsi_xsi, xi_xsl, xl_xsl_s, xl_xsl_n, xa_xsl, xj_xsl, xr_xsl, xsl_xsl, xi_xsa, xl_xsa, xa_xsa_s, xa_xsa_n, xj_xsa, xr_xsa, xsa_xsa, xi_xsj, xl_xsj, xa_xsj, xj_xsj_s, xj_xsj_n, xr_xsj, xsj_xsj, xi_xsr, xl_xsr, xa_xsr, xj_xsr, xr_xsr_s, xr_xsr_n, xsr_xsr, xk_0, xg_0_0, xg_0_1, xg_0_2, xp_0_2, xg_0_3, xg_0_4, xg_0_5, xg_0_6, xk_1, xg_1_0, xg_1_1, xp_1_1, xg_1_2, xg_1_3, xp_1_3, xg_1_4, xg_1_5, xg_1_6, xg_1_7, xg_1_8, xg_1_9, xg_1_10, xg_1_11, xp_1_11, xg_1_12, xg_1_13, xg_1_14, xg_1_15, xp_1_15, xg_1_16, xp_1_16, xg_1_17, xp_1_17, xk_26, xg_26_0, xg_26_1, xp_26_1, xg_26_2, xg_26_3, xp_26_3, xg_26_4, xg_26_5, xg_26_6, xg_26_7, xg_26_8, xg_26_9, xg_26_10, xg_26_11, xp_26_11, xg_26_12, xg_26_13, xg_26_14, xg_26_15, xp_26_15, xg_26_16, xp_26_16, xg_26_17, xp_26_17, xk_51, xg_51_0, xg_51_1, xg_51_2, xg_51_3, xg_51_4, xg_51_5, xg_51_6, xg_51_7, xp_51_7, xg_51_8, xp_51_8, xk_90, xg_90_0, xg_90_1, xg_90_2, xg_90_3, xp_90_3, xg_90_4, xg_90_5, xp_90_5, xg_90_6, xg_90_7, xp_90_7, xg_90_8, xp_90_8, xg_90_9, xp_90_9, xg_90_10, xas_2, xal_2, xal_3, xas_4, xal_4, xln_4, xas_5, xal_5, xln_5, xas_6, xal_6, xln_6, xas_7, xal_7, xln_7, xas_8, xal_8, xln_8, xas_9, xal_9, xln_9, xas0_10, xas1_10, xasb_10, xal_10, xal_11, xas_12, xal_12, xln_12, xas_27, xal_27, xal_28, xas_29, xal_29, xln_29, xas_30, xal_30, xln_30, xas_31, xal_31, xln_31, xas_32, xal_32, xln_32, xas_33, xal_33, xln_33, xas_34, xal_34, xln_34, xas0_35, xas1_35, xasb_35, xal_35, xal_36, xas_37, xal_37, xln_37, xas_88, xal_88, xln_88, xal_89, xas_89, xln_89, xas_103, xal_103, xln_103, xas_104, xal_104, xln_104, xas_105, xal_105, xln_105, xas_106, xal_106, xln_106, xas_107, xal_107, xln_107, xal_13, xal_in14, xas_in14, xln_in14, xal_38, xal_in39, xas_in39, xln_in39, xal_52, xal_in53, xas_in53, xln_in53, xal_61, xal_in62, xas_in62, xln_in62, xal_70, xal_in71, xas_in71, xln_in71, xal_79, xal_in80, xas_in80, xln_in80, xal_91, xal_in92, xas_in92, xln_in92, cl_some, nm_b, nn_some, qn_some, qn_none, zk_0, zk_1, zk_n0, zk_n1, nI_add, pk_mul, pk_sub, nI_leE, nI_ltE, nI_eqE, nI_lt0, nI_ge0, nI_eq0, nI_gt0, nI_le0, ilt_t, ilt_f, ile_t, ile_f, ieq_t, ieq_f, if_tt, if_ff, Nat.add_sub_cancel]
          rfl
        · exact (((((((FrX.sa (P := PB1) (pb _ (by omega))).trans (FrX.sa (P := PB1) (pb _ (by omega))) (fun _ z => z) (fun _ z => z)).trans (FrX.sa (P := PB1) (pb _ (by omega))) (fun _ z => z) (fun _ z => z)).trans (FrX.sa (P := PB1) (pb _ (by omega))) (fun _ z => z) (fun _ z => z)).trans (FrX.sa (P := PB1) (pb _ (by omega))) (fun _ z => z) (fun _ z => z)).trans (FrX.sa (P := PB1) (pb _ (by omega))) (fun _ z => z) (fun _ z => z)).trans (FrX.sa (P := PB1) (pb _ (by omega))) (fun _ z => z) (fun _ z => z)).trans (FrX.si (P := PB1) (pb _ (by omega))) (fun _ z => z) (fun _ z => z)
        · generalize hs' : upK (upK (upK (upK (upK (upK (upK (upK (ma S 1) (1010 + nt) (nI a)) (1018 + nt) (nI v)) (1026 + nt) (nI 1)) (1034 + nt) (nI 1000000)) (1042 + nt) (nI 0)) (1050 + nt) (nI 0)) (1058 + nt) (nI 0)) 1 (nI (nt + 1)) = s'
          have g : ∀ k, k ≠ 1 → k ≠ 1010 + nt → k ≠ 1018 + nt → k ≠ 1026 + nt → k ≠ 1034 + nt → k ≠ 1042 + nt → k ≠ 1050 + nt → k ≠ 1058 + nt → s' k = ma S 1 k := fun k z1 z2 z3 z4 z5 z6 z7 z8 => by
            rw [← hs', upK_n z1, upK_n z8, upK_n z7, upK_n z6, upK_n z5, upK_n z4, upK_n z3, upK_n z2]
          have gl : ∀ k, k < 1010 → k ≠ 1 → s' k = ma S 1 k := fun k z1 z2 => g k z2 (by omega) (by omega) (by omega) (by omega) (by omega) (by omega) (by omega)
          have gh : ∀ k, 1066 ≤ k → s' k = ma S 1 k := fun k z1 => g k (by omega) (by omega) (by omega) (by omega) (by omega) (by omega) (by omega) (by omega)
          have gt : ∀ b j, (b = 1010 ∨ b = 1018 ∨ b = 1026 ∨ b = 1034 ∨ b = 1042 ∨ b = 1050 ∨ b = 1058) → j < nt → s' (b + j) = ma S 1 (b + j) := fun b j hb hj => g _ (by omega) (by omega) (by omega) (by omega) (by omega) (by omega) (by omega) (by omega)
          have a10 : s' (1010 + nt) = nI a := by rw [← hs', upK_n (by omega), upK_n (by omega), upK_n (by omega), upK_n (by omega), upK_n (by omega), upK_n (by omega), upK_n (by omega), upK_s]
          have a18 : s' (1018 + nt) = nI v := by rw [← hs', upK_n (by omega), upK_n (by omega), upK_n (by omega), upK_n (by omega), upK_n (by omega), upK_n (by omega), upK_s]
          have a26 : s' (1026 + nt) = nI 1 := by rw [← hs', upK_n (by omega), upK_n (by omega), upK_n (by omega), upK_n (by omega), upK_n (by omega), upK_s]
          have a34 : s' (1034 + nt) = nI 1000000 := by rw [← hs', upK_n (by omega), upK_n (by omega), upK_n (by omega), upK_n (by omega), upK_s]
          have a42 : s' (1042 + nt) = nI 0 := by rw [← hs', upK_n (by omega), upK_n (by omega), upK_n (by omega), upK_s]
          have a50 : s' (1050 + nt) = nI 0 := by rw [← hs', upK_n (by omega), upK_n (by omega), upK_s]
          have a58 : s' (1058 + nt) = nI 0 := by rw [← hs', upK_n (by omega), upK_s]
          have a1 : s' 1 = nI (nt + 1) := by rw [← hs', upK_s]
          have gN : ∀ k, 1066 ≤ k → sN s' k = sN (ma S 1) k := fun k hk => by unfold sN; rw [gh k hk]
          have x4 : xa c' 4 = upK (xa c 4) nt (nI a) := by simp (disch := omega) only [c', xa_xsi, xa_xsa_s, xa_xsa_n]
          have x5 : xa c' 5 = upK (xa c 5) nt (nI v) := by simp (disch := omega) only [c', xa_xsi, xa_xsa_s, xa_xsa_n]
          have x6 : xa c' 6 = upK (xa c 6) nt (nI 1000000) := by simp (disch := omega) only [c', xa_xsi, xa_xsa_s, xa_xsa_n]
          have x7 : xa c' 7 = upK (xa c 7) nt (nI 0) := by simp (disch := omega) only [c', xa_xsi, xa_xsa_s, xa_xsa_n]
          have x8 : xa c' 8 = upK (xa c 8) nt (nI 0) := by simp (disch := omega) only [c', xa_xsi, xa_xsa_s, xa_xsa_n]
          have x9 : xa c' 9 = upK (xa c 9) nt (nI 0) := by simp (disch := omega) only [c', xa_xsi, xa_xsa_s, xa_xsa_n]
          have x10 : xa c' 10 = upK (xa c 10) nt (nI 1) := by simp (disch := omega) only [c', xa_xsi, xa_xsa_s, xa_xsa_n]
          have xo : ∀ k, (k < 4 ∨ 11 ≤ k) → xa c' k = xa c k := fun k hk => by simp (disch := omega) only [c', xa_xsi, xa_xsa_n]
          have xio : ∀ k, k ≠ 113 → xi c' k = xi c k := fun k hk => by simp (disch := omega) only [c', xi_xsa, xi_xsi_n]
          show XC G X lo h0 c' s' ns (nt + 1) np (min l (nt + 1)) td q
          refine hC.goon hp_id (fun k z1 z2 => gl k z2 (by omega)) (xo 2 (by omega)) rfl ?_ ?_ ?_ (gl 0 (by omega) (by omega)) (gl 5 (by omega) (by omega)) a1 (by omega) ((gl 2 (by omega) (by omega)).trans w5) w6 (gl 3 (by omega) (by omega)) ⟨l, l1, l3, (gl 4 (by omega) (by omega)).trans l4, rfl⟩ ?_ ?_
          · refine ⟨?_, ?_, ?_, ?_, ?_, ?_⟩
            · rw [xio 111 (by omega), gl 5 (by omega) (by omega)]; exact i1
            · rw [xio 112 (by omega), gl 0 (by omega) (by omega)]; exact i2
            · rw [a1]; exact xi_xsi_s
            · rw [xio 114 (by omega), gl 2 (by omega) (by omega)]; exact i4
            · rw [xio 115 (by omega), gl 3 (by omega) (by omega)]; exact i5
            · rw [xio 116 (by omega), gl 4 (by omega) (by omega)]; exact i6
          · intro j hj
            rw [x4, x5, x6, x7, x8, x9, x10]
            by_cases e : j = nt
            · subst e
              rw [upK_s, upK_s, upK_s, upK_s, upK_s, upK_s, upK_s, a10, a18, a26, a34, a42, a50, a58]
              exact ⟨rfl, rfl, rfl, rfl, rfl, rfl, rfl⟩
            · rw [upK_n e, upK_n e, upK_n e, upK_n e, upK_n e, upK_n e, upK_n e, gt 1010 j (by omega) (by omega), gt 1018 j (by omega) (by omega), gt 1026 j (by omega) (by omega), gt 1034 j (by omega) (by omega), gt 1042 j (by omega) (by omega), gt 1050 j (by omega) (by omega), gt 1058 j (by omega) (by omega)]
              exact t j (by omega)
          · intro j hj
            rw [gN (1070 + j) (by omega), gN (1094 + j) (by omega), gh (1082 + j) (by omega), gh (1094 + j) (by omega), xo 12 (by omega), xo (14 + j) (by omega)]
            obtain ⟨q', e1, e2, e3, e4, e5⟩ := pl j hj
            exact ⟨q', e1, e2, e3, e4, fun i hi => by rw [gh (1110 + 10 * j + i) (by omega)]; exact e5 i hi⟩
          · intro j hj
            unfold ThV
            by_cases e : j = nt
            · subst e
              rw [a10, a18, a26, a34, a42]
              exact ⟨⟨a, ha, rfl⟩, ⟨1000000, by omega, rfl⟩, ⟨0, by omega, rfl⟩, Or.inr rfl, ⟨v, hv, rfl⟩⟩
            · rw [gt 1010 j (by omega) (by omega), gt 1018 j (by omega) (by omega), gt 1026 j (by omega) (by omega), gt 1034 j (by omega) (by omega), gt 1042 j (by omega) (by omega)]
              exact w12 j (by omega)
          · intro j hj
            obtain ⟨u1, u2, r, u3, u4, u5⟩ := w13 j hj
            refine ⟨by rw [gh (1070 + j) (by omega)]; exact u1, by rw [gh (1082 + j) (by omega)]; exact u2, r, u3, by rw [gh (1094 + j) (by omega)]; exact u4, fun i hi => ?_⟩
            rw [gh (1110 + 10 * j + i) (by omega)]
            obtain ⟨m, hm, em⟩ := u5 i hi
            exact ⟨m, Nat.lt_of_lt_of_le hm (Nat.pow_le_pow_right (by decide) (by omega)), em⟩
set_option maxRecDepth 100000 in
set_option maxHeartbeats 1000000 in
theorem x_row (hC : XC G X lo h0 c (ma S 1) ns nt np lk td q) (p set : Int32) : ∃ (c' : CS), F_X11_row G (encX G X c h0) nx X p set = some ((rowF S nt p set).1, encX G X c' h0, nx) ∧ FrX PB1 c c' ∧ xr c' = xr c ∧ XC G X lo h0 c' (rowF S nt p set).2 ns nt np lk td q := by
  obtain ⟨h5, h12⟩ := x_npC hC
  have h51 := x_thC hC
  have h8 := x_nt8 hC
  have h2 : ma S 1 2 = nI np := hC.2.2.2.2.2.2.1
  have ep : F_X0_planAt G (encX G X c h0) nx (X + 1) p = _ := x_planAt h5 h12
  have esh : nI 1 <<< (nI nt &&& 31) = nI (2 ^ nt) := shl_n h8
  have h256 := two_le h8
  unfold F_X11_row rowF
  rw [h2]
  simp (maxSteps := 3000000) (disch := omega) only [ep, xi_xsi_s, xi_xsi_n, xl_xsi, xa_xsi, xj_xsi, xr_xsi, xsi_xsi, xi_xsl, xl_xsl_s, xl_xsl_n, xa_xsl, xj_xsl, xr_xsl, xsl_xsl, xi_xsa, xl_xsa, xa_xsa_s, xa_xsa_n, xj_xsa, xr_xsa, xsa_xsa, xi_xsj, xl_xsj, xa_xsj, xj_xsj_s, xj_xsj_n, xr_xsj, xsj_xsj, xi_xsr, xl_xsr, xa_xsr, xj_xsr, xr_xsr_s, xr_xsr_n, xsr_xsr, xk_0, xg_0_0, xg_0_1, xg_0_2, xp_0_2, xg_0_3, xg_0_4, xg_0_5, xg_0_6, xk_1, xg_1_0, xg_1_1, xp_1_1, xg_1_2, xg_1_3, xp_1_3, xg_1_4, xg_1_5, xg_1_6, xg_1_7, xg_1_8, xg_1_9, xg_1_10, xg_1_11, xp_1_11, xg_1_12, xg_1_13, xg_1_14, xg_1_15, xp_1_15, xg_1_16, xp_1_16, xg_1_17, xp_1_17, xk_26, xg_26_0, xg_26_1, xp_26_1, xg_26_2, xg_26_3, xp_26_3, xg_26_4, xg_26_5, xg_26_6, xg_26_7, xg_26_8, xg_26_9, xg_26_10, xg_26_11, xp_26_11, xg_26_12, xg_26_13, xg_26_14, xg_26_15, xp_26_15, xg_26_16, xp_26_16, xg_26_17, xp_26_17, xk_51, xg_51_0, xg_51_1, xg_51_2, xg_51_3, xg_51_4, xg_51_5, xg_51_6, xg_51_7, xp_51_7, xg_51_8, xp_51_8, xk_90, xg_90_0, xg_90_1, xg_90_2, xg_90_3, xp_90_3, xg_90_4, xg_90_5, xp_90_5, xg_90_6, xg_90_7, xp_90_7, xg_90_8, xp_90_8, xg_90_9, xp_90_9, xg_90_10, xas_2, xal_2, xal_3, xas_4, xal_4, xln_4, xas_5, xal_5, xln_5, xas_6, xal_6, xln_6, xas_7, xal_7, xln_7, xas_8, xal_8, xln_8, xas_9, xal_9, xln_9, xas0_10, xas1_10, xasb_10, xal_10, xal_11, xas_12, xal_12, xln_12, xas_27, xal_27, xal_28, xas_29, xal_29, xln_29, xas_30, xal_30, xln_30, xas_31, xal_31, xln_31, xas_32, xal_32, xln_32, xas_33, xal_33, xln_33, xas_34, xal_34, xln_34, xas0_35, xas1_35, xasb_35, xal_35, xal_36, xas_37, xal_37, xln_37, xas_88, xal_88, xln_88, xal_89, xas_89, xln_89, xas_103, xal_103, xln_103, xas_104, xal_104, xln_104, xas_105, xal_105, xln_105, xas_106, xal_106, xln_106, xas_107, xal_107, xln_107, xal_13, xal_in14, xas_in14, xln_in14, xal_38, xal_in39, xas_in39, xln_in39, xal_52, xal_in53, xas_in53, xln_in53, xal_61, xal_in62, xas_in62, xln_in62, xal_70, xal_in71, xas_in71, xln_in71, xal_79, xal_in80, xas_in80, xln_in80, xal_91, xal_in92, xas_in92, xln_in92, cl_some, nm_b, nn_some, qn_some, qn_none, zk_0, zk_1, zk_n0, zk_n1, nI_add, pk_mul, pk_sub, nI_leE, nI_ltE, nI_eqE, nI_lt0, nI_ge0, nI_eq0, nI_gt0, nI_le0, ilt_t, ilt_f, ile_t, ile_f, ieq_t, ieq_f, if_tt, if_ff, Nat.add_sub_cancel]
  by_cases c1 : bIn p (nI 0) (nI np - nI 1) = 0
  · rw [if_pos c1, if_pos c1]
    exact ⟨c, rfl, FrX.rf, rfl, hC⟩
  · rw [if_neg c1, if_neg c1]
    obtain ⟨p, hp, rfl⟩ := bIn_nI (by omega) c1
    obtain ⟨q0, k, v, hP⟩ := hC.pl hp
    rw [nI_clamp (by omega), hP.1]
    rw [qn_some, h51, esh, x_within, cl_some]
    by_cases c2 : bIn set (nI 0) (nI (2 ^ nt) - nI 1) = 0
    · rw [if_pos c2, if_pos c2]
      exact ⟨c, rfl, FrX.rf, rfl, hC⟩
    · rw [if_neg c2, if_neg c2]
      obtain ⟨m, hm, rfl⟩ := bIn_nI (by omega) c2
      have hq := hP.2.1 c
      have k6 := hP.2.2.1
      have e70 : ma S 1 (1070 + p) = nI k := hP.2.2.2.2.2.2.1
      have ein : ∀ {β : Type} {f : Int32 → Option β}, inC (encX G X c h0) q0 [1, 2, 3, 4, 6, 8, 10] [8] f = f (if k = 6 then nI 1 else nI 0) := by
        intro β f
        unfold inC
        rw [hq]
        rcases (show k = 0 ∨ k = 1 ∨ k = 2 ∨ k = 3 ∨ k = 4 ∨ k = 5 ∨ k = 6 by omega) with rfl | rfl | rfl | rfl | rfl | rfl | rfl <;> rfl
      rw [ein]
      by_cases ck6 : k = 6
      · subst ck6
        rw [if_pos e70, if_pos rfl, if_neg (show ¬ nI 1 = 0 by decide)]
        have e12 : xa c 12 p = ma S 1 (1094 + p) := hP.2.2.2.2.2.2.2.2.1
        have hp12 := hP.2.2.2.2.2.2.2.2.2.1
        obtain ⟨r, hr, er, hj⟩ := hP.2.2.2.2.2.2.2.2.2.2
        have esn : sN (ma S 1) (1094 + p) = r := by unfold sN; rw [er, nI_clamp (by omega)]
        rw [esn, er]
        simp (maxSteps := 3000000) (disch := omega) only [e12, er, xi_xsi_s, xi_xsi_n, xl_xsi, xa_xsi, xj_xsi, xr_xsi, xsi_xsi, xi_xsl, xl_xsl_s, xl_xsl_n, xa_xsl, xj_xsl, xr_xsl, xsl_xsl, xi_xsa, xl_xsa, xa_xsa_s, xa_xsa_n, xj_xsa, xr_xsa, xsa_xsa, xi_xsj, xl_xsj, xa_xsj, xj_xsj_s, xj_xsj_n, xr_xsj, xsj_xsj, xi_xsr, xl_xsr, xa_xsr, xj_xsr, xr_xsr_s, xr_xsr_n, xsr_xsr, xk_0, xg_0_0, xg_0_1, xg_0_2, xp_0_2, xg_0_3, xg_0_4, xg_0_5, xg_0_6, xk_1, xg_1_0, xg_1_1, xp_1_1, xg_1_2, xg_1_3, xp_1_3, xg_1_4, xg_1_5, xg_1_6, xg_1_7, xg_1_8, xg_1_9, xg_1_10, xg_1_11, xp_1_11, xg_1_12, xg_1_13, xg_1_14, xg_1_15, xp_1_15, xg_1_16, xp_1_16, xg_1_17, xp_1_17, xk_26, xg_26_0, xg_26_1, xp_26_1, xg_26_2, xg_26_3, xp_26_3, xg_26_4, xg_26_5, xg_26_6, xg_26_7, xg_26_8, xg_26_9, xg_26_10, xg_26_11, xp_26_11, xg_26_12, xg_26_13, xg_26_14, xg_26_15, xp_26_15, xg_26_16, xp_26_16, xg_26_17, xp_26_17, xk_51, xg_51_0, xg_51_1, xg_51_2, xg_51_3, xg_51_4, xg_51_5, xg_51_6, xg_51_7, xp_51_7, xg_51_8, xp_51_8, xk_90, xg_90_0, xg_90_1, xg_90_2, xg_90_3, xp_90_3, xg_90_4, xg_90_5, xp_90_5, xg_90_6, xg_90_7, xp_90_7, xg_90_8, xp_90_8, xg_90_9, xp_90_9, xg_90_10, xas_2, xal_2, xal_3, xas_4, xal_4, xln_4, xas_5, xal_5, xln_5, xas_6, xal_6, xln_6, xas_7, xal_7, xln_7, xas_8, xal_8, xln_8, xas_9, xal_9, xln_9, xas0_10, xas1_10, xasb_10, xal_10, xal_11, xas_12, xal_12, xln_12, xas_27, xal_27, xal_28, xas_29, xal_29, xln_29, xas_30, xal_30, xln_30, xas_31, xal_31, xln_31, xas_32, xal_32, xln_32, xas_33, xal_33, xln_33, xas_34, xal_34, xln_34, xas0_35, xas1_35, xasb_35, xal_35, xal_36, xas_37, xal_37, xln_37, xas_88, xal_88, xln_88, xal_89, xas_89, xln_89, xas_103, xal_103, xln_103, xas_104, xal_104, xln_104, xas_105, xal_105, xln_105, xas_106, xal_106, xln_106, xas_107, xal_107, xln_107, xal_13, xal_in14, xas_in14, xln_in14, xal_38, xal_in39, xas_in39, xln_in39, xal_52, xal_in53, xas_in53, xln_in53, xal_61, xal_in62, xas_in62, xln_in62, xal_70, xal_in71, xas_in71, xln_in71, xal_79, xal_in80, xas_in80, xln_in80, xal_91, xal_in92, xas_in92, xln_in92, cl_some, nm_b, nn_some, qn_some, qn_none, zk_0, zk_1, zk_n0, zk_n1, nI_add, pk_mul, pk_sub, nI_leE, nI_ltE, nI_eqE, nI_lt0, nI_ge0, nI_eq0, nI_gt0, nI_le0, ilt_t, ilt_f, ile_t, ile_f, ieq_t, ieq_f, if_tt, if_ff, Nat.add_sub_cancel]
        by_cases c3 : r = 10
        · refine ⟨c, ?_, FrX.rf, rfl, ?_⟩
          · rw [if_pos c3, if_neg (by omega)]
          · rw [if_pos c3]; exact hC
        · have r10 : r < 10 := by omega
          obtain ⟨h1, ⟨⟨i1, i2, i3, i4, i5, i6⟩, t, so, pl, ta⟩, ⟨w1, w2, w3, w4, w5, w6, w7, w8, w9, w10, w11, w12, w13, w14, w15⟩⟩ := id hC
          refine ⟨xsa (xsa c (14 + p) (upK (xa c (14 + p)) r (nI m))) 12 (upK (xa c 12) p (nI (r + 1))), ?_, (FrX.sa (P := PB1) (by unfold PB1; omega)).trans (FrX.sa (P := PB1) (by unfold PB1; omega)) (fun _ z => z) (fun _ z => z), rfl, ?_⟩
          · rw [if_neg c3, if_pos r10]
          · rw [if_neg c3]
            generalize hs' : upK (upK (ma S 1) (1110 + 10 * p + r) (nI m)) (1094 + p) (nI (r + 1)) = s'
            have g : ∀ k, k ≠ 1110 + 10 * p + r → k ≠ 1094 + p → s' k = ma S 1 k := fun k z1 z2 => by rw [← hs', upK_n z2, upK_n z1]
            have gl : ∀ k, k < 1094 → s' k = ma S 1 k := fun k z => g k (by omega) (by omega)
            have b94 : s' (1094 + p) = nI (r + 1) := by rw [← hs', upK_s]
            have b11 : s' (1110 + 10 * p + r) = nI m := by rw [← hs', upK_n (by omega), upK_s]
            have gN : ∀ k, k < 1094 → sN s' k = sN (ma S 1) k := fun k hk => by unfold sN; rw [gl k hk]
            show XC G X lo h0 _ s' ns nt np lk td q
            refine hC.goon hp_id (fun k z1 z2 => gl k (by omega)) (by rw [xa_xsa_n (by omega), xa_xsa_n (by omega)]) rfl ?_ ?_ ?_ (gl 0 (by omega)) (gl 5 (by omega)) ((gl 1 (by omega)).trans w3) w4 ((gl 2 (by omega)).trans w5) w6 (gl 3 (by omega)) ?_ ?_ ?_
            · refine ⟨?_, ?_, ?_, ?_, ?_, ?_⟩
              · rw [gl 5 (by omega)]; exact i1
              · rw [gl 0 (by omega)]; exact i2
              · rw [gl 1 (by omega)]; exact i3
              · rw [gl 2 (by omega)]; exact i4
              · rw [gl 3 (by omega)]; exact i5
              · rw [gl 4 (by omega)]; exact i6
            · intro j hj
              rw [xa_xsa_n (by omega), xa_xsa_n (by omega), xa_xsa_n (by omega), xa_xsa_n (by omega), xa_xsa_n (by omega), xa_xsa_n (by omega), xa_xsa_n (by omega), xa_xsa_n (by omega), xa_xsa_n (by omega), xa_xsa_n (by omega), xa_xsa_n (by omega), xa_xsa_n (by omega), xa_xsa_n (by omega), xa_xsa_n (by omega), gl (1010 + j) (by omega), gl (1018 + j) (by omega), gl (1034 + j) (by omega), gl (1042 + j) (by omega), gl (1050 + j) (by omega), gl (1058 + j) (by omega), gl (1026 + j) (by omega)]
              exact t j hj
            · intro j hj
              obtain ⟨q', e1, e2, e3, e4, e5⟩ := pl j hj
              rw [gN (1070 + j) (by omega), gl (1082 + j) (by omega), xa_xsa_s, xa_xsa_n (show 14 + j ≠ 12 by omega)]
              by_cases e : j = p
              · subst e
                have en : sN s' (1094 + j) = r + 1 := by unfold sN; rw [b94, nI_clamp (by omega)]
                rw [en, upK_s, b94, xa_xsa_s]
                refine ⟨q', e1, e2, e3, rfl, fun i hi => ?_⟩
                by_cases ei : i = r
                · subst ei
                  rw [upK_s, b11]
                · rw [upK_n ei, g (1110 + 10 * j + i) (by omega) (by omega)]
                  exact e5 i (by rw [esn]; omega)
              · have e94 : s' (1094 + j) = ma S 1 (1094 + j) := g _ (by omega) (by omega)
                have en : sN s' (1094 + j) = sN (ma S 1) (1094 + j) := by unfold sN; rw [e94]
                obtain ⟨u1, u2, r', u3, u4, u5⟩ := w13 j hj
                have en2 : sN (ma S 1) (1094 + j) = r' := by unfold sN; rw [u4, nI_clamp (by omega)]
                rw [en, upK_n e, e94, xa_xsa_n (by omega)]
                refine ⟨q', e1, e2, e3, e4, fun i hi => ?_⟩
                rw [en2] at hi
                rw [g (1110 + 10 * j + i) (by omega) (by omega)]
                exact e5 i (by rw [en2]; exact hi)
            · rw [gl 4 (by omega)]
              exact w9
            · intro j hj
              unfold ThV
              rw [gl (1010 + j) (by omega), gl (1018 + j) (by omega), gl (1034 + j) (by omega), gl (1042 + j) (by omega), gl (1026 + j) (by omega)]
              exact w12 j hj
            · intro j hj
              obtain ⟨u1, u2, r', u3, u4, u5⟩ := w13 j hj
              refine ⟨by rw [gl (1070 + j) (by omega)]; exact u1, by rw [gl (1082 + j) (by omega)]; exact u2, ?_⟩
              by_cases e : j = p
              · subst e
                obtain rfl : r' = r := by
                  rw [er] at u4
                  exact ((nI_eq (by omega) (by omega)).mp u4).symm
                refine ⟨r' + 1, by omega, b94, fun i hi => ?_⟩
                by_cases ei : i = r'
                · subst ei
                  exact ⟨m, hm, b11⟩
                · rw [g (1110 + 10 * j + i) (by omega) (by omega)]
                  exact u5 i (by omega)
              · refine ⟨r', u3, by rw [g _ (by omega) (by omega)]; exact u4, fun i hi => ?_⟩
                rw [g (1110 + 10 * j + i) (by omega) (by omega)]
                exact u5 i hi
      · have hk6 : ¬ ma S 1 (1070 + p) = nI 6 := fun z => ck6 ((nI_eq (by omega) (by omega)).mp (e70.symm.trans z))
        rw [if_neg hk6, if_neg ck6, if_pos (show nI 0 = 0 from rfl)]
        exact ⟨c, rfl, FrX.rf, rfl, hC⟩
end XST
