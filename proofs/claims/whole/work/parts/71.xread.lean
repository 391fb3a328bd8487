/-! THE CLASS: what is asked of the book; acts -/
section XRD
variable {G : Gx} {X lo nx : Nat} {h0 : Hp} {c : CS} {S : MS} {ns nt np lk td q : Nat}
theorem XC.bk (h : XC G X lo h0 c (ma S 1) ns nt np lk td q) : xi c 111 = ma S 1 5 ∧ xi c 112 = ma S 1 0 ∧ xi c 113 = ma S 1 1 ∧ xi c 114 = ma S 1 2 ∧ xi c 115 = ma S 1 3 ∧ xi c 116 = ma S 1 4 := h.2.1.1
theorem XC.nsC (h : XC G X lo h0 c (ma S 1) ns nt np lk td q) : ma S 1 0 = nI ns ∧ ns ≤ 6 := ⟨h.2.2.1, h.2.2.2.1⟩
set_option maxRecDepth 100000 in
set_option maxHeartbeats 1000000 in
theorem x_told (hC : XC G X lo h0 c (ma S 1) ns nt np lk td q) (a d k w : Int32) : F_X11_told G (encX G X c h0) nx X a d k w = some (toldF S a d k w, encX G X c h0, nx) := by
  obtain ⟨n1, n2⟩ := hC.nsC
  have e112 : xi c 112 = nI ns := hC.bk.2.1.trans n1
  unfold F_X11_told F_X11_told_27 F_X11_told_50 F_X11_told_75 F_X11_told_95 toldF
  rw [n1]
  simp (maxSteps := 3000000) (disch := omega) only [e112, x_within, xi_xsi_s, xi_xsi_n, xl_xsi, xa_xsi, xj_xsi, xr_xsi, xsi_xsi, xi_xsl, xl_xsl_s, xl_xsl_n, xa_xsl, xj_xsl, xr_xsl, xsl_xsl, xi_xsa, xl_xsa, xa_xsa_s, xa_xsa_n, xj_xsa, xr_xsa, xsa_xsa, xi_xsj, xl_xsj, xa_xsj, xj_xsj_s, xj_xsj_n, xr_xsj, xsj_xsj, xi_xsr, xl_xsr, xa_xsr, xj_xsr, xr_xsr_s, xr_xsr_n, xsr_xsr, xk_0, xg_0_0, xg_0_1, xg_0_2, xp_0_2, xg_0_3, xg_0_4, xg_0_5, xg_0_6, xk_1, xg_1_0, xg_1_1, xp_1_1, xg_1_2, xg_1_3, xp_1_3, xg_1_4, xg_1_5, xg_1_6, xg_1_7, xg_1_8, xg_1_9, xg_1_10, xg_1_11, xp_1_11, xg_1_12, xg_1_13, xg_1_14, xg_1_15, xp_1_15, xg_1_16, xp_1_16, xg_1_17, xp_1_17, xk_26, xg_26_0, xg_26_1, xp_26_1, xg_26_2, xg_26_3, xp_26_3, xg_26_4, xg_26_5, xg_26_6, xg_26_7, xg_26_8, xg_26_9, xg_26_10, xg_26_11, xp_26_11, xg_26_12, xg_26_13, xg_26_14, xg_26_15, xp_26_15, xg_26_16, xp_26_16, xg_26_17, xp_26_17, xk_51, xg_51_0, xg_51_1, xg_51_2, xg_51_3, xg_51_4, xg_51_5, xg_51_6, xg_51_7, xp_51_7, xg_51_8, xp_51_8, xk_90, xg_90_0, xg_90_1, xg_90_2, xg_90_3, xp_90_3, xg_90_4, xg_90_5, xp_90_5, xg_90_6, xg_90_7, xp_90_7, xg_90_8, xp_90_8, xg_90_9, xp_90_9, xg_90_10, xas_2, xal_2, xal_3, xas_4, xal_4, xln_4, xas_5, xal_5, xln_5, xas_6, xal_6, xln_6, xas_7, xal_7, xln_7, xas_8, xal_8, xln_8, xas_9, xal_9, xln_9, xas0_10, xas1_10, xasb_10, xal_10, xal_11, xas_12, xal_12, xln_12, xas_27, xal_27, xal_28, xas_29, xal_29, xln_29, xas_30, xal_30, xln_30, xas_31, xal_31, xln_31, xas_32, xal_32, xln_32, xas_33, xal_33, xln_33, xas_34, xal_34, xln_34, xas0_35, xas1_35, xasb_35, xal_35, xal_36, xas_37, xal_37, xln_37, xas_88, xal_88, xln_88, xal_89, xas_89, xln_89, xas_103, xal_103, xln_103, xas_104, xal_104, xln_104, xas_105, xal_105, xln_105, xas_106, xal_106, xln_106, xas_107, xal_107, xln_107, xal_13, xal_in14, xas_in14, xln_in14, xal_38, xal_in39, xas_in39, xln_in39, xal_52, xal_in53, xas_in53, xln_in53, xal_61, xal_in62, xas_in62, xln_in62, xal_70, xal_in71, xas_in71, xln_in71, xal_79, xal_in80, xas_in80, xln_in80, xal_91, xal_in92, xas_in92, xln_in92, cl_some, nm_b, nn_some, qn_some, qn_none, zk_0, zk_1, zk_n0, zk_n1, nI_add, pk_mul, pk_sub, nI_leE, nI_ltE, nI_eqE, nI_lt0, nI_ge0, nI_eq0, nI_gt0, nI_le0, ilt_t, ilt_f, ile_t, ile_f, ieq_t, ieq_f, if_tt, if_ff, Nat.add_sub_cancel]
  by_cases c1 : bIn a (nI 0) (nI ns - nI 1) = 0
  · rw [if_pos c1, if_pos c1]
  · rw [if_neg c1, if_neg c1]
    by_cases c2 : bIn w (nI 0) (nI 5) = 0
    · rw [if_pos c2, if_pos c2]
    · rw [if_neg c2, if_neg c2]
      by_cases c3 : bIn d (nI 0) (nI 999) = 0
      · rw [if_pos c3, if_pos c3]
      · rw [if_neg c3, if_neg c3]
        by_cases c4 : bIn k (nI 0) (nI 99) = 0
        · rw [if_pos c4, if_pos c4]
        · rw [if_neg c4, if_neg c4]
          obtain ⟨a, ha, rfl⟩ := bIn_nI (by omega) c1
          obtain ⟨w, hw0, hw, rfl⟩ := bIn_lh (by omega) (by omega) c2
          obtain ⟨p, ep, sp⟩ := hC.2.1.2.2.1 a ha
          have hs : SoAt G lo (encX G X c h0) p (ma S 1) a := sp.enc hC.1
          have ck7 : ∀ {β : Type} {f : Nat → Option β}, ck (encX G X c h0) p [7] f = f 7 := x_ck7 hs
          rw [nI_clamp (by omega), nI_clamp (by omega)]
          have ec0 := x_chance (nx := nx) (w := 0) (d := d) (k := k) hs (by omega)
          have ec1 := x_chance (nx := nx) (w := 1) (d := d) (k := k) hs (by omega)
          have l2 : ∀ v, v < 4 → ∀ {β : Type} {f : Int32 → Option β}, (gfR (encX G X c h0) p [7] 0 fun u => nn u fun q => alI (g_c G 0) (encX G X c h0) q (nI (2 + v)) f) = f (ma S 1 (140 + 4 * a + v)) := fun v hv β f => x_last2 hs hv
          rcases (show w = 0 ∨ w = 1 ∨ w = 2 ∨ w = 3 ∨ w = 4 ∨ w = 5 by omega) with rfl | rfl | rfl | rfl | rfl | rfl
          · simp (maxSteps := 3000000) (disch := omega) only [ep, ck7, ec0, xi_xsi_s, xi_xsi_n, xl_xsi, xa_xsi, xj_xsi, xr_xsi, xsi_xsi, xi_xsl, xl_xsl_s, xl_xsl_n, xa_xsl, xj_xsl, xr_xsl, xsl_xsl, xi_xsa, xl_xsa, xa_xsa_s, xa_xsa_n, xj_xsa, xr_xsa, xsa_xsa, xi_xsj, xl_xsj, xa_xsj, xj_xsj_s, xj_xsj_n, xr_xsj, xsj_xsj, xi_xsr, xl_xsr, xa_xsr, xj_xsr, xr_xsr_s, xr_xsr_n, xsr_xsr, xk_0, xg_0_0, xg_0_1, xg_0_2, xp_0_2, xg_0_3, xg_0_4, xg_0_5, xg_0_6, xk_1, xg_1_0, xg_1_1, xp_1_1, xg_1_2, xg_1_3, xp_1_3, xg_1_4, xg_1_5, xg_1_6, xg_1_7, xg_1_8, xg_1_9, xg_1_10, xg_1_11, xp_1_11, xg_1_12, xg_1_13, xg_1_14, xg_1_15, xp_1_15, xg_1_16, xp_1_16, xg_1_17, xp_1_17, xk_26, xg_26_0, xg_26_1, xp_26_1, xg_26_2, xg_26_3, xp_26_3, xg_26_4, xg_26_5, xg_26_6, xg_26_7, xg_26_8, xg_26_9, xg_26_10, xg_26_11, xp_26_11, xg_26_12, xg_26_13, xg_26_14, xg_26_15, xp_26_15, xg_26_16, xp_26_16, xg_26_17, xp_26_17, xk_51, xg_51_0, xg_51_1, xg_51_2, xg_51_3, xg_51_4, xg_51_5, xg_51_6, xg_51_7, xp_51_7, xg_51_8, xp_51_8, xk_90, xg_90_0, xg_90_1, xg_90_2, xg_90_3, xp_90_3, xg_90_4, xg_90_5, xp_90_5, xg_90_6, xg_90_7, xp_90_7, xg_90_8, xp_90_8, xg_90_9, xp_90_9, xg_90_10, xas_2, xal_2, xal_3, xas_4, xal_4, xln_4, xas_5, xal_5, xln_5, xas_6, xal_6, xln_6, xas_7, xal_7, xln_7, xas_8, xal_8, xln_8, xas_9, xal_9, xln_9, xas0_10, xas1_10, xasb_10, xal_10, xal_11, xas_12, xal_12, xln_12, xas_27, xal_27, xal_28, xas_29, xal_29, xln_29, xas_30, xal_30, xln_30, xas_31, xal_31, xln_31, xas_32, xal_32, xln_32, xas_33, xal_33, xln_33, xas_34, xal_34, xln_34, xas0_35, xas1_35, xasb_35, xal_35, xal_36, xas_37, xal_37, xln_37, xas_88, xal_88, xln_88, xal_89, xas_89, xln_89, xas_103, xal_103, xln_103, xas_104, xal_104, xln_104, xas_105, xal_105, xln_105, xas_106, xal_106, xln_106, xas_107, xal_107, xln_107, xal_13, xal_in14, xas_in14, xln_in14, xal_38, xal_in39, xas_in39, xln_in39, xal_52, xal_in53, xas_in53, xln_in53, xal_61, xal_in62, xas_in62, xln_in62, xal_70, xal_in71, xas_in71, xln_in71, xal_79, xal_in80, xas_in80, xln_in80, xal_91, xal_in92, xas_in92, xln_in92, cl_some, nm_b, nn_some, qn_some, qn_none, zk_0, zk_1, zk_n0, zk_n1, nI_add, pk_mul, pk_sub, nI_leE, nI_ltE, nI_eqE, nI_lt0, nI_ge0, nI_eq0, nI_gt0, nI_le0, ilt_t, ilt_f, ile_t, ile_f, ieq_t, ieq_f, if_tt, if_ff, Nat.add_sub_cancel]
          · simp (maxSteps := 3000000) (disch := omega) only [ep, ck7, ec1, xi_xsi_s, xi_xsi_n, xl_xsi, xa_xsi, xj_xsi, xr_xsi, xsi_xsi, xi_xsl, xl_xsl_s, xl_xsl_n, xa_xsl, xj_xsl, xr_xsl, xsl_xsl, xi_xsa, xl_xsa, xa_xsa_s, xa_xsa_n, xj_xsa, xr_xsa, xsa_xsa, xi_xsj, xl_xsj, xa_xsj, xj_xsj_s, xj_xsj_n, xr_xsj, xsj_xsj, xi_xsr, xl_xsr, xa_xsr, xj_xsr, xr_xsr_s, xr_xsr_n, xsr_xsr, xk_0, xg_0_0, xg_0_1, xg_0_2, xp_0_2, xg_0_3, xg_0_4, xg_0_5, xg_0_6, xk_1, xg_1_0, xg_1_1, xp_1_1, xg_1_2, xg_1_3, xp_1_3, xg_1_4, xg_1_5, xg_1_6, xg_1_7, xg_1_8, xg_1_9, xg_1_10, xg_1_11, xp_1_11, xg_1_12, xg_1_13, xg_1_14, xg_1_15, xp_1_15, xg_1_16, xp_1_16, xg_1_17, xp_1_17, xk_26, xg_26_0, xg_26_1, xp_26_1, xg_26_2, xg_26_3, xp_26_3, xg_26_4, xg_26_5, xg_26_6, xg_26_7, xg_26_8, xg_26_9, xg_26_10, xg_26_11, xp_26_11, xg_26_12, xg_26_13, xg_26_14, xg_26_15, xp_26_15, xg_26_16, xp_26_16, xg_26_17, xp_26_17, xk_51, xg_51_0, xg_51_1, xg_51_2, xg_51_3, xg_51_4, xg_51_5, xg_51_6, xg_51_7, xp_51_7, xg_51_8, xp_51_8, xk_90, xg_90_0, xg_90_1, xg_90_2, xg_90_3, xp_90_3, xg_90_4, xg_90_5, xp_90_5, xg_90_6, xg_90_7, xp_90_7, xg_90_8, xp_90_8, xg_90_9, xp_90_9, xg_90_10, xas_2, xal_2, xal_3, xas_4, xal_4, xln_4, xas_5, xal_5, xln_5, xas_6, xal_6, xln_6, xas_7, xal_7, xln_7, xas_8, xal_8, xln_8, xas_9, xal_9, xln_9, xas0_10, xas1_10, xasb_10, xal_10, xal_11, xas_12, xal_12, xln_12, xas_27, xal_27, xal_28, xas_29, xal_29, xln_29, xas_30, xal_30, xln_30, xas_31, xal_31, xln_31, xas_32, xal_32, xln_32, xas_33, xal_33, xln_33, xas_34, xal_34, xln_34, xas0_35, xas1_35, xasb_35, xal_35, xal_36, xas_37, xal_37, xln_37, xas_88, xal_88, xln_88, xal_89, xas_89, xln_89, xas_103, xal_103, xln_103, xas_104, xal_104, xln_104, xas_105, xal_105, xln_105, xas_106, xal_106, xln_106, xas_107, xal_107, xln_107, xal_13, xal_in14, xas_in14, xln_in14, xal_38, xal_in39, xas_in39, xln_in39, xal_52, xal_in53, xas_in53, xln_in53, xal_61, xal_in62, xas_in62, xln_in62, xal_70, xal_in71, xas_in71, xln_in71, xal_79, xal_in80, xas_in80, xln_in80, xal_91, xal_in92, xas_in92, xln_in92, cl_some, nm_b, nn_some, qn_some, qn_none, zk_0, zk_1, zk_n0, zk_n1, nI_add, pk_mul, pk_sub, nI_leE, nI_ltE, nI_eqE, nI_lt0, nI_ge0, nI_eq0, nI_gt0, nI_le0, ilt_t, ilt_f, ile_t, ile_f, ieq_t, ieq_f, if_tt, if_ff, Nat.add_sub_cancel]
          · have l2 : ∀ {β : Type} {f : Int32 → Option β}, (gfR (encX G X c h0) p [7] 0 fun u => nn u fun q => alI (g_c G 0) (encX G X c h0) q (nI 2) f) = f (ma S 1 (140 + 4 * a)) := fun {β f} => l2 0 (by omega)
            simp (maxSteps := 3000000) (disch := omega) only [ep, ck7, l2, xi_xsi_s, xi_xsi_n, xl_xsi, xa_xsi, xj_xsi, xr_xsi, xsi_xsi, xi_xsl, xl_xsl_s, xl_xsl_n, xa_xsl, xj_xsl, xr_xsl, xsl_xsl, xi_xsa, xl_xsa, xa_xsa_s, xa_xsa_n, xj_xsa, xr_xsa, xsa_xsa, xi_xsj, xl_xsj, xa_xsj, xj_xsj_s, xj_xsj_n, xr_xsj, xsj_xsj, xi_xsr, xl_xsr, xa_xsr, xj_xsr, xr_xsr_s, xr_xsr_n, xsr_xsr, xk_0, xg_0_0, xg_0_1, xg_0_2, xp_0_2, xg_0_3, xg_0_4, xg_0_5, xg_0_6, xk_1, xg_1_0, xg_1_1, xp_1_1, xg_1_2, xg_1_3, xp_1_3, xg_1_4, xg_1_5, xg_1_6, xg_1_7, xg_1_8, xg_1_9, xg_1_10, xg_1_11, xp_1_11, xg_1_12, xg_1_13, xg_1_14, xg_1_15, xp_1_15, xg_1_16, xp_1_16, xg_1_17, xp_1_17, xk_26, xg_26_0, xg_26_1, xp_26_1, xg_26_2, xg_26_3, xp_26_3, xg_26_4, xg_26_5, xg_26_6, xg_26_7, xg_26_8, xg_26_9, xg_26_10, xg_26_11, xp_26_11, xg_26_12, xg_26_13, xg_26_14, xg_26_15, xp_26_15, xg_26_16, xp_26_16, xg_26_17, xp_26_17, xk_51, xg_51_0, xg_51_1, xg_51_2, xg_51_3, xg_51_4, xg_51_5, xg_51_6, xg_51_7, xp_51_7, xg_51_8, xp_51_8, xk_90, xg_90_0, xg_90_1, xg_90_2, xg_90_3, xp_90_3, xg_90_4, xg_90_5, xp_90_5, xg_90_6, xg_90_7, xp_90_7, xg_90_8, xp_90_8, xg_90_9, xp_90_9, xg_90_10, xas_2, xal_2, xal_3, xas_4, xal_4, xln_4, xas_5, xal_5, xln_5, xas_6, xal_6, xln_6, xas_7, xal_7, xln_7, xas_8, xal_8, xln_8, xas_9, xal_9, xln_9, xas0_10, xas1_10, xasb_10, xal_10, xal_11, xas_12, xal_12, xln_12, xas_27, xal_27, xal_28, xas_29, xal_29, xln_29, xas_30, xal_30, xln_30, xas_31, xal_31, xln_31, xas_32, xal_32, xln_32, xas_33, xal_33, xln_33, xas_34, xal_34, xln_34, xas0_35, xas1_35, xasb_35, xal_35, xal_36, xas_37, xal_37, xln_37, xas_88, xal_88, xln_88, xal_89, xas_89, xln_89, xas_103, xal_103, xln_103, xas_104, xal_104, xln_104, xas_105, xal_105, xln_105, xas_106, xal_106, xln_106, xas_107, xal_107, xln_107, xal_13, xal_in14, xas_in14, xln_in14, xal_38, xal_in39, xas_in39, xln_in39, xal_52, xal_in53, xas_in53, xln_in53, xal_61, xal_in62, xas_in62, xln_in62, xal_70, xal_in71, xas_in71, xln_in71, xal_79, xal_in80, xas_in80, xln_in80, xal_91, xal_in92, xas_in92, xln_in92, cl_some, nm_b, nn_some, qn_some, qn_none, zk_0, zk_1, zk_n0, zk_n1, nI_add, pk_mul, pk_sub, nI_leE, nI_ltE, nI_eqE, nI_lt0, nI_ge0, nI_eq0, nI_gt0, nI_le0, ilt_t, ilt_f, ile_t, ile_f, ieq_t, ieq_f, if_tt, if_ff, Nat.add_sub_cancel]
          · have l2 : ∀ {β : Type} {f : Int32 → Option β}, (gfR (encX G X c h0) p [7] 0 fun u => nn u fun q => alI (g_c G 0) (encX G X c h0) q (nI 3) f) = f (ma S 1 (140 + 4 * a + 1)) := fun {β f} => l2 1 (by omega)
            simp (maxSteps := 3000000) (disch := omega) only [ep, ck7, l2, xi_xsi_s, xi_xsi_n, xl_xsi, xa_xsi, xj_xsi, xr_xsi, xsi_xsi, xi_xsl, xl_xsl_s, xl_xsl_n, xa_xsl, xj_xsl, xr_xsl, xsl_xsl, xi_xsa, xl_xsa, xa_xsa_s, xa_xsa_n, xj_xsa, xr_xsa, xsa_xsa, xi_xsj, xl_xsj, xa_xsj, xj_xsj_s, xj_xsj_n, xr_xsj, xsj_xsj, xi_xsr, xl_xsr, xa_xsr, xj_xsr, xr_xsr_s, xr_xsr_n, xsr_xsr, xk_0, xg_0_0, xg_0_1, xg_0_2, xp_0_2, xg_0_3, xg_0_4, xg_0_5, xg_0_6, xk_1, xg_1_0, xg_1_1, xp_1_1, xg_1_2, xg_1_3, xp_1_3, xg_1_4, xg_1_5, xg_1_6, xg_1_7, xg_1_8, xg_1_9, xg_1_10, xg_1_11, xp_1_11, xg_1_12, xg_1_13, xg_1_14, xg_1_15, xp_1_15, xg_1_16, xp_1_16, xg_1_17, xp_1_17, xk_26, xg_26_0, xg_26_1, xp_26_1, xg_26_2, xg_26_3, xp_26_3, xg_26_4, xg_26_5, xg_26_6, xg_26_7, xg_26_8, xg_26_9, xg_26_10, xg_26_11, xp_26_11, xg_26_12, xg_26_13, xg_26_14, xg_26_15, xp_26_15, xg_26_16, xp_26_16, xg_26_17, xp_26_17, xk_51, xg_51_0, xg_51_1, xg_51_2, xg_51_3, xg_51_4, xg_51_5, xg_51_6, xg_51_7, xp_51_7, xg_51_8, xp_51_8, xk_90, xg_90_0, xg_90_1, xg_90_2, xg_90_3, xp_90_3, xg_90_4, xg_90_5, xp_90_5, xg_90_6, xg_90_7, xp_90_7, xg_90_8, xp_90_8, xg_90_9, xp_90_9, xg_90_10, xas_2, xal_2, xal_3, xas_4, xal_4, xln_4, xas_5, xal_5, xln_5, xas_6, xal_6, xln_6, xas_7, xal_7, xln_7, xas_8, xal_8, xln_8, xas_9, xal_9, xln_9, xas0_10, xas1_10, xasb_10, xal_10, xal_11, xas_12, xal_12, xln_12, xas_27, xal_27, xal_28, xas_29, xal_29, xln_29, xas_30, xal_30, xln_30, xas_31, xal_31, xln_31, xas_32, xal_32, xln_32, xas_33, xal_33, xln_33, xas_34, xal_34, xln_34, xas0_35, xas1_35, xasb_35, xal_35, xal_36, xas_37, xal_37, xln_37, xas_88, xal_88, xln_88, xal_89, xas_89, xln_89, xas_103, xal_103, xln_103, xas_104, xal_104, xln_104, xas_105, xal_105, xln_105, xas_106, xal_106, xln_106, xas_107, xal_107, xln_107, xal_13, xal_in14, xas_in14, xln_in14, xal_38, xal_in39, xas_in39, xln_in39, xal_52, xal_in53, xas_in53, xln_in53, xal_61, xal_in62, xas_in62, xln_in62, xal_70, xal_in71, xas_in71, xln_in71, xal_79, xal_in80, xas_in80, xln_in80, xal_91, xal_in92, xas_in92, xln_in92, cl_some, nm_b, nn_some, qn_some, qn_none, zk_0, zk_1, zk_n0, zk_n1, nI_add, pk_mul, pk_sub, nI_leE, nI_ltE, nI_eqE, nI_lt0, nI_ge0, nI_eq0, nI_gt0, nI_le0, ilt_t, ilt_f, ile_t, ile_f, ieq_t, ieq_f, if_tt, if_ff, Nat.add_sub_cancel]
            rfl
          · have l2 : ∀ {β : Type} {f : Int32 → Option β}, (gfR (encX G X c h0) p [7] 0 fun u => nn u fun q => alI (g_c G 0) (encX G X c h0) q (nI 4) f) = f (ma S 1 (140 + 4 * a + 2)) := fun {β f} => l2 2 (by omega)
            simp (maxSteps := 3000000) (disch := omega) only [ep, ck7, l2, xi_xsi_s, xi_xsi_n, xl_xsi, xa_xsi, xj_xsi, xr_xsi, xsi_xsi, xi_xsl, xl_xsl_s, xl_xsl_n, xa_xsl, xj_xsl, xr_xsl, xsl_xsl, xi_xsa, xl_xsa, xa_xsa_s, xa_xsa_n, xj_xsa, xr_xsa, xsa_xsa, xi_xsj, xl_xsj, xa_xsj, xj_xsj_s, xj_xsj_n, xr_xsj, xsj_xsj, xi_xsr, xl_xsr, xa_xsr, xj_xsr, xr_xsr_s, xr_xsr_n, xsr_xsr, xk_0, xg_0_0, xg_0_1, xg_0_2, xp_0_2, xg_0_3, xg_0_4, xg_0_5, xg_0_6, xk_1, xg_1_0, xg_1_1, xp_1_1, xg_1_2, xg_1_3, xp_1_3, xg_1_4, xg_1_5, xg_1_6, xg_1_7, xg_1_8, xg_1_9, xg_1_10, xg_1_11, xp_1_11, xg_1_12, xg_1_13, xg_1_14, xg_1_15, xp_1_15, xg_1_16, xp_1_16, xg_1_17, xp_1_17, xk_26, xg_26_0, xg_26_1, xp_26_1, xg_26_2, xg_26_3, xp_26_3, xg_26_4, xg_26_5, xg_26_6, xg_26_7, xg_26_8, xg_26_9, xg_26_10, xg_26_11, xp_26_11, xg_26_12, xg_26_13, xg_26_14, xg_26_15, xp_26_15, xg_26_16, xp_26_16, xg_26_17, xp_26_17, xk_51, xg_51_0, xg_51_1, xg_51_2, xg_51_3, xg_51_4, xg_51_5, xg_51_6, xg_51_7, xp_51_7, xg_51_8, xp_51_8, xk_90, xg_90_0, xg_90_1, xg_90_2, xg_90_3, xp_90_3, xg_90_4, xg_90_5, xp_90_5, xg_90_6, xg_90_7, xp_90_7, xg_90_8, xp_90_8, xg_90_9, xp_90_9, xg_90_10, xas_2, xal_2, xal_3, xas_4, xal_4, xln_4, xas_5, xal_5, xln_5, xas_6, xal_6, xln_6, xas_7, xal_7, xln_7, xas_8, xal_8, xln_8, xas_9, xal_9, xln_9, xas0_10, xas1_10, xasb_10, xal_10, xal_11, xas_12, xal_12, xln_12, xas_27, xal_27, xal_28, xas_29, xal_29, xln_29, xas_30, xal_30, xln_30, xas_31, xal_31, xln_31, xas_32, xal_32, xln_32, xas_33, xal_33, xln_33, xas_34, xal_34, xln_34, xas0_35, xas1_35, xasb_35, xal_35, xal_36, xas_37, xal_37, xln_37, xas_88, xal_88, xln_88, xal_89, xas_89, xln_89, xas_103, xal_103, xln_103, xas_104, xal_104, xln_104, xas_105, xal_105, xln_105, xas_106, xal_106, xln_106, xas_107, xal_107, xln_107, xal_13, xal_in14, xas_in14, xln_in14, xal_38, xal_in39, xas_in39, xln_in39, xal_52, xal_in53, xas_in53, xln_in53, xal_61, xal_in62, xas_in62, xln_in62, xal_70, xal_in71, xas_in71, xln_in71, xal_79, xal_in80, xas_in80, xln_in80, xal_91, xal_in92, xas_in92, xln_in92, cl_some, nm_b, nn_some, qn_some, qn_none, zk_0, zk_1, zk_n0, zk_n1, nI_add, pk_mul, pk_sub, nI_leE, nI_ltE, nI_eqE, nI_lt0, nI_ge0, nI_eq0, nI_gt0, nI_le0, ilt_t, ilt_f, ile_t, ile_f, ieq_t, ieq_f, if_tt, if_ff, Nat.add_sub_cancel]
            rfl
          · have l2 : ∀ {β : Type} {f : Int32 → Option β}, (gfR (encX G X c h0) p [7] 0 fun u => nn u fun q => alI (g_c G 0) (encX G X c h0) q (nI 5) f) = f (ma S 1 (140 + 4 * a + 3)) := fun {β f} => l2 3 (by omega)
            simp (maxSteps := 3000000) (disch := omega) only [ep, ck7, l2, xi_xsi_s, xi_xsi_n, xl_xsi, xa_xsi, xj_xsi, xr_xsi, xsi_xsi, xi_xsl, xl_xsl_s, xl_xsl_n, xa_xsl, xj_xsl, xr_xsl, xsl_xsl, xi_xsa, xl_xsa, xa_xsa_s, xa_xsa_n, xj_xsa, xr_xsa, xsa_xsa, xi_xsj, xl_xsj, xa_xsj, xj_xsj_s, xj_xsj_n, xr_xsj, xsj_xsj, xi_xsr, xl_xsr, xa_xsr, xj_xsr, xr_xsr_s, xr_xsr_n, xsr_xsr, xk_0, xg_0_0, xg_0_1, xg_0_2, xp_0_2, xg_0_3, xg_0_4, xg_0_5, xg_0_6, xk_1, xg_1_0, xg_1_1, xp_1_1, xg_1_2, xg_1_3, xp_1_3, xg_1_4, xg_1_5, xg_1_6, xg_1_7, xg_1_8, xg_1_9, xg_1_10, xg_1_11, xp_1_11, xg_1_12, xg_1_13, xg_1_14, xg_1_15, xp_1_15, xg_1_16, xp_1_16, xg_1_17, xp_1_17, xk_26, xg_26_0, xg_26_1, xp_26_1, xg_26_2, xg_26_3, xp_26_3, xg_26_4, xg_26_5, xg_26_6, xg_26_7, xg_26_8, xg_26_9, xg_26_10, xg_26_11, xp_26_11, xg_26_12, xg_26_13, xg_26_14, xg_26_15, xp_26_15, xg_26_16, xp_26_16, xg_26_17, xp_26_17, xk_51, xg_51_0, xg_51_1, xg_51_2, xg_51_3, xg_51_4, xg_51_5, xg_51_6, xg_51_7, xp_51_7, xg_51_8, xp_51_8, xk_90, xg_90_0, xg_90_1, xg_90_2, xg_90_3, xp_90_3, xg_90_4, xg_90_5, xp_90_5, xg_90_6, xg_90_7, xp_90_7, xg_90_8, xp_90_8, xg_90_9, xp_90_9, xg_90_10, xas_2, xal_2, xal_3, xas_4, xal_4, xln_4, xas_5, xal_5, xln_5, xas_6, xal_6, xln_6, xas_7, xal_7, xln_7, xas_8, xal_8, xln_8, xas_9, xal_9, xln_9, xas0_10, xas1_10, xasb_10, xal_10, xal_11, xas_12, xal_12, xln_12, xas_27, xal_27, xal_28, xas_29, xal_29, xln_29, xas_30, xal_30, xln_30, xas_31, xal_31, xln_31, xas_32, xal_32, xln_32, xas_33, xal_33, xln_33, xas_34, xal_34, xln_34, xas0_35, xas1_35, xasb_35, xal_35, xal_36, xas_37, xal_37, xln_37, xas_88, xal_88, xln_88, xal_89, xas_89, xln_89, xas_103, xal_103, xln_103, xas_104, xal_104, xln_104, xas_105, xal_105, xln_105, xas_106, xal_106, xln_106, xas_107, xal_107, xln_107, xal_13, xal_in14, xas_in14, xln_in14, xal_38, xal_in39, xas_in39, xln_in39, xal_52, xal_in53, xas_in53, xln_in53, xal_61, xal_in62, xas_in62, xln_in62, xal_70, xal_in71, xas_in71, xln_in71, xal_79, xal_in80, xas_in80, xln_in80, xal_91, xal_in92, xas_in92, xln_in92, cl_some, nm_b, nn_some, qn_some, qn_none, zk_0, zk_1, zk_n0, zk_n1, nI_add, pk_mul, pk_sub, nI_leE, nI_ltE, nI_eqE, nI_lt0, nI_ge0, nI_eq0, nI_gt0, nI_le0, ilt_t, ilt_f, ile_t, ile_f, ieq_t, ieq_f, if_tt, if_ff, Nat.add_sub_cancel]
            rfl
set_option maxRecDepth 100000 in
set_option maxHeartbeats 1000000 in
theorem x_of (hC : XC G X lo h0 c (ma S 1) ns nt np lk td q) (t w : Int32) : F_X11_of G (encX G X c h0) nx X t w = some (ofF S t w, encX G X c h0, nx) := by
  have h5 := x_thC hC
  have h8 := x_nt8 hC
  have h1 : ma S 1 1 = nI nt := hC.2.2.2.2.1
  have eh := fun t => x_hasThing (G := G) (X := X) (h0 := h0) (nx := nx) h5 h8 (t := t)
  unfold F_X11_of ofF
  rw [h1]
  simp (maxSteps := 3000000) (disch := omega) only [eh, xi_xsi_s, xi_xsi_n, xl_xsi, xa_xsi, xj_xsi, xr_xsi, xsi_xsi, xi_xsl, xl_xsl_s, xl_xsl_n, xa_xsl, xj_xsl, xr_xsl, xsl_xsl, xi_xsa, xl_xsa, xa_xsa_s, xa_xsa_n, xj_xsa, xr_xsa, xsa_xsa, xi_xsj, xl_xsj, xa_xsj, xj_xsj_s, xj_xsj_n, xr_xsj, xsj_xsj, xi_xsr, xl_xsr, xa_xsr, xj_xsr, xr_xsr_s, xr_xsr_n, xsr_xsr, xk_0, xg_0_0, xg_0_1, xg_0_2, xp_0_2, xg_0_3, xg_0_4, xg_0_5, xg_0_6, xk_1, xg_1_0, xg_1_1, xp_1_1, xg_1_2, xg_1_3, xp_1_3, xg_1_4, xg_1_5, xg_1_6, xg_1_7, xg_1_8, xg_1_9, xg_1_10, xg_1_11, xp_1_11, xg_1_12, xg_1_13, xg_1_14, xg_1_15, xp_1_15, xg_1_16, xp_1_16, xg_1_17, xp_1_17, xk_26, xg_26_0, xg_26_1, xp_26_1, xg_26_2, xg_26_3, xp_26_3, xg_26_4, xg_26_5, xg_26_6, xg_26_7, xg_26_8, xg_26_9, xg_26_10, xg_26_11, xp_26_11, xg_26_12, xg_26_13, xg_26_14, xg_26_15, xp_26_15, xg_26_16, xp_26_16, xg_26_17, xp_26_17, xk_51, xg_51_0, xg_51_1, xg_51_2, xg_51_3, xg_51_4, xg_51_5, xg_51_6, xg_51_7, xp_51_7, xg_51_8, xp_51_8, xk_90, xg_90_0, xg_90_1, xg_90_2, xg_90_3, xp_90_3, xg_90_4, xg_90_5, xp_90_5, xg_90_6, xg_90_7, xp_90_7, xg_90_8, xp_90_8, xg_90_9, xp_90_9, xg_90_10, xas_2, xal_2, xal_3, xas_4, xal_4, xln_4, xas_5, xal_5, xln_5, xas_6, xal_6, xln_6, xas_7, xal_7, xln_7, xas_8, xal_8, xln_8, xas_9, xal_9, xln_9, xas0_10, xas1_10, xasb_10, xal_10, xal_11, xas_12, xal_12, xln_12, xas_27, xal_27, xal_28, xas_29, xal_29, xln_29, xas_30, xal_30, xln_30, xas_31, xal_31, xln_31, xas_32, xal_32, xln_32, xas_33, xal_33, xln_33, xas_34, xal_34, xln_34, xas0_35, xas1_35, xasb_35, xal_35, xal_36, xas_37, xal_37, xln_37, xas_88, xal_88, xln_88, xal_89, xas_89, xln_89, xas_103, xal_103, xln_103, xas_104, xal_104, xln_104, xas_105, xal_105, xln_105, xas_106, xal_106, xln_106, xas_107, xal_107, xln_107, xal_13, xal_in14, xas_in14, xln_in14, xal_38, xal_in39, xas_in39, xln_in39, xal_52, xal_in53, xas_in53, xln_in53, xal_61, xal_in62, xas_in62, xln_in62, xal_70, xal_in71, xas_in71, xln_in71, xal_79, xal_in80, xas_in80, xln_in80, xal_91, xal_in92, xas_in92, xln_in92, cl_some, nm_b, nn_some, qn_some, qn_none, zk_0, zk_1, zk_n0, zk_n1, nI_add, pk_mul, pk_sub, nI_leE, nI_ltE, nI_eqE, nI_lt0, nI_ge0, nI_eq0, nI_gt0, nI_le0, ilt_t, ilt_f, ile_t, ile_f, ieq_t, ieq_f, if_tt, if_ff, Nat.add_sub_cancel]
  by_cases c1 : bIn t (nI 0) (nI nt - nI 1) = 0
  · rw [if_pos c1, if_pos c1]
  · rw [if_neg c1, if_neg c1]
    obtain ⟨t, ht, rfl⟩ := bIn_nI (by omega) c1
    rw [nI_clamp (by omega)]
    obtain ⟨t4, t5, t6, t7, t8, t9, t10⟩ := hC.2.1.2.1 t ht
    by_cases w0 : w = nI 0
    · rw [if_pos w0, if_pos w0]
      simp (maxSteps := 3000000) (disch := omega) only [t4, xi_xsi_s, xi_xsi_n, xl_xsi, xa_xsi, xj_xsi, xr_xsi, xsi_xsi, xi_xsl, xl_xsl_s, xl_xsl_n, xa_xsl, xj_xsl, xr_xsl, xsl_xsl, xi_xsa, xl_xsa, xa_xsa_s, xa_xsa_n, xj_xsa, xr_xsa, xsa_xsa, xi_xsj, xl_xsj, xa_xsj, xj_xsj_s, xj_xsj_n, xr_xsj, xsj_xsj, xi_xsr, xl_xsr, xa_xsr, xj_xsr, xr_xsr_s, xr_xsr_n, xsr_xsr, xk_0, xg_0_0, xg_0_1, xg_0_2, xp_0_2, xg_0_3, xg_0_4, xg_0_5, xg_0_6, xk_1, xg_1_0, xg_1_1, xp_1_1, xg_1_2, xg_1_3, xp_1_3, xg_1_4, xg_1_5, xg_1_6, xg_1_7, xg_1_8, xg_1_9, xg_1_10, xg_1_11, xp_1_11, xg_1_12, xg_1_13, xg_1_14, xg_1_15, xp_1_15, xg_1_16, xp_1_16, xg_1_17, xp_1_17, xk_26, xg_26_0, xg_26_1, xp_26_1, xg_26_2, xg_26_3, xp_26_3, xg_26_4, xg_26_5, xg_26_6, xg_26_7, xg_26_8, xg_26_9, xg_26_10, xg_26_11, xp_26_11, xg_26_12, xg_26_13, xg_26_14, xg_26_15, xp_26_15, xg_26_16, xp_26_16, xg_26_17, xp_26_17, xk_51, xg_51_0, xg_51_1, xg_51_2, xg_51_3, xg_51_4, xg_51_5, xg_51_6, xg_51_7, xp_51_7, xg_51_8, xp_51_8, xk_90, xg_90_0, xg_90_1, xg_90_2, xg_90_3, xp_90_3, xg_90_4, xg_90_5, xp_90_5, xg_90_6, xg_90_7, xp_90_7, xg_90_8, xp_90_8, xg_90_9, xp_90_9, xg_90_10, xas_2, xal_2, xal_3, xas_4, xal_4, xln_4, xas_5, xal_5, xln_5, xas_6, xal_6, xln_6, xas_7, xal_7, xln_7, xas_8, xal_8, xln_8, xas_9, xal_9, xln_9, xas0_10, xas1_10, xasb_10, xal_10, xal_11, xas_12, xal_12, xln_12, xas_27, xal_27, xal_28, xas_29, xal_29, xln_29, xas_30, xal_30, xln_30, xas_31, xal_31, xln_31, xas_32, xal_32, xln_32, xas_33, xal_33, xln_33, xas_34, xal_34, xln_34, xas0_35, xas1_35, xasb_35, xal_35, xal_36, xas_37, xal_37, xln_37, xas_88, xal_88, xln_88, xal_89, xas_89, xln_89, xas_103, xal_103, xln_103, xas_104, xal_104, xln_104, xas_105, xal_105, xln_105, xas_106, xal_106, xln_106, xas_107, xal_107, xln_107, xal_13, xal_in14, xas_in14, xln_in14, xal_38, xal_in39, xas_in39, xln_in39, xal_52, xal_in53, xas_in53, xln_in53, xal_61, xal_in62, xas_in62, xln_in62, xal_70, xal_in71, xas_in71, xln_in71, xal_79, xal_in80, xas_in80, xln_in80, xal_91, xal_in92, xas_in92, xln_in92, cl_some, nm_b, nn_some, qn_some, qn_none, zk_0, zk_1, zk_n0, zk_n1, nI_add, pk_mul, pk_sub, nI_leE, nI_ltE, nI_eqE, nI_lt0, nI_ge0, nI_eq0, nI_gt0, nI_le0, ilt_t, ilt_f, ile_t, ile_f, ieq_t, ieq_f, if_tt, if_ff, Nat.add_sub_cancel]
    rw [if_neg w0, if_neg w0]
    by_cases w0 : w = nI 1
    · rw [if_pos w0, if_pos w0]
      simp (maxSteps := 3000000) (disch := omega) only [t5, xi_xsi_s, xi_xsi_n, xl_xsi, xa_xsi, xj_xsi, xr_xsi, xsi_xsi, xi_xsl, xl_xsl_s, xl_xsl_n, xa_xsl, xj_xsl, xr_xsl, xsl_xsl, xi_xsa, xl_xsa, xa_xsa_s, xa_xsa_n, xj_xsa, xr_xsa, xsa_xsa, xi_xsj, xl_xsj, xa_xsj, xj_xsj_s, xj_xsj_n, xr_xsj, xsj_xsj, xi_xsr, xl_xsr, xa_xsr, xj_xsr, xr_xsr_s, xr_xsr_n, xsr_xsr, xk_0, xg_0_0, xg_0_1, xg_0_2, xp_0_2, xg_0_3, xg_0_4, xg_0_5, xg_0_6, xk_1, xg_1_0, xg_1_1, xp_1_1, xg_1_2, xg_1_3, xp_1_3, xg_1_4, xg_1_5, xg_1_6, xg_1_7, xg_1_8, xg_1_9, xg_1_10, xg_1_11, xp_1_11, xg_1_12, xg_1_13, xg_1_14, xg_1_15, xp_1_15, xg_1_16, xp_1_16, xg_1_17, xp_1_17, xk_26, xg_26_0, xg_26_1, xp_26_1, xg_26_2, xg_26_3, xp_26_3, xg_26_4, xg_26_5, xg_26_6, xg_26_7, xg_26_8, xg_26_9, xg_26_10, xg_26_11, xp_26_11, xg_26_12, xg_26_13, xg_26_14, xg_26_15, xp_26_15, xg_26_16, xp_26_16, xg_26_17, xp_26_17, xk_51, xg_51_0, xg_51_1, xg_51_2, xg_51_3, xg_51_4, xg_51_5, xg_51_6, xg_51_7, xp_51_7, xg_51_8, xp_51_8, xk_90, xg_90_0, xg_90_1, xg_90_2, xg_90_3, xp_90_3, xg_90_4, xg_90_5, xp_90_5, xg_90_6, xg_90_7, xp_90_7, xg_90_8, xp_90_8, xg_90_9, xp_90_9, xg_90_10, xas_2, xal_2, xal_3, xas_4, xal_4, xln_4, xas_5, xal_5, xln_5, xas_6, xal_6, xln_6, xas_7, xal_7, xln_7, xas_8, xal_8, xln_8, xas_9, xal_9, xln_9, xas0_10, xas1_10, xasb_10, xal_10, xal_11, xas_12, xal_12, xln_12, xas_27, xal_27, xal_28, xas_29, xal_29, xln_29, xas_30, xal_30, xln_30, xas_31, xal_31, xln_31, xas_32, xal_32, xln_32, xas_33, xal_33, xln_33, xas_34, xal_34, xln_34, xas0_35, xas1_35, xasb_35, xal_35, xal_36, xas_37, xal_37, xln_37, xas_88, xal_88, xln_88, xal_89, xas_89, xln_89, xas_103, xal_103, xln_103, xas_104, xal_104, xln_104, xas_105, xal_105, xln_105, xas_106, xal_106, xln_106, xas_107, xal_107, xln_107, xal_13, xal_in14, xas_in14, xln_in14, xal_38, xal_in39, xas_in39, xln_in39, xal_52, xal_in53, xas_in53, xln_in53, xal_61, xal_in62, xas_in62, xln_in62, xal_70, xal_in71, xas_in71, xln_in71, xal_79, xal_in80, xas_in80, xln_in80, xal_91, xal_in92, xas_in92, xln_in92, cl_some, nm_b, nn_some, qn_some, qn_none, zk_0, zk_1, zk_n0, zk_n1, nI_add, pk_mul, pk_sub, nI_leE, nI_ltE, nI_eqE, nI_lt0, nI_ge0, nI_eq0, nI_gt0, nI_le0, ilt_t, ilt_f, ile_t, ile_f, ieq_t, ieq_f, if_tt, if_ff, Nat.add_sub_cancel]
    rw [if_neg w0, if_neg w0]
    by_cases w0 : w = nI 2
    · rw [if_pos w0, if_pos w0]
      simp (maxSteps := 3000000) (disch := omega) only [t6, xi_xsi_s, xi_xsi_n, xl_xsi, xa_xsi, xj_xsi, xr_xsi, xsi_xsi, xi_xsl, xl_xsl_s, xl_xsl_n, xa_xsl, xj_xsl, xr_xsl, xsl_xsl, xi_xsa, xl_xsa, xa_xsa_s, xa_xsa_n, xj_xsa, xr_xsa, xsa_xsa, xi_xsj, xl_xsj, xa_xsj, xj_xsj_s, xj_xsj_n, xr_xsj, xsj_xsj, xi_xsr, xl_xsr, xa_xsr, xj_xsr, xr_xsr_s, xr_xsr_n, xsr_xsr, xk_0, xg_0_0, xg_0_1, xg_0_2, xp_0_2, xg_0_3, xg_0_4, xg_0_5, xg_0_6, xk_1, xg_1_0, xg_1_1, xp_1_1, xg_1_2, xg_1_3, xp_1_3, xg_1_4, xg_1_5, xg_1_6, xg_1_7, xg_1_8, xg_1_9, xg_1_10, xg_1_11, xp_1_11, xg_1_12, xg_1_13, xg_1_14, xg_1_15, xp_1_15, xg_1_16, xp_1_16, xg_1_17, xp_1_17, xk_26, xg_26_0, xg_26_1, xp_26_1, xg_26_2, xg_26_3, xp_26_3, xg_26_4, xg_26_5, xg_26_6, xg_26_7, xg_26_8, xg_26_9, xg_26_10, xg_26_11, xp_26_11, xg_26_12, xg_26_13, xg_26_14, xg_26_15, xp_26_15, xg_26_16, xp_26_16, xg_26_17, xp_26_17, xk_51, xg_51_0, xg_51_1, xg_51_2, xg_51_3, xg_51_4, xg_51_5, xg_51_6, xg_51_7, xp_51_7, xg_51_8, xp_51_8, xk_90, xg_90_0, xg_90_1, xg_90_2, xg_90_3, xp_90_3, xg_90_4, xg_90_5, xp_90_5, xg_90_6, xg_90_7, xp_90_7, xg_90_8, xp_90_8, xg_90_9, xp_90_9, xg_90_10, xas_2, xal_2, xal_3, xas_4, xal_4, xln_4, xas_5, xal_5, xln_5, xas_6, xal_6, xln_6, xas_7, xal_7, xln_7, xas_8, xal_8, xln_8, xas_9, xal_9, xln_9, xas0_10, xas1_10, xasb_10, xal_10, xal_11, xas_12, xal_12, xln_12, xas_27, xal_27, xal_28, xas_29, xal_29, xln_29, xas_30, xal_30, xln_30, xas_31, xal_31, xln_31, xas_32, xal_32, xln_32, xas_33, xal_33, xln_33, xas_34, xal_34, xln_34, xas0_35, xas1_35, xasb_35, xal_35, xal_36, xas_37, xal_37, xln_37, xas_88, xal_88, xln_88, xal_89, xas_89, xln_89, xas_103, xal_103, xln_103, xas_104, xal_104, xln_104, xas_105, xal_105, xln_105, xas_106, xal_106, xln_106, xas_107, xal_107, xln_107, xal_13, xal_in14, xas_in14, xln_in14, xal_38, xal_in39, xas_in39, xln_in39, xal_52, xal_in53, xas_in53, xln_in53, xal_61, xal_in62, xas_in62, xln_in62, xal_70, xal_in71, xas_in71, xln_in71, xal_79, xal_in80, xas_in80, xln_in80, xal_91, xal_in92, xas_in92, xln_in92, cl_some, nm_b, nn_some, qn_some, qn_none, zk_0, zk_1, zk_n0, zk_n1, nI_add, pk_mul, pk_sub, nI_leE, nI_ltE, nI_eqE, nI_lt0, nI_ge0, nI_eq0, nI_gt0, nI_le0, ilt_t, ilt_f, ile_t, ile_f, ieq_t, ieq_f, if_tt, if_ff, Nat.add_sub_cancel]
    rw [if_neg w0, if_neg w0]
    by_cases w0 : w = nI 3
    · rw [if_pos w0, if_pos w0]
      simp (maxSteps := 3000000) (disch := omega) only [t7, xi_xsi_s, xi_xsi_n, xl_xsi, xa_xsi, xj_xsi, xr_xsi, xsi_xsi, xi_xsl, xl_xsl_s, xl_xsl_n, xa_xsl, xj_xsl, xr_xsl, xsl_xsl, xi_xsa, xl_xsa, xa_xsa_s, xa_xsa_n, xj_xsa, xr_xsa, xsa_xsa, xi_xsj, xl_xsj, xa_xsj, xj_xsj_s, xj_xsj_n, xr_xsj, xsj_xsj, xi_xsr, xl_xsr, xa_xsr, xj_xsr, xr_xsr_s, xr_xsr_n, xsr_xsr, xk_0, xg_0_0, xg_0_1, xg_0_2, xp_0_2, xg_0_3, xg_0_4, xg_0_5, xg_0_6, xk_1, xg_1_0, xg_1_1, xp_1_1, xg_1_2, xg_1_3, xp_1_3, xg_1_4, xg_1_5, xg_1_6, xg_1_7, xg_1_8, xg_1_9, xg_1_10, xg_1_11, xp_1_11, xg_1_12, xg_1_13, xg_1_14, xg_1_15, xp_1_15, xg_1_16, xp_1_16, xg_1_17, xp_1_17, xk_26, xg_26_0, xg_26_1, xp_26_1, xg_26_2, xg_26_3, xp_26_3, xg_26_4, xg_26_5, xg_26_6, xg_26_7, xg_26_8, xg_26_9, xg_26_10, xg_26_11, xp_26_11, xg_26_12, xg_26_13, xg_26_14, xg_26_15, xp_26_15, xg_26_16, xp_26_16, xg_26_17, xp_26_17, xk_51, xg_51_0, xg_51_1, xg_51_2, xg_51_3, xg_51_4, xg_51_5, xg_51_6, xg_51_7, xp_51_7, xg_51_8, xp_51_8, xk_90, xg_90_0, xg_90_1, xg_90_2, xg_90_3, xp_90_3, xg_90_4, xg_90_5, xp_90_5, xg_90_6, xg_90_7, xp_90_7, xg_90_8, xp_90_8, xg_90_9, xp_90_9, xg_90_10, xas_2, xal_2, xal_3, xas_4, xal_4, xln_4, xas_5, xal_5, xln_5, xas_6, xal_6, xln_6, xas_7, xal_7, xln_7, xas_8, xal_8, xln_8, xas_9, xal_9, xln_9, xas0_10, xas1_10, xasb_10, xal_10, xal_11, xas_12, xal_12, xln_12, xas_27, xal_27, xal_28, xas_29, xal_29, xln_29, xas_30, xal_30, xln_30, xas_31, xal_31, xln_31, xas_32, xal_32, xln_32, xas_33, xal_33, xln_33, xas_34, xal_34, xln_34, xas0_35, xas1_35, xasb_35, xal_35, xal_36, xas_37, xal_37, xln_37, xas_88, xal_88, xln_88, xal_89, xas_89, xln_89, xas_103, xal_103, xln_103, xas_104, xal_104, xln_104, xas_105, xal_105, xln_105, xas_106, xal_106, xln_106, xas_107, xal_107, xln_107, xal_13, xal_in14, xas_in14, xln_in14, xal_38, xal_in39, xas_in39, xln_in39, xal_52, xal_in53, xas_in53, xln_in53, xal_61, xal_in62, xas_in62, xln_in62, xal_70, xal_in71, xas_in71, xln_in71, xal_79, xal_in80, xas_in80, xln_in80, xal_91, xal_in92, xas_in92, xln_in92, cl_some, nm_b, nn_some, qn_some, qn_none, zk_0, zk_1, zk_n0, zk_n1, nI_add, pk_mul, pk_sub, nI_leE, nI_ltE, nI_eqE, nI_lt0, nI_ge0, nI_eq0, nI_gt0, nI_le0, ilt_t, ilt_f, ile_t, ile_f, ieq_t, ieq_f, if_tt, if_ff, Nat.add_sub_cancel]
    rw [if_neg w0, if_neg w0]
    by_cases w0 : w = nI 4
    · rw [if_pos w0, if_pos w0]
      simp (maxSteps := 3000000) (disch := omega) only [t8, xi_xsi_s, xi_xsi_n, xl_xsi, xa_xsi, xj_xsi, xr_xsi, xsi_xsi, xi_xsl, xl_xsl_s, xl_xsl_n, xa_xsl, xj_xsl, xr_xsl, xsl_xsl, xi_xsa, xl_xsa, xa_xsa_s, xa_xsa_n, xj_xsa, xr_xsa, xsa_xsa, xi_xsj, xl_xsj, xa_xsj, xj_xsj_s, xj_xsj_n, xr_xsj, xsj_xsj, xi_xsr, xl_xsr, xa_xsr, xj_xsr, xr_xsr_s, xr_xsr_n, xsr_xsr, xk_0, xg_0_0, xg_0_1, xg_0_2, xp_0_2, xg_0_3, xg_0_4, xg_0_5, xg_0_6, xk_1, xg_1_0, xg_1_1, xp_1_1, xg_1_2, xg_1_3, xp_1_3, xg_1_4, xg_1_5, xg_1_6, xg_1_7, xg_1_8, xg_1_9, xg_1_10, xg_1_11, xp_1_11, xg_1_12, xg_1_13, xg_1_14, xg_1_15, xp_1_15, xg_1_16, xp_1_16, xg_1_17, xp_1_17, xk_26, xg_26_0, xg_26_1, xp_26_1, xg_26_2, xg_26_3, xp_26_3, xg_26_4, xg_26_5, xg_26_6, xg_26_7, xg_26_8, xg_26_9, xg_26_10, xg_26_11, xp_26_11, xg_26_12, xg_26_13, xg_26_14, xg_26_15, xp_26_15, xg_26_16, xp_26_16, xg_26_17, xp_26_17, xk_51, xg_51_0, xg_51_1, xg_51_2, xg_51_3, xg_51_4, xg_51_5, xg_51_6, xg_51_7, xp_51_7, xg_51_8, xp_51_8, xk_90, xg_90_0, xg_90_1, xg_90_2, xg_90_3, xp_90_3, xg_90_4, xg_90_5, xp_90_5, xg_90_6, xg_90_7, xp_90_7, xg_90_8, xp_90_8, xg_90_9, xp_90_9, xg_90_10, xas_2, xal_2, xal_3, xas_4, xal_4, xln_4, xas_5, xal_5, xln_5, xas_6, xal_6, xln_6, xas_7, xal_7, xln_7, xas_8, xal_8, xln_8, xas_9, xal_9, xln_9, xas0_10, xas1_10, xasb_10, xal_10, xal_11, xas_12, xal_12, xln_12, xas_27, xal_27, xal_28, xas_29, xal_29, xln_29, xas_30, xal_30, xln_30, xas_31, xal_31, xln_31, xas_32, xal_32, xln_32, xas_33, xal_33, xln_33, xas_34, xal_34, xln_34, xas0_35, xas1_35, xasb_35, xal_35, xal_36, xas_37, xal_37, xln_37, xas_88, xal_88, xln_88, xal_89, xas_89, xln_89, xas_103, xal_103, xln_103, xas_104, xal_104, xln_104, xas_105, xal_105, xln_105, xas_106, xal_106, xln_106, xas_107, xal_107, xln_107, xal_13, xal_in14, xas_in14, xln_in14, xal_38, xal_in39, xas_in39, xln_in39, xal_52, xal_in53, xas_in53, xln_in53, xal_61, xal_in62, xas_in62, xln_in62, xal_70, xal_in71, xas_in71, xln_in71, xal_79, xal_in80, xas_in80, xln_in80, xal_91, xal_in92, xas_in92, xln_in92, cl_some, nm_b, nn_some, qn_some, qn_none, zk_0, zk_1, zk_n0, zk_n1, nI_add, pk_mul, pk_sub, nI_leE, nI_ltE, nI_eqE, nI_lt0, nI_ge0, nI_eq0, nI_gt0, nI_le0, ilt_t, ilt_f, ile_t, ile_f, ieq_t, ieq_f, if_tt, if_ff, Nat.add_sub_cancel]
    rw [if_neg w0, if_neg w0]
    by_cases w0 : w = nI 5
    · rw [if_pos w0, if_pos w0]
      simp (maxSteps := 3000000) (disch := omega) only [t9, xi_xsi_s, xi_xsi_n, xl_xsi, xa_xsi, xj_xsi, xr_xsi, xsi_xsi, xi_xsl, xl_xsl_s, xl_xsl_n, xa_xsl, xj_xsl, xr_xsl, xsl_xsl, xi_xsa, xl_xsa, xa_xsa_s, xa_xsa_n, xj_xsa, xr_xsa, xsa_xsa, xi_xsj, xl_xsj, xa_xsj, xj_xsj_s, xj_xsj_n, xr_xsj, xsj_xsj, xi_xsr, xl_xsr, xa_xsr, xj_xsr, xr_xsr_s, xr_xsr_n, xsr_xsr, xk_0, xg_0_0, xg_0_1, xg_0_2, xp_0_2, xg_0_3, xg_0_4, xg_0_5, xg_0_6, xk_1, xg_1_0, xg_1_1, xp_1_1, xg_1_2, xg_1_3, xp_1_3, xg_1_4, xg_1_5, xg_1_6, xg_1_7, xg_1_8, xg_1_9, xg_1_10, xg_1_11, xp_1_11, xg_1_12, xg_1_13, xg_1_14, xg_1_15, xp_1_15, xg_1_16, xp_1_16, xg_1_17, xp_1_17, xk_26, xg_26_0, xg_26_1, xp_26_1, xg_26_2, xg_26_3, xp_26_3, xg_26_4, xg_26_5, xg_26_6, xg_26_7, xg_26_8, xg_26_9, xg_26_10, xg_26_11, xp_26_11, xg_26_12, xg_26_13, xg_26_14, xg_26_15, xp_26_15, xg_26_16, xp_26_16, xg_26_17, xp_26_17, xk_51, xg_51_0, xg_51_1, xg_51_2, xg_51_3, xg_51_4, xg_51_5, xg_51_6, xg_51_7, xp_51_7, xg_51_8, xp_51_8, xk_90, xg_90_0, xg_90_1, xg_90_2, xg_90_3, xp_90_3, xg_90_4, xg_90_5, xp_90_5, xg_90_6, xg_90_7, xp_90_7, xg_90_8, xp_90_8, xg_90_9, xp_90_9, xg_90_10, xas_2, xal_2, xal_3, xas_4, xal_4, xln_4, xas_5, xal_5, xln_5, xas_6, xal_6, xln_6, xas_7, xal_7, xln_7, xas_8, xal_8, xln_8, xas_9, xal_9, xln_9, xas0_10, xas1_10, xasb_10, xal_10, xal_11, xas_12, xal_12, xln_12, xas_27, xal_27, xal_28, xas_29, xal_29, xln_29, xas_30, xal_30, xln_30, xas_31, xal_31, xln_31, xas_32, xal_32, xln_32, xas_33, xal_33, xln_33, xas_34, xal_34, xln_34, xas0_35, xas1_35, xasb_35, xal_35, xal_36, xas_37, xal_37, xln_37, xas_88, xal_88, xln_88, xal_89, xas_89, xln_89, xas_103, xal_103, xln_103, xas_104, xal_104, xln_104, xas_105, xal_105, xln_105, xas_106, xal_106, xln_106, xas_107, xal_107, xln_107, xal_13, xal_in14, xas_in14, xln_in14, xal_38, xal_in39, xas_in39, xln_in39, xal_52, xal_in53, xas_in53, xln_in53, xal_61, xal_in62, xas_in62, xln_in62, xal_70, xal_in71, xas_in71, xln_in71, xal_79, xal_in80, xas_in80, xln_in80, xal_91, xal_in92, xas_in92, xln_in92, cl_some, nm_b, nn_some, qn_some, qn_none, zk_0, zk_1, zk_n0, zk_n1, nI_add, pk_mul, pk_sub, nI_leE, nI_ltE, nI_eqE, nI_lt0, nI_ge0, nI_eq0, nI_gt0, nI_le0, ilt_t, ilt_f, ile_t, ile_f, ieq_t, ieq_f, if_tt, if_ff, Nat.add_sub_cancel]
    rw [if_neg w0, if_neg w0]
set_option maxRecDepth 100000 in
set_option maxHeartbeats 1000000 in
theorem x_count (hC : XC G X lo h0 c (ma S 1) ns nt np lk td q) (hb : xa c 107 0 = mi S 30) (w : Int32) : F_X11_count G (encX G X c h0) nx X w = some (countF S w, encX G X c h0, nx) := by
  obtain ⟨b1, b2, b3, b4, b5, b6⟩ := hC.bk
  unfold F_X11_count countF
  by_cases w0 : w = nI 0
  · rw [if_pos w0, if_pos w0]
    simp (maxSteps := 3000000) (disch := omega) only [b2, xi_xsi_s, xi_xsi_n, xl_xsi, xa_xsi, xj_xsi, xr_xsi, xsi_xsi, xi_xsl, xl_xsl_s, xl_xsl_n, xa_xsl, xj_xsl, xr_xsl, xsl_xsl, xi_xsa, xl_xsa, xa_xsa_s, xa_xsa_n, xj_xsa, xr_xsa, xsa_xsa, xi_xsj, xl_xsj, xa_xsj, xj_xsj_s, xj_xsj_n, xr_xsj, xsj_xsj, xi_xsr, xl_xsr, xa_xsr, xj_xsr, xr_xsr_s, xr_xsr_n, xsr_xsr, xk_0, xg_0_0, xg_0_1, xg_0_2, xp_0_2, xg_0_3, xg_0_4, xg_0_5, xg_0_6, xk_1, xg_1_0, xg_1_1, xp_1_1, xg_1_2, xg_1_3, xp_1_3, xg_1_4, xg_1_5, xg_1_6, xg_1_7, xg_1_8, xg_1_9, xg_1_10, xg_1_11, xp_1_11, xg_1_12, xg_1_13, xg_1_14, xg_1_15, xp_1_15, xg_1_16, xp_1_16, xg_1_17, xp_1_17, xk_26, xg_26_0, xg_26_1, xp_26_1, xg_26_2, xg_26_3, xp_26_3, xg_26_4, xg_26_5, xg_26_6, xg_26_7, xg_26_8, xg_26_9, xg_26_10, xg_26_11, xp_26_11, xg_26_12, xg_26_13, xg_26_14, xg_26_15, xp_26_15, xg_26_16, xp_26_16, xg_26_17, xp_26_17, xk_51, xg_51_0, xg_51_1, xg_51_2, xg_51_3, xg_51_4, xg_51_5, xg_51_6, xg_51_7, xp_51_7, xg_51_8, xp_51_8, xk_90, xg_90_0, xg_90_1, xg_90_2, xg_90_3, xp_90_3, xg_90_4, xg_90_5, xp_90_5, xg_90_6, xg_90_7, xp_90_7, xg_90_8, xp_90_8, xg_90_9, xp_90_9, xg_90_10, xas_2, xal_2, xal_3, xas_4, xal_4, xln_4, xas_5, xal_5, xln_5, xas_6, xal_6, xln_6, xas_7, xal_7, xln_7, xas_8, xal_8, xln_8, xas_9, xal_9, xln_9, xas0_10, xas1_10, xasb_10, xal_10, xal_11, xas_12, xal_12, xln_12, xas_27, xal_27, xal_28, xas_29, xal_29, xln_29, xas_30, xal_30, xln_30, xas_31, xal_31, xln_31, xas_32, xal_32, xln_32, xas_33, xal_33, xln_33, xas_34, xal_34, xln_34, xas0_35, xas1_35, xasb_35, xal_35, xal_36, xas_37, xal_37, xln_37, xas_88, xal_88, xln_88, xal_89, xas_89, xln_89, xas_103, xal_103, xln_103, xas_104, xal_104, xln_104, xas_105, xal_105, xln_105, xas_106, xal_106, xln_106, xas_107, xal_107, xln_107, xal_13, xal_in14, xas_in14, xln_in14, xal_38, xal_in39, xas_in39, xln_in39, xal_52, xal_in53, xas_in53, xln_in53, xal_61, xal_in62, xas_in62, xln_in62, xal_70, xal_in71, xas_in71, xln_in71, xal_79, xal_in80, xas_in80, xln_in80, xal_91, xal_in92, xas_in92, xln_in92, cl_some, nm_b, nn_some, qn_some, qn_none, zk_0, zk_1, zk_n0, zk_n1, nI_add, pk_mul, pk_sub, nI_leE, nI_ltE, nI_eqE, nI_lt0, nI_ge0, nI_eq0, nI_gt0, nI_le0, ilt_t, ilt_f, ile_t, ile_f, ieq_t, ieq_f, if_tt, if_ff, Nat.add_sub_cancel]
  rw [if_neg w0, if_neg w0]
  by_cases w0 : w = nI 1
  · rw [if_pos w0, if_pos w0]
    simp (maxSteps := 3000000) (disch := omega) only [b3, xi_xsi_s, xi_xsi_n, xl_xsi, xa_xsi, xj_xsi, xr_xsi, xsi_xsi, xi_xsl, xl_xsl_s, xl_xsl_n, xa_xsl, xj_xsl, xr_xsl, xsl_xsl, xi_xsa, xl_xsa, xa_xsa_s, xa_xsa_n, xj_xsa, xr_xsa, xsa_xsa, xi_xsj, xl_xsj, xa_xsj, xj_xsj_s, xj_xsj_n, xr_xsj, xsj_xsj, xi_xsr, xl_xsr, xa_xsr, xj_xsr, xr_xsr_s, xr_xsr_n, xsr_xsr, xk_0, xg_0_0, xg_0_1, xg_0_2, xp_0_2, xg_0_3, xg_0_4, xg_0_5, xg_0_6, xk_1, xg_1_0, xg_1_1, xp_1_1, xg_1_2, xg_1_3, xp_1_3, xg_1_4, xg_1_5, xg_1_6, xg_1_7, xg_1_8, xg_1_9, xg_1_10, xg_1_11, xp_1_11, xg_1_12, xg_1_13, xg_1_14, xg_1_15, xp_1_15, xg_1_16, xp_1_16, xg_1_17, xp_1_17, xk_26, xg_26_0, xg_26_1, xp_26_1, xg_26_2, xg_26_3, xp_26_3, xg_26_4, xg_26_5, xg_26_6, xg_26_7, xg_26_8, xg_26_9, xg_26_10, xg_26_11, xp_26_11, xg_26_12, xg_26_13, xg_26_14, xg_26_15, xp_26_15, xg_26_16, xp_26_16, xg_26_17, xp_26_17, xk_51, xg_51_0, xg_51_1, xg_51_2, xg_51_3, xg_51_4, xg_51_5, xg_51_6, xg_51_7, xp_51_7, xg_51_8, xp_51_8, xk_90, xg_90_0, xg_90_1, xg_90_2, xg_90_3, xp_90_3, xg_90_4, xg_90_5, xp_90_5, xg_90_6, xg_90_7, xp_90_7, xg_90_8, xp_90_8, xg_90_9, xp_90_9, xg_90_10, xas_2, xal_2, xal_3, xas_4, xal_4, xln_4, xas_5, xal_5, xln_5, xas_6, xal_6, xln_6, xas_7, xal_7, xln_7, xas_8, xal_8, xln_8, xas_9, xal_9, xln_9, xas0_10, xas1_10, xasb_10, xal_10, xal_11, xas_12, xal_12, xln_12, xas_27, xal_27, xal_28, xas_29, xal_29, xln_29, xas_30, xal_30, xln_30, xas_31, xal_31, xln_31, xas_32, xal_32, xln_32, xas_33, xal_33, xln_33, xas_34, xal_34, xln_34, xas0_35, xas1_35, xasb_35, xal_35, xal_36, xas_37, xal_37, xln_37, xas_88, xal_88, xln_88, xal_89, xas_89, xln_89, xas_103, xal_103, xln_103, xas_104, xal_104, xln_104, xas_105, xal_105, xln_105, xas_106, xal_106, xln_106, xas_107, xal_107, xln_107, xal_13, xal_in14, xas_in14, xln_in14, xal_38, xal_in39, xas_in39, xln_in39, xal_52, xal_in53, xas_in53, xln_in53, xal_61, xal_in62, xas_in62, xln_in62, xal_70, xal_in71, xas_in71, xln_in71, xal_79, xal_in80, xas_in80, xln_in80, xal_91, xal_in92, xas_in92, xln_in92, cl_some, nm_b, nn_some, qn_some, qn_none, zk_0, zk_1, zk_n0, zk_n1, nI_add, pk_mul, pk_sub, nI_leE, nI_ltE, nI_eqE, nI_lt0, nI_ge0, nI_eq0, nI_gt0, nI_le0, ilt_t, ilt_f, ile_t, ile_f, ieq_t, ieq_f, if_tt, if_ff, Nat.add_sub_cancel]
  rw [if_neg w0, if_neg w0]
  by_cases w0 : w = nI 2
  · rw [if_pos w0, if_pos w0]
    simp (maxSteps := 3000000) (disch := omega) only [b4, xi_xsi_s, xi_xsi_n, xl_xsi, xa_xsi, xj_xsi, xr_xsi, xsi_xsi, xi_xsl, xl_xsl_s, xl_xsl_n, xa_xsl, xj_xsl, xr_xsl, xsl_xsl, xi_xsa, xl_xsa, xa_xsa_s, xa_xsa_n, xj_xsa, xr_xsa, xsa_xsa, xi_xsj, xl_xsj, xa_xsj, xj_xsj_s, xj_xsj_n, xr_xsj, xsj_xsj, xi_xsr, xl_xsr, xa_xsr, xj_xsr, xr_xsr_s, xr_xsr_n, xsr_xsr, xk_0, xg_0_0, xg_0_1, xg_0_2, xp_0_2, xg_0_3, xg_0_4, xg_0_5, xg_0_6, xk_1, xg_1_0, xg_1_1, xp_1_1, xg_1_2, xg_1_3, xp_1_3, xg_1_4, xg_1_5, xg_1_6, xg_1_7, xg_1_8, xg_1_9, xg_1_10, xg_1_11, xp_1_11, xg_1_12, xg_1_13, xg_1_14, xg_1_15, xp_1_15, xg_1_16, xp_1_16, xg_1_17, xp_1_17, xk_26, xg_26_0, xg_26_1, xp_26_1, xg_26_2, xg_26_3, xp_26_3, xg_26_4, xg_26_5, xg_26_6, xg_26_7, xg_26_8, xg_26_9, xg_26_10, xg_26_11, xp_26_11, xg_26_12, xg_26_13, xg_26_14, xg_26_15, xp_26_15, xg_26_16, xp_26_16, xg_26_17, xp_26_17, xk_51, xg_51_0, xg_51_1, xg_51_2, xg_51_3, xg_51_4, xg_51_5, xg_51_6, xg_51_7, xp_51_7, xg_51_8, xp_51_8, xk_90, xg_90_0, xg_90_1, xg_90_2, xg_90_3, xp_90_3, xg_90_4, xg_90_5, xp_90_5, xg_90_6, xg_90_7, xp_90_7, xg_90_8, xp_90_8, xg_90_9, xp_90_9, xg_90_10, xas_2, xal_2, xal_3, xas_4, xal_4, xln_4, xas_5, xal_5, xln_5, xas_6, xal_6, xln_6, xas_7, xal_7, xln_7, xas_8, xal_8, xln_8, xas_9, xal_9, xln_9, xas0_10, xas1_10, xasb_10, xal_10, xal_11, xas_12, xal_12, xln_12, xas_27, xal_27, xal_28, xas_29, xal_29, xln_29, xas_30, xal_30, xln_30, xas_31, xal_31, xln_31, xas_32, xal_32, xln_32, xas_33, xal_33, xln_33, xas_34, xal_34, xln_34, xas0_35, xas1_35, xasb_35, xal_35, xal_36, xas_37, xal_37, xln_37, xas_88, xal_88, xln_88, xal_89, xas_89, xln_89, xas_103, xal_103, xln_103, xas_104, xal_104, xln_104, xas_105, xal_105, xln_105, xas_106, xal_106, xln_106, xas_107, xal_107, xln_107, xal_13, xal_in14, xas_in14, xln_in14, xal_38, xal_in39, xas_in39, xln_in39, xal_52, xal_in53, xas_in53, xln_in53, xal_61, xal_in62, xas_in62, xln_in62, xal_70, xal_in71, xas_in71, xln_in71, xal_79, xal_in80, xas_in80, xln_in80, xal_91, xal_in92, xas_in92, xln_in92, cl_some, nm_b, nn_some, qn_some, qn_none, zk_0, zk_1, zk_n0, zk_n1, nI_add, pk_mul, pk_sub, nI_leE, nI_ltE, nI_eqE, nI_lt0, nI_ge0, nI_eq0, nI_gt0, nI_le0, ilt_t, ilt_f, ile_t, ile_f, ieq_t, ieq_f, if_tt, if_ff, Nat.add_sub_cancel]
  rw [if_neg w0, if_neg w0]
  by_cases w0 : w = nI 3
  · rw [if_pos w0, if_pos w0]
    simp (maxSteps := 3000000) (disch := omega) only [b5, xi_xsi_s, xi_xsi_n, xl_xsi, xa_xsi, xj_xsi, xr_xsi, xsi_xsi, xi_xsl, xl_xsl_s, xl_xsl_n, xa_xsl, xj_xsl, xr_xsl, xsl_xsl, xi_xsa, xl_xsa, xa_xsa_s, xa_xsa_n, xj_xsa, xr_xsa, xsa_xsa, xi_xsj, xl_xsj, xa_xsj, xj_xsj_s, xj_xsj_n, xr_xsj, xsj_xsj, xi_xsr, xl_xsr, xa_xsr, xj_xsr, xr_xsr_s, xr_xsr_n, xsr_xsr, xk_0, xg_0_0, xg_0_1, xg_0_2, xp_0_2, xg_0_3, xg_0_4, xg_0_5, xg_0_6, xk_1, xg_1_0, xg_1_1, xp_1_1, xg_1_2, xg_1_3, xp_1_3, xg_1_4, xg_1_5, xg_1_6, xg_1_7, xg_1_8, xg_1_9, xg_1_10, xg_1_11, xp_1_11, xg_1_12, xg_1_13, xg_1_14, xg_1_15, xp_1_15, xg_1_16, xp_1_16, xg_1_17, xp_1_17, xk_26, xg_26_0, xg_26_1, xp_26_1, xg_26_2, xg_26_3, xp_26_3, xg_26_4, xg_26_5, xg_26_6, xg_26_7, xg_26_8, xg_26_9, xg_26_10, xg_26_11, xp_26_11, xg_26_12, xg_26_13, xg_26_14, xg_26_15, xp_26_15, xg_26_16, xp_26_16, xg_26_17, xp_26_17, xk_51, xg_51_0, xg_51_1, xg_51_2, xg_51_3, xg_51_4, xg_51_5, xg_51_6, xg_51_7, xp_51_7, xg_51_8, xp_51_8, xk_90, xg_90_0, xg_90_1, xg_90_2, xg_90_3, xp_90_3, xg_90_4, xg_90_5, xp_90_5, xg_90_6, xg_90_7, xp_90_7, xg_90_8, xp_90_8, xg_90_9, xp_90_9, xg_90_10, xas_2, xal_2, xal_3, xas_4, xal_4, xln_4, xas_5, xal_5, xln_5, xas_6, xal_6, xln_6, xas_7, xal_7, xln_7, xas_8, xal_8, xln_8, xas_9, xal_9, xln_9, xas0_10, xas1_10, xasb_10, xal_10, xal_11, xas_12, xal_12, xln_12, xas_27, xal_27, xal_28, xas_29, xal_29, xln_29, xas_30, xal_30, xln_30, xas_31, xal_31, xln_31, xas_32, xal_32, xln_32, xas_33, xal_33, xln_33, xas_34, xal_34, xln_34, xas0_35, xas1_35, xasb_35, xal_35, xal_36, xas_37, xal_37, xln_37, xas_88, xal_88, xln_88, xal_89, xas_89, xln_89, xas_103, xal_103, xln_103, xas_104, xal_104, xln_104, xas_105, xal_105, xln_105, xas_106, xal_106, xln_106, xas_107, xal_107, xln_107, xal_13, xal_in14, xas_in14, xln_in14, xal_38, xal_in39, xas_in39, xln_in39, xal_52, xal_in53, xas_in53, xln_in53, xal_61, xal_in62, xas_in62, xln_in62, xal_70, xal_in71, xas_in71, xln_in71, xal_79, xal_in80, xas_in80, xln_in80, xal_91, xal_in92, xas_in92, xln_in92, cl_some, nm_b, nn_some, qn_some, qn_none, zk_0, zk_1, zk_n0, zk_n1, nI_add, pk_mul, pk_sub, nI_leE, nI_ltE, nI_eqE, nI_lt0, nI_ge0, nI_eq0, nI_gt0, nI_le0, ilt_t, ilt_f, ile_t, ile_f, ieq_t, ieq_f, if_tt, if_ff, Nat.add_sub_cancel]
  rw [if_neg w0, if_neg w0]
  by_cases w0 : w = nI 4
  · rw [if_pos w0, if_pos w0]
    simp (maxSteps := 3000000) (disch := omega) only [b6, xi_xsi_s, xi_xsi_n, xl_xsi, xa_xsi, xj_xsi, xr_xsi, xsi_xsi, xi_xsl, xl_xsl_s, xl_xsl_n, xa_xsl, xj_xsl, xr_xsl, xsl_xsl, xi_xsa, xl_xsa, xa_xsa_s, xa_xsa_n, xj_xsa, xr_xsa, xsa_xsa, xi_xsj, xl_xsj, xa_xsj, xj_xsj_s, xj_xsj_n, xr_xsj, xsj_xsj, xi_xsr, xl_xsr, xa_xsr, xj_xsr, xr_xsr_s, xr_xsr_n, xsr_xsr, xk_0, xg_0_0, xg_0_1, xg_0_2, xp_0_2, xg_0_3, xg_0_4, xg_0_5, xg_0_6, xk_1, xg_1_0, xg_1_1, xp_1_1, xg_1_2, xg_1_3, xp_1_3, xg_1_4, xg_1_5, xg_1_6, xg_1_7, xg_1_8, xg_1_9, xg_1_10, xg_1_11, xp_1_11, xg_1_12, xg_1_13, xg_1_14, xg_1_15, xp_1_15, xg_1_16, xp_1_16, xg_1_17, xp_1_17, xk_26, xg_26_0, xg_26_1, xp_26_1, xg_26_2, xg_26_3, xp_26_3, xg_26_4, xg_26_5, xg_26_6, xg_26_7, xg_26_8, xg_26_9, xg_26_10, xg_26_11, xp_26_11, xg_26_12, xg_26_13, xg_26_14, xg_26_15, xp_26_15, xg_26_16, xp_26_16, xg_26_17, xp_26_17, xk_51, xg_51_0, xg_51_1, xg_51_2, xg_51_3, xg_51_4, xg_51_5, xg_51_6, xg_51_7, xp_51_7, xg_51_8, xp_51_8, xk_90, xg_90_0, xg_90_1, xg_90_2, xg_90_3, xp_90_3, xg_90_4, xg_90_5, xp_90_5, xg_90_6, xg_90_7, xp_90_7, xg_90_8, xp_90_8, xg_90_9, xp_90_9, xg_90_10, xas_2, xal_2, xal_3, xas_4, xal_4, xln_4, xas_5, xal_5, xln_5, xas_6, xal_6, xln_6, xas_7, xal_7, xln_7, xas_8, xal_8, xln_8, xas_9, xal_9, xln_9, xas0_10, xas1_10, xasb_10, xal_10, xal_11, xas_12, xal_12, xln_12, xas_27, xal_27, xal_28, xas_29, xal_29, xln_29, xas_30, xal_30, xln_30, xas_31, xal_31, xln_31, xas_32, xal_32, xln_32, xas_33, xal_33, xln_33, xas_34, xal_34, xln_34, xas0_35, xas1_35, xasb_35, xal_35, xal_36, xas_37, xal_37, xln_37, xas_88, xal_88, xln_88, xal_89, xas_89, xln_89, xas_103, xal_103, xln_103, xas_104, xal_104, xln_104, xas_105, xal_105, xln_105, xas_106, xal_106, xln_106, xas_107, xal_107, xln_107, xal_13, xal_in14, xas_in14, xln_in14, xal_38, xal_in39, xas_in39, xln_in39, xal_52, xal_in53, xas_in53, xln_in53, xal_61, xal_in62, xas_in62, xln_in62, xal_70, xal_in71, xas_in71, xln_in71, xal_79, xal_in80, xas_in80, xln_in80, xal_91, xal_in92, xas_in92, xln_in92, cl_some, nm_b, nn_some, qn_some, qn_none, zk_0, zk_1, zk_n0, zk_n1, nI_add, pk_mul, pk_sub, nI_leE, nI_ltE, nI_eqE, nI_lt0, nI_ge0, nI_eq0, nI_gt0, nI_le0, ilt_t, ilt_f, ile_t, ile_f, ieq_t, ieq_f, if_tt, if_ff, Nat.add_sub_cancel]
  rw [if_neg w0, if_neg w0]
  by_cases w0 : w = nI 5
  · rw [if_pos w0, if_pos w0]
    simp (maxSteps := 3000000) (disch := omega) only [b1, xi_xsi_s, xi_xsi_n, xl_xsi, xa_xsi, xj_xsi, xr_xsi, xsi_xsi, xi_xsl, xl_xsl_s, xl_xsl_n, xa_xsl, xj_xsl, xr_xsl, xsl_xsl, xi_xsa, xl_xsa, xa_xsa_s, xa_xsa_n, xj_xsa, xr_xsa, xsa_xsa, xi_xsj, xl_xsj, xa_xsj, xj_xsj_s, xj_xsj_n, xr_xsj, xsj_xsj, xi_xsr, xl_xsr, xa_xsr, xj_xsr, xr_xsr_s, xr_xsr_n, xsr_xsr, xk_0, xg_0_0, xg_0_1, xg_0_2, xp_0_2, xg_0_3, xg_0_4, xg_0_5, xg_0_6, xk_1, xg_1_0, xg_1_1, xp_1_1, xg_1_2, xg_1_3, xp_1_3, xg_1_4, xg_1_5, xg_1_6, xg_1_7, xg_1_8, xg_1_9, xg_1_10, xg_1_11, xp_1_11, xg_1_12, xg_1_13, xg_1_14, xg_1_15, xp_1_15, xg_1_16, xp_1_16, xg_1_17, xp_1_17, xk_26, xg_26_0, xg_26_1, xp_26_1, xg_26_2, xg_26_3, xp_26_3, xg_26_4, xg_26_5, xg_26_6, xg_26_7, xg_26_8, xg_26_9, xg_26_10, xg_26_11, xp_26_11, xg_26_12, xg_26_13, xg_26_14, xg_26_15, xp_26_15, xg_26_16, xp_26_16, xg_26_17, xp_26_17, xk_51, xg_51_0, xg_51_1, xg_51_2, xg_51_3, xg_51_4, xg_51_5, xg_51_6, xg_51_7, xp_51_7, xg_51_8, xp_51_8, xk_90, xg_90_0, xg_90_1, xg_90_2, xg_90_3, xp_90_3, xg_90_4, xg_90_5, xp_90_5, xg_90_6, xg_90_7, xp_90_7, xg_90_8, xp_90_8, xg_90_9, xp_90_9, xg_90_10, xas_2, xal_2, xal_3, xas_4, xal_4, xln_4, xas_5, xal_5, xln_5, xas_6, xal_6, xln_6, xas_7, xal_7, xln_7, xas_8, xal_8, xln_8, xas_9, xal_9, xln_9, xas0_10, xas1_10, xasb_10, xal_10, xal_11, xas_12, xal_12, xln_12, xas_27, xal_27, xal_28, xas_29, xal_29, xln_29, xas_30, xal_30, xln_30, xas_31, xal_31, xln_31, xas_32, xal_32, xln_32, xas_33, xal_33, xln_33, xas_34, xal_34, xln_34, xas0_35, xas1_35, xasb_35, xal_35, xal_36, xas_37, xal_37, xln_37, xas_88, xal_88, xln_88, xal_89, xas_89, xln_89, xas_103, xal_103, xln_103, xas_104, xal_104, xln_104, xas_105, xal_105, xln_105, xas_106, xal_106, xln_106, xas_107, xal_107, xln_107, xal_13, xal_in14, xas_in14, xln_in14, xal_38, xal_in39, xas_in39, xln_in39, xal_52, xal_in53, xas_in53, xln_in53, xal_61, xal_in62, xas_in62, xln_in62, xal_70, xal_in71, xas_in71, xln_in71, xal_79, xal_in80, xas_in80, xln_in80, xal_91, xal_in92, xas_in92, xln_in92, cl_some, nm_b, nn_some, qn_some, qn_none, zk_0, zk_1, zk_n0, zk_n1, nI_add, pk_mul, pk_sub, nI_leE, nI_ltE, nI_eqE, nI_lt0, nI_ge0, nI_eq0, nI_gt0, nI_le0, ilt_t, ilt_f, ile_t, ile_f, ieq_t, ieq_f, if_tt, if_ff, Nat.add_sub_cancel]
  rw [if_neg w0, if_neg w0]
  by_cases w0 : w = nI 6
  · rw [if_pos w0, if_pos w0]
    simp (maxSteps := 3000000) (disch := omega) only [hb, xi_xsi_s, xi_xsi_n, xl_xsi, xa_xsi, xj_xsi, xr_xsi, xsi_xsi, xi_xsl, xl_xsl_s, xl_xsl_n, xa_xsl, xj_xsl, xr_xsl, xsl_xsl, xi_xsa, xl_xsa, xa_xsa_s, xa_xsa_n, xj_xsa, xr_xsa, xsa_xsa, xi_xsj, xl_xsj, xa_xsj, xj_xsj_s, xj_xsj_n, xr_xsj, xsj_xsj, xi_xsr, xl_xsr, xa_xsr, xj_xsr, xr_xsr_s, xr_xsr_n, xsr_xsr, xk_0, xg_0_0, xg_0_1, xg_0_2, xp_0_2, xg_0_3, xg_0_4, xg_0_5, xg_0_6, xk_1, xg_1_0, xg_1_1, xp_1_1, xg_1_2, xg_1_3, xp_1_3, xg_1_4, xg_1_5, xg_1_6, xg_1_7, xg_1_8, xg_1_9, xg_1_10, xg_1_11, xp_1_11, xg_1_12, xg_1_13, xg_1_14, xg_1_15, xp_1_15, xg_1_16, xp_1_16, xg_1_17, xp_1_17, xk_26, xg_26_0, xg_26_1, xp_26_1, xg_26_2, xg_26_3, xp_26_3, xg_26_4, xg_26_5, xg_26_6, xg_26_7, xg_26_8, xg_26_9, xg_26_10, xg_26_11, xp_26_11, xg_26_12, xg_26_13, xg_26_14, xg_26_15, xp_26_15, xg_26_16, xp_26_16, xg_26_17, xp_26_17, xk_51, xg_51_0, xg_51_1, xg_51_2, xg_51_3, xg_51_4, xg_51_5, xg_51_6, xg_51_7, xp_51_7, xg_51_8, xp_51_8, xk_90, xg_90_0, xg_90_1, xg_90_2, xg_90_3, xp_90_3, xg_90_4, xg_90_5, xp_90_5, xg_90_6, xg_90_7, xp_90_7, xg_90_8, xp_90_8, xg_90_9, xp_90_9, xg_90_10, xas_2, xal_2, xal_3, xas_4, xal_4, xln_4, xas_5, xal_5, xln_5, xas_6, xal_6, xln_6, xas_7, xal_7, xln_7, xas_8, xal_8, xln_8, xas_9, xal_9, xln_9, xas0_10, xas1_10, xasb_10, xal_10, xal_11, xas_12, xal_12, xln_12, xas_27, xal_27, xal_28, xas_29, xal_29, xln_29, xas_30, xal_30, xln_30, xas_31, xal_31, xln_31, xas_32, xal_32, xln_32, xas_33, xal_33, xln_33, xas_34, xal_34, xln_34, xas0_35, xas1_35, xasb_35, xal_35, xal_36, xas_37, xal_37, xln_37, xas_88, xal_88, xln_88, xal_89, xas_89, xln_89, xas_103, xal_103, xln_103, xas_104, xal_104, xln_104, xas_105, xal_105, xln_105, xas_106, xal_106, xln_106, xas_107, xal_107, xln_107, xal_13, xal_in14, xas_in14, xln_in14, xal_38, xal_in39, xas_in39, xln_in39, xal_52, xal_in53, xas_in53, xln_in53, xal_61, xal_in62, xas_in62, xln_in62, xal_70, xal_in71, xas_in71, xln_in71, xal_79, xal_in80, xas_in80, xln_in80, xal_91, xal_in92, xas_in92, xln_in92, cl_some, nm_b, nn_some, qn_some, qn_none, zk_0, zk_1, zk_n0, zk_n1, nI_add, pk_mul, pk_sub, nI_leE, nI_ltE, nI_eqE, nI_lt0, nI_ge0, nI_eq0, nI_gt0, nI_le0, ilt_t, ilt_f, ile_t, ile_f, ieq_t, ieq_f, if_tt, if_ff, Nat.add_sub_cancel]
  rw [if_neg w0, if_neg w0]
theorem kCl_mem {k : Nat} (h : k ≤ 6) : kCl k ∈ [1, 2, 3, 4, 6, 8, 10] := by
  rcases (show k = 0 ∨ k = 1 ∨ k = 2 ∨ k = 3 ∨ k = 4 ∨ k = 5 ∨ k = 6 by omega) with rfl | rfl | rfl | rfl | rfl | rfl | rfl <;> decide
set_option maxRecDepth 100000 in
set_option maxHeartbeats 1000000 in
theorem x_isOfKind {p q0 k v u : Nat} (hP : XP G X h0 c (ma S 1) nt p q0 k v) (hu : u ≤ 6) : F_X11_isOfKind G (encX G X c h0) nx q0 (nI u) = some (unF (nI k) (nI u), encX G X c h0, nx) := by
  have hq := hP.2.1 c
  have k6 := hP.2.2.1
  have ein : ∀ {β : Type} (ys : List Nat) {f : Int32 → Option β}, inC (encX G X c h0) q0 [1, 2, 3, 4, 6, 8, 10] ys f = f (if kCl k ∈ ys then 1 else 0) := by
    intro β ys f
    unfold inC
    rw [hq]
    exact if_pos (kCl_mem k6)
  unfold F_X11_isOfKind
  rcases (show u = 0 ∨ u = 1 ∨ u = 2 ∨ u = 3 ∨ u = 4 ∨ u = 5 ∨ u = 6 by omega) with rfl | rfl | rfl | rfl | rfl | rfl | rfl <;>
  (simp (disch := omega) only [ein, nI_eqE]
   rcases (show k = 0 ∨ k = 1 ∨ k = 2 ∨ k = 3 ∨ k = 4 ∨ k = 5 ∨ k = 6 by omega) with rfl | rfl | rfl | rfl | rfl | rfl | rfl <;> rfl)
set_option maxRecDepth 100000 in
set_option maxHeartbeats 1000000 in
theorem x_as (hC : XC G X lo h0 c (ma S 1) ns nt np lk td q) (p u : Int32) : F_X11_as G (encX G X c h0) nx X p u = some (asF S p u, encX G X c h0, nx) := by
  obtain ⟨h5, h12⟩ := x_npC hC
  have h2 : ma S 1 2 = nI np := hC.2.2.2.2.2.2.1
  have ep : F_X0_planAt G (encX G X c h0) nx (X + 1) p = _ := x_planAt h5 h12
  unfold F_X11_as F_X11_as_23 F_X11_as_42 asF
  rw [h2]
  simp (maxSteps := 3000000) (disch := omega) only [ep, xi_xsi_s, xi_xsi_n, xl_xsi, xa_xsi, xj_xsi, xr_xsi, xsi_xsi, xi_xsl, xl_xsl_s, xl_xsl_n, xa_xsl, xj_xsl, xr_xsl, xsl_xsl, xi_xsa, xl_xsa, xa_xsa_s, xa_xsa_n, xj_xsa, xr_xsa, xsa_xsa, xi_xsj, xl_xsj, xa_xsj, xj_xsj_s, xj_xsj_n, xr_xsj, xsj_xsj, xi_xsr, xl_xsr, xa_xsr, xj_xsr, xr_xsr_s, xr_xsr_n, xsr_xsr, xk_0, xg_0_0, xg_0_1, xg_0_2, xp_0_2, xg_0_3, xg_0_4, xg_0_5, xg_0_6, xk_1, xg_1_0, xg_1_1, xp_1_1, xg_1_2, xg_1_3, xp_1_3, xg_1_4, xg_1_5, xg_1_6, xg_1_7, xg_1_8, xg_1_9, xg_1_10, xg_1_11, xp_1_11, xg_1_12, xg_1_13, xg_1_14, xg_1_15, xp_1_15, xg_1_16, xp_1_16, xg_1_17, xp_1_17, xk_26, xg_26_0, xg_26_1, xp_26_1, xg_26_2, xg_26_3, xp_26_3, xg_26_4, xg_26_5, xg_26_6, xg_26_7, xg_26_8, xg_26_9, xg_26_10, xg_26_11, xp_26_11, xg_26_12, xg_26_13, xg_26_14, xg_26_15, xp_26_15, xg_26_16, xp_26_16, xg_26_17, xp_26_17, xk_51, xg_51_0, xg_51_1, xg_51_2, xg_51_3, xg_51_4, xg_51_5, xg_51_6, xg_51_7, xp_51_7, xg_51_8, xp_51_8, xk_90, xg_90_0, xg_90_1, xg_90_2, xg_90_3, xp_90_3, xg_90_4, xg_90_5, xp_90_5, xg_90_6, xg_90_7, xp_90_7, xg_90_8, xp_90_8, xg_90_9, xp_90_9, xg_90_10, xas_2, xal_2, xal_3, xas_4, xal_4, xln_4, xas_5, xal_5, xln_5, xas_6, xal_6, xln_6, xas_7, xal_7, xln_7, xas_8, xal_8, xln_8, xas_9, xal_9, xln_9, xas0_10, xas1_10, xasb_10, xal_10, xal_11, xas_12, xal_12, xln_12, xas_27, xal_27, xal_28, xas_29, xal_29, xln_29, xas_30, xal_30, xln_30, xas_31, xal_31, xln_31, xas_32, xal_32, xln_32, xas_33, xal_33, xln_33, xas_34, xal_34, xln_34, xas0_35, xas1_35, xasb_35, xal_35, xal_36, xas_37, xal_37, xln_37, xas_88, xal_88, xln_88, xal_89, xas_89, xln_89, xas_103, xal_103, xln_103, xas_104, xal_104, xln_104, xas_105, xal_105, xln_105, xas_106, xal_106, xln_106, xas_107, xal_107, xln_107, xal_13, xal_in14, xas_in14, xln_in14, xal_38, xal_in39, xas_in39, xln_in39, xal_52, xal_in53, xas_in53, xln_in53, xal_61, xal_in62, xas_in62, xln_in62, xal_70, xal_in71, xas_in71, xln_in71, xal_79, xal_in80, xas_in80, xln_in80, xal_91, xal_in92, xas_in92, xln_in92, cl_some, nm_b, nn_some, qn_some, qn_none, zk_0, zk_1, zk_n0, zk_n1, nI_add, pk_mul, pk_sub, nI_leE, nI_ltE, nI_eqE, nI_lt0, nI_ge0, nI_eq0, nI_gt0, nI_le0, ilt_t, ilt_f, ile_t, ile_f, ieq_t, ieq_f, if_tt, if_ff, Nat.add_sub_cancel]
  by_cases c1 : bIn p (nI 0) (nI np - nI 1) = 0
  · rw [if_pos c1, if_pos c1]
    rfl
  · rw [if_neg c1, if_neg c1]
    obtain ⟨p, hp, rfl⟩ := bIn_nI (by omega) c1
    obtain ⟨q0, k, v, hP⟩ := hC.pl hp
    rw [nI_clamp (by omega), hP.1]
    simp (maxSteps := 3000000) (disch := omega) only [x_within, xi_xsi_s, xi_xsi_n, xl_xsi, xa_xsi, xj_xsi, xr_xsi, xsi_xsi, xi_xsl, xl_xsl_s, xl_xsl_n, xa_xsl, xj_xsl, xr_xsl, xsl_xsl, xi_xsa, xl_xsa, xa_xsa_s, xa_xsa_n, xj_xsa, xr_xsa, xsa_xsa, xi_xsj, xl_xsj, xa_xsj, xj_xsj_s, xj_xsj_n, xr_xsj, xsj_xsj, xi_xsr, xl_xsr, xa_xsr, xj_xsr, xr_xsr_s, xr_xsr_n, xsr_xsr, xk_0, xg_0_0, xg_0_1, xg_0_2, xp_0_2, xg_0_3, xg_0_4, xg_0_5, xg_0_6, xk_1, xg_1_0, xg_1_1, xp_1_1, xg_1_2, xg_1_3, xp_1_3, xg_1_4, xg_1_5, xg_1_6, xg_1_7, xg_1_8, xg_1_9, xg_1_10, xg_1_11, xp_1_11, xg_1_12, xg_1_13, xg_1_14, xg_1_15, xp_1_15, xg_1_16, xp_1_16, xg_1_17, xp_1_17, xk_26, xg_26_0, xg_26_1, xp_26_1, xg_26_2, xg_26_3, xp_26_3, xg_26_4, xg_26_5, xg_26_6, xg_26_7, xg_26_8, xg_26_9, xg_26_10, xg_26_11, xp_26_11, xg_26_12, xg_26_13, xg_26_14, xg_26_15, xp_26_15, xg_26_16, xp_26_16, xg_26_17, xp_26_17, xk_51, xg_51_0, xg_51_1, xg_51_2, xg_51_3, xg_51_4, xg_51_5, xg_51_6, xg_51_7, xp_51_7, xg_51_8, xp_51_8, xk_90, xg_90_0, xg_90_1, xg_90_2, xg_90_3, xp_90_3, xg_90_4, xg_90_5, xp_90_5, xg_90_6, xg_90_7, xp_90_7, xg_90_8, xp_90_8, xg_90_9, xp_90_9, xg_90_10, xas_2, xal_2, xal_3, xas_4, xal_4, xln_4, xas_5, xal_5, xln_5, xas_6, xal_6, xln_6, xas_7, xal_7, xln_7, xas_8, xal_8, xln_8, xas_9, xal_9, xln_9, xas0_10, xas1_10, xasb_10, xal_10, xal_11, xas_12, xal_12, xln_12, xas_27, xal_27, xal_28, xas_29, xal_29, xln_29, xas_30, xal_30, xln_30, xas_31, xal_31, xln_31, xas_32, xal_32, xln_32, xas_33, xal_33, xln_33, xas_34, xal_34, xln_34, xas0_35, xas1_35, xasb_35, xal_35, xal_36, xas_37, xal_37, xln_37, xas_88, xal_88, xln_88, xal_89, xas_89, xln_89, xas_103, xal_103, xln_103, xas_104, xal_104, xln_104, xas_105, xal_105, xln_105, xas_106, xal_106, xln_106, xas_107, xal_107, xln_107, xal_13, xal_in14, xas_in14, xln_in14, xal_38, xal_in39, xas_in39, xln_in39, xal_52, xal_in53, xas_in53, xln_in53, xal_61, xal_in62, xas_in62, xln_in62, xal_70, xal_in71, xas_in71, xln_in71, xal_79, xal_in80, xas_in80, xln_in80, xal_91, xal_in92, xas_in92, xln_in92, cl_some, nm_b, nn_some, qn_some, qn_none, zk_0, zk_1, zk_n0, zk_n1, nI_add, pk_mul, pk_sub, nI_leE, nI_ltE, nI_eqE, nI_lt0, nI_ge0, nI_eq0, nI_gt0, nI_le0, ilt_t, ilt_f, ile_t, ile_f, ieq_t, ieq_f, if_tt, if_ff, Nat.add_sub_cancel]
    by_cases c2 : bIn u (nI 0) (nI 6) = 0
    · rw [if_pos c2, if_pos c2]
    · rw [if_neg c2, if_neg c2]
      obtain ⟨u, hu0, hu, rfl⟩ := bIn_lh (by omega) (by omega) c2
      have ek := x_isOfKind (nx := nx) hP hu
      have e70 : ma S 1 (1070 + p) = nI k := hP.2.2.2.2.2.2.1
      have e82 : ma S 1 (1082 + p) = nI v := hP.2.2.2.2.2.2.2.1
      have g1 : ∀ {β : Type} {f : Int32 → Option β}, gfI (encX G X c h0) q0 [1, 2, 3, 4, 6, 8, 10] 1 f = f (nI v) := gfI_at (hP.2.1 c) (kCl_mem hP.2.2.1) rfl
      rw [e70, e82]
      simp (maxSteps := 3000000) (disch := omega) only [ek, g1, xi_xsi_s, xi_xsi_n, xl_xsi, xa_xsi, xj_xsi, xr_xsi, xsi_xsi, xi_xsl, xl_xsl_s, xl_xsl_n, xa_xsl, xj_xsl, xr_xsl, xsl_xsl, xi_xsa, xl_xsa, xa_xsa_s, xa_xsa_n, xj_xsa, xr_xsa, xsa_xsa, xi_xsj, xl_xsj, xa_xsj, xj_xsj_s, xj_xsj_n, xr_xsj, xsj_xsj, xi_xsr, xl_xsr, xa_xsr, xj_xsr, xr_xsr_s, xr_xsr_n, xsr_xsr, xk_0, xg_0_0, xg_0_1, xg_0_2, xp_0_2, xg_0_3, xg_0_4, xg_0_5, xg_0_6, xk_1, xg_1_0, xg_1_1, xp_1_1, xg_1_2, xg_1_3, xp_1_3, xg_1_4, xg_1_5, xg_1_6, xg_1_7, xg_1_8, xg_1_9, xg_1_10, xg_1_11, xp_1_11, xg_1_12, xg_1_13, xg_1_14, xg_1_15, xp_1_15, xg_1_16, xp_1_16, xg_1_17, xp_1_17, xk_26, xg_26_0, xg_26_1, xp_26_1, xg_26_2, xg_26_3, xp_26_3, xg_26_4, xg_26_5, xg_26_6, xg_26_7, xg_26_8, xg_26_9, xg_26_10, xg_26_11, xp_26_11, xg_26_12, xg_26_13, xg_26_14, xg_26_15, xp_26_15, xg_26_16, xp_26_16, xg_26_17, xp_26_17, xk_51, xg_51_0, xg_51_1, xg_51_2, xg_51_3, xg_51_4, xg_51_5, xg_51_6, xg_51_7, xp_51_7, xg_51_8, xp_51_8, xk_90, xg_90_0, xg_90_1, xg_90_2, xg_90_3, xp_90_3, xg_90_4, xg_90_5, xp_90_5, xg_90_6, xg_90_7, xp_90_7, xg_90_8, xp_90_8, xg_90_9, xp_90_9, xg_90_10, xas_2, xal_2, xal_3, xas_4, xal_4, xln_4, xas_5, xal_5, xln_5, xas_6, xal_6, xln_6, xas_7, xal_7, xln_7, xas_8, xal_8, xln_8, xas_9, xal_9, xln_9, xas0_10, xas1_10, xasb_10, xal_10, xal_11, xas_12, xal_12, xln_12, xas_27, xal_27, xal_28, xas_29, xal_29, xln_29, xas_30, xal_30, xln_30, xas_31, xal_31, xln_31, xas_32, xal_32, xln_32, xas_33, xal_33, xln_33, xas_34, xal_34, xln_34, xas0_35, xas1_35, xasb_35, xal_35, xal_36, xas_37, xal_37, xln_37, xas_88, xal_88, xln_88, xal_89, xas_89, xln_89, xas_103, xal_103, xln_103, xas_104, xal_104, xln_104, xas_105, xal_105, xln_105, xas_106, xal_106, xln_106, xas_107, xal_107, xln_107, xal_13, xal_in14, xas_in14, xln_in14, xal_38, xal_in39, xas_in39, xln_in39, xal_52, xal_in53, xas_in53, xln_in53, xal_61, xal_in62, xas_in62, xln_in62, xal_70, xal_in71, xas_in71, xln_in71, xal_79, xal_in80, xas_in80, xln_in80, xal_91, xal_in92, xas_in92, xln_in92, cl_some, nm_b, nn_some, qn_some, qn_none, zk_0, zk_1, zk_n0, zk_n1, nI_add, pk_mul, pk_sub, nI_leE, nI_ltE, nI_eqE, nI_lt0, nI_ge0, nI_eq0, nI_gt0, nI_le0, ilt_t, ilt_f, ile_t, ile_f, ieq_t, ieq_f, if_tt, if_ff, Nat.add_sub_cancel]
      by_cases c3 : unF (nI k) (nI u) = 0
      · rw [if_pos c3, if_pos c3]
      · rw [if_neg c3, if_neg c3]
/-! acts -/
/-- the bodies that ran: how many, then the first -/
def wB : (Nat → Int32) → Nat → List Int32 → Nat → Int32
  | w, _, [] => w
  | w, r, x :: l => wB (upK (upK w 0 (nI (r + 1))) (r + 1) x) (r + 1) l
theorem wB_app : ∀ (l1 l2 : List Int32) (w : Nat → Int32) (r : Nat), wB w r (l1 ++ l2) = wB (wB w r l1) (r + l1.length) l2
  | [], _, _, _ => rfl
  | x :: l1, l2, w, r => by
    show wB _ (r + 1) (l1 ++ l2) = _
    rw [wB_app l1 l2]
    show _ = wB (wB _ (r + 1) l1) (r + (l1.length + 1)) l2
    rw [show r + 1 + l1.length = r + (l1.length + 1) by omega]
theorem wB_0 : ∀ (l : List Int32) (w : Nat → Int32) (r : Nat), w 0 = nI r → wB w r l 0 = nI (r + l.length)
  | [], _, _, h => h
  | x :: l, w, r, _ => by
    show wB _ (r + 1) l 0 = _
    rw [wB_0 l _ (r + 1) (by rw [upK_n (by omega), upK_s])]
    show nI (r + 1 + l.length) = nI (r + (l.length + 1))
    rw [show r + 1 + l.length = r + (l.length + 1) by omega]
/-- alike with the reference's bodies -/
def BdR (w : Nat → Int32) (S : MS) (r : Nat) : Prop := mi S 30 = nI r ∧ w 0 = nI r ∧ ∀ j, j < r → w (1 + j) = ma S 29 j
theorem BdR.wr : ∀ (l : List Int32) {w : Nat → Int32} {S : MS} {r : Nat}, BdR w S r → BdR (wB w r l) (wrB S r l) (r + l.length)
  | [], _, _, _, h => h
  | x :: l, w, S, r, ⟨h1, h2, h3⟩ => by
    have := BdR.wr l (w := upK (upK w 0 (nI (r + 1))) (r + 1) x) (S := msi (msa S 29 (upK (ma S 29) r x)) 30 (nI (r + 1))) (r := r + 1) ⟨mi_msi_s, by rw [upK_n (by omega), upK_s], fun j hj => by
      show _ = ma (msa S 29 _) 29 j
      rw [ma_msa_s]
      by_cases e : j = r
      · subst e
        rw [show 1 + j = j + 1 by omega, upK_s, upK_s]
      · rw [upK_n (by omega), upK_n (by omega), upK_n e]
        exact h3 j (by omega)⟩
    rw [show r + 1 + l.length = r + (x :: l).length by simp only [List.length_cons]; omega] at this
    exact this
noncomputable def mnF (G : Gx) (k : Nat) : Hp → Nat → Nat → Int32 → Nat → Rz Int32 := if k = 1 then F_X4_means G else if k = 6 then F_X8_means G else F_X6_means G
noncomputable def rsF (G : Gx) (k : Nat) : Hp → Nat → Nat → Int32 → Nat → Rz Int32 := if k = 5 then F_X2_rows G else if k = 2 ∨ k = 4 then F_X10_rows G else F_X6_rows G
noncomputable def esF (G : Gx) (k : Nat) : Hp → Nat → Nat → Int32 → Nat → Rz Int32 := if k = 4 then F_X1_ends G else if k = 3 ∨ k = 5 then F_X3_ends G else F_X6_ends G
/-- a plan's object -/
def PO1 (G : Gx) (X : Nat) (h0 : Hp) (q0 k p v : Nat) : Prop := ∀ c' : CS, encX G X c' h0 q0 = some (ob (kCl k) [.int (nI p), .int (nI v)])
theorem x_began {w : Nat → Int32} {r : Nat} {x : Int32} (hw : w 0 = nI r) (hr : r < 20) : F_X6_began G (encX G X (xsa c 107 w) h0) nx (X + 107) x = some ((), encX G X (xsa c 107 (wB w r [x])) h0, nx) := by
  unfold F_X6_began F_X6_began_21
  have e0 : upK w 0 (nI (r + 1)) 0 = nI (r + 1) := upK_s
  simp (maxSteps := 3000000) (disch := omega) only [hw, e0, xi_xsi_s, xi_xsi_n, xl_xsi, xa_xsi, xj_xsi, xr_xsi, xsi_xsi, xi_xsl, xl_xsl_s, xl_xsl_n, xa_xsl, xj_xsl, xr_xsl, xsl_xsl, xi_xsa, xl_xsa, xa_xsa_s, xa_xsa_n, xj_xsa, xr_xsa, xsa_xsa, xi_xsj, xl_xsj, xa_xsj, xj_xsj_s, xj_xsj_n, xr_xsj, xsj_xsj, xi_xsr, xl_xsr, xa_xsr, xj_xsr, xr_xsr_s, xr_xsr_n, xsr_xsr, xk_0, xg_0_0, xg_0_1, xg_0_2, xp_0_2, xg_0_3, xg_0_4, xg_0_5, xg_0_6, xk_1, xg_1_0, xg_1_1, xp_1_1, xg_1_2, xg_1_3, xp_1_3, xg_1_4, xg_1_5, xg_1_6, xg_1_7, xg_1_8, xg_1_9, xg_1_10, xg_1_11, xp_1_11, xg_1_12, xg_1_13, xg_1_14, xg_1_15, xp_1_15, xg_1_16, xp_1_16, xg_1_17, xp_1_17, xk_26, xg_26_0, xg_26_1, xp_26_1, xg_26_2, xg_26_3, xp_26_3, xg_26_4, xg_26_5, xg_26_6, xg_26_7, xg_26_8, xg_26_9, xg_26_10, xg_26_11, xp_26_11, xg_26_12, xg_26_13, xg_26_14, xg_26_15, xp_26_15, xg_26_16, xp_26_16, xg_26_17, xp_26_17, xk_51, xg_51_0, xg_51_1, xg_51_2, xg_51_3, xg_51_4, xg_51_5, xg_51_6, xg_51_7, xp_51_7, xg_51_8, xp_51_8, xk_90, xg_90_0, xg_90_1, xg_90_2, xg_90_3, xp_90_3, xg_90_4, xg_90_5, xp_90_5, xg_90_6, xg_90_7, xp_90_7, xg_90_8, xp_90_8, xg_90_9, xp_90_9, xg_90_10, xas_2, xal_2, xal_3, xas_4, xal_4, xln_4, xas_5, xal_5, xln_5, xas_6, xal_6, xln_6, xas_7, xal_7, xln_7, xas_8, xal_8, xln_8, xas_9, xal_9, xln_9, xas0_10, xas1_10, xasb_10, xal_10, xal_11, xas_12, xal_12, xln_12, xas_27, xal_27, xal_28, xas_29, xal_29, xln_29, xas_30, xal_30, xln_30, xas_31, xal_31, xln_31, xas_32, xal_32, xln_32, xas_33, xal_33, xln_33, xas_34, xal_34, xln_34, xas0_35, xas1_35, xasb_35, xal_35, xal_36, xas_37, xal_37, xln_37, xas_88, xal_88, xln_88, xal_89, xas_89, xln_89, xas_103, xal_103, xln_103, xas_104, xal_104, xln_104, xas_105, xal_105, xln_105, xas_106, xal_106, xln_106, xas_107, xal_107, xln_107, xal_13, xal_in14, xas_in14, xln_in14, xal_38, xal_in39, xas_in39, xln_in39, xal_52, xal_in53, xas_in53, xln_in53, xal_61, xal_in62, xas_in62, xln_in62, xal_70, xal_in71, xas_in71, xln_in71, xal_79, xal_in80, xas_in80, xln_in80, xal_91, xal_in92, xas_in92, xln_in92, cl_some, nm_b, nn_some, qn_some, qn_none, zk_0, zk_1, zk_n0, zk_n1, nI_add, pk_mul, pk_sub, nI_leE, nI_ltE, nI_eqE, nI_lt0, nI_ge0, nI_eq0, nI_gt0, nI_le0, ilt_t, ilt_f, ile_t, ile_f, ieq_t, ieq_f, if_tt, if_ff, Nat.add_sub_cancel]
  rfl
theorem x_means6 {q0 k p v r : Nat} (hq : PO1 G X h0 q0 k p v) (k6 : k ≤ 6) {w : Nat → Int32} {x : Int32} (hw : w 0 = nI r) (hr : r < 20) : F_X6_means G (encX G X (xsa c 107 w) h0) nx q0 x (X + 107) = some (x + nI p, encX G X (xsa c 107 (wB w r [nI 1])) h0, nx) := by
  have eb := x_began (G := G) (X := X) (nx := nx) (h0 := h0) (c := c) (x := nI 1) hw hr
  have g0 : ∀ {β : Type} {f : Int32 → Option β}, gfI (encX G X (xsa c 107 (wB w r [nI 1])) h0) q0 [1, 2, 3, 4, 6, 8, 10] 0 f = f (nI p) := gfI_at (hq _) (kCl_mem k6) rfl
  unfold F_X6_means
  rw [eb, cl_some, g0]
theorem wB_1 {w : Nat → Int32} {r : Nat} {x : Int32} (hw : w 0 = nI r) : wB w r [x] 0 = nI (r + 1) := wB_0 [x] w r hw
theorem x_meansK {q0 k p v r : Nat} (hq : PO1 G X h0 q0 k p v) (k6 : k ≤ 6) {w : Nat → Int32} {x : Int32} (hw : w 0 = nI r) (hr : r < 19) : mnF G k (encX G X (xsa c 107 w) h0) nx q0 x (X + 107) = some (meA (nI k) (nI p) (nI v) x, encX G X (xsa c 107 (wB w r (meL (nI k)))) h0, nx) := by
  unfold mnF meA meL
  by_cases c1 : k = 1
  · have h1 : nI k = nI 1 := by rw [c1]
    rw [if_pos c1, if_pos h1, if_pos h1]
    have eb := x_began (G := G) (X := X) (nx := nx) (h0 := h0) (c := c) (x := nI 11) hw (by omega)
    have em := x_means6 (nx := nx) (c := c) (x := x * nI 3) hq k6 (wB_1 (x := nI 11) hw) (by omega)
    have hck : ∀ {β : Type} {f : Nat → Option β}, ck (encX G X (xsa c 107 (wB w r [nI 11])) h0) q0 [4] f = f (kCl k) := ck_at (hq _) (by rw [c1]; decide)
    unfold F_X4_means
    rw [eb, cl_some, hck, em, cl_some]
    rfl
  · have h1 : ¬ nI k = nI 1 := fun z => c1 ((nI_eq (by omega) (by omega)).mp z)
    rw [if_neg c1, if_neg h1, if_neg h1]
    by_cases c2 : k = 6
    · have h2 : nI k = nI 6 := by rw [c2]
      rw [if_pos c2, if_pos h2, if_pos h2]
      have eb := x_began (G := G) (X := X) (nx := nx) (h0 := h0) (c := c) (x := nI 61) hw (by omega)
      have em := x_means6 (nx := nx) (c := c) (x := x) hq k6 (wB_1 (x := nI 61) hw) (by omega)
      have hck : ∀ {β : Type} {f : Nat → Option β}, ck (encX G X (xsa c 107 (wB w r [nI 61])) h0) q0 [8] f = f (kCl k) := ck_at (hq _) (by rw [c2]; decide)
      have g1 : ∀ (c2 : CS) {β : Type} {f : Int32 → Option β}, gfI (encX G X c2 h0) q0 [8] 1 f = f (nI v) := fun c3 {β f} => gfI_at (hq _) (by rw [c2]; decide) rfl
      unfold F_X8_means
      rw [eb, cl_some, hck, em, cl_some, g1]
      rfl
    · have h2 : ¬ nI k = nI 6 := fun z => c2 ((nI_eq (by omega) (by omega)).mp z)
      rw [if_neg c2, if_neg h2, if_neg h2]
      exact x_means6 hq k6 hw (by omega)
set_option maxRecDepth 100000 in
set_option maxHeartbeats 1000000 in
theorem x_rows6 {q0 k p v r : Nat} (hq : PO1 G X h0 q0 k p v) (k6 : k ≤ 6) {w : Nat → Int32} {x : Int32} (hw : w 0 = nI r) (hr : r < 18) : F_X6_rows G (encX G X (xsa c 107 w) h0) nx q0 x (X + 107) = some (meA (nI k) (nI p) (nI v) x - nI v, encX G X (xsa c 107 (wB w r (nI 2 :: meL (nI k)))) h0, nx) := by
  have eb := x_began (G := G) (X := X) (nx := nx) (h0 := h0) (c := c) (x := nI 2) hw (by omega)
  have e := x_meansK (nx := nx) (c := c) (x := x) hq k6 (wB_1 (x := nI 2) hw) (by omega)
  have g1 : ∀ (c2 : CS) {β : Type} {f : Int32 → Option β}, gfI (encX G X c2 h0) q0 [1, 2, 3, 4, 6, 8, 10] 1 f = f (nI v) := fun c3 {β f} => gfI_at (hq _) (kCl_mem k6) rfl
  have ew : wB w r (nI 2 :: meL (nI k)) = wB (wB w r [nI 2]) (r + 1) (meL (nI k)) := rfl
  rw [ew]
  unfold F_X6_rows
  rw [eb, cl_some]
  rcases (show k = 0 ∨ k = 1 ∨ k = 2 ∨ k = 3 ∨ k = 4 ∨ k = 5 ∨ k = 6 by omega) with rfl | rfl | rfl | rfl | rfl | rfl | rfl
  · have hck : ∀ {β : Type} {f : Nat → Option β}, ck (encX G X (xsa c 107 (wB w r [nI 2])) h0) q0 [1, 2, 3, 4, 6, 8, 10] f = f 6 := ck_at (hq (xsa c 107 (wB w r [nI 2]))) (by decide)
    have e : F_X6_means G (encX G X (xsa c 107 (wB w r [nI 2])) h0) nx q0 x (X + 107) = _ := e
    rw [hck]
    show cl (F_X6_means G _ _ _ _ _) _ = _
    rw [e, cl_some, g1]
  · have hck : ∀ {β : Type} {f : Nat → Option β}, ck (encX G X (xsa c 107 (wB w r [nI 2])) h0) q0 [1, 2, 3, 4, 6, 8, 10] f = f 4 := ck_at (hq (xsa c 107 (wB w r [nI 2]))) (by decide)
    have e : F_X4_means G (encX G X (xsa c 107 (wB w r [nI 2])) h0) nx q0 x (X + 107) = _ := e
    rw [hck]
    show cl (F_X4_means G _ _ _ _ _) _ = _
    rw [e, cl_some, g1]
  · have hck : ∀ {β : Type} {f : Nat → Option β}, ck (encX G X (xsa c 107 (wB w r [nI 2])) h0) q0 [1, 2, 3, 4, 6, 8, 10] f = f 10 := ck_at (hq (xsa c 107 (wB w r [nI 2]))) (by decide)
    have e : F_X6_means G (encX G X (xsa c 107 (wB w r [nI 2])) h0) nx q0 x (X + 107) = _ := e
    rw [hck]
    show cl (F_X6_means G _ _ _ _ _) _ = _
    rw [e, cl_some, g1]
  · have hck : ∀ {β : Type} {f : Nat → Option β}, ck (encX G X (xsa c 107 (wB w r [nI 2])) h0) q0 [1, 2, 3, 4, 6, 8, 10] f = f 3 := ck_at (hq (xsa c 107 (wB w r [nI 2]))) (by decide)
    have e : F_X6_means G (encX G X (xsa c 107 (wB w r [nI 2])) h0) nx q0 x (X + 107) = _ := e
    rw [hck]
    show cl (F_X6_means G _ _ _ _ _) _ = _
    rw [e, cl_some, g1]
  · have hck : ∀ {β : Type} {f : Nat → Option β}, ck (encX G X (xsa c 107 (wB w r [nI 2])) h0) q0 [1, 2, 3, 4, 6, 8, 10] f = f 1 := ck_at (hq (xsa c 107 (wB w r [nI 2]))) (by decide)
    have e : F_X6_means G (encX G X (xsa c 107 (wB w r [nI 2])) h0) nx q0 x (X + 107) = _ := e
    rw [hck]
    show cl (F_X6_means G _ _ _ _ _) _ = _
    rw [e, cl_some, g1]
  · have hck : ∀ {β : Type} {f : Nat → Option β}, ck (encX G X (xsa c 107 (wB w r [nI 2])) h0) q0 [1, 2, 3, 4, 6, 8, 10] f = f 2 := ck_at (hq (xsa c 107 (wB w r [nI 2]))) (by decide)
    have e : F_X6_means G (encX G X (xsa c 107 (wB w r [nI 2])) h0) nx q0 x (X + 107) = _ := e
    rw [hck]
    show cl (F_X6_means G _ _ _ _ _) _ = _
    rw [e, cl_some, g1]
  · have hck : ∀ {β : Type} {f : Nat → Option β}, ck (encX G X (xsa c 107 (wB w r [nI 2])) h0) q0 [1, 2, 3, 4, 6, 8, 10] f = f 8 := ck_at (hq (xsa c 107 (wB w r [nI 2]))) (by decide)
    have e : F_X8_means G (encX G X (xsa c 107 (wB w r [nI 2])) h0) nx q0 x (X + 107) = _ := e
    rw [hck]
    show cl (F_X8_means G _ _ _ _ _) _ = _
    rw [e, cl_some, g1]
set_option maxRecDepth 100000 in
set_option maxHeartbeats 1000000 in
theorem x_rowsK {q0 k p v r : Nat} (hq : PO1 G X h0 q0 k p v) (k6 : k ≤ 6) {w : Nat → Int32} {x : Int32} (hw : w 0 = nI r) (hr : r < 17) : rsF G k (encX G X (xsa c 107 w) h0) nx q0 x (X + 107) = some (roA (nI k) (nI p) (nI v) x, encX G X (xsa c 107 (wB w r (roL (nI k)))) h0, nx) := by
  unfold rsF roA roL
  by_cases c1 : k = 5
  · have h1 : nI k = nI 5 := by rw [c1]
    rw [if_pos c1, if_pos h1, if_pos h1]
    have eb := x_began (G := G) (X := X) (nx := nx) (h0 := h0) (c := c) (x := nI 51) hw (by omega)
    have em := x_rows6 (nx := nx) (c := c) (x := x) hq k6 (wB_1 (x := nI 51) hw) (by omega)
    have hck : ∀ {β : Type} {f : Nat → Option β}, ck (encX G X (xsa c 107 (wB w r [nI 51])) h0) q0 [2] f = f (kCl k) := ck_at (hq _) (by rw [c1]; decide)
    have g0 : ∀ (c2 : CS) {β : Type} {f : Int32 → Option β}, gfI (encX G X c2 h0) q0 [2] 0 f = f (nI p) := fun c3 {β f} => gfI_at (hq _) (by rw [c1]; decide) rfl
    unfold F_X2_rows
    rw [eb, cl_some, hck, em, cl_some, g0]
    rfl
  · have h1 : ¬ nI k = nI 5 := fun z => c1 ((nI_eq (by omega) (by omega)).mp z)
    rw [if_neg c1, if_neg h1, if_neg h1]
    by_cases c2 : k = 2 ∨ k = 4
    · have h2 : ¬ unF (nI k) (nI 2) = 0 := by
        rcases c2 with rfl | rfl <;> decide
      rw [if_pos c2, if_neg h2, if_neg h2]
      have eb := x_began (G := G) (X := X) (nx := nx) (h0 := h0) (c := c) (x := nI 21) hw (by omega)
      have em := x_rows6 (nx := nx) (c := c) (x := x) hq k6 (wB_1 (x := nI 21) hw) (by omega)
      have hck : ∀ {β : Type} {f : Nat → Option β}, ck (encX G X (xsa c 107 (wB w r [nI 21])) h0) q0 [1, 10] f = f (kCl k) := ck_at (hq _) (by rcases c2 with rfl | rfl <;> decide)
      unfold F_X10_rows
      rw [eb, cl_some, hck, em, cl_some]
      rfl
    · have h2 : unF (nI k) (nI 2) = 0 := by
        rcases (show k = 0 ∨ k = 1 ∨ k = 3 ∨ k = 6 by omega) with rfl | rfl | rfl | rfl <;> decide
      rw [if_neg c2, if_pos h2, if_pos h2]
      exact x_rows6 hq k6 hw (by omega)
set_option maxRecDepth 100000 in
set_option maxHeartbeats 1000000 in
theorem x_ends6 {q0 k p v r : Nat} (hq : PO1 G X h0 q0 k p v) (k6 : k ≤ 6) {w : Nat → Int32} {x : Int32} (hw : w 0 = nI r) (hr : r < 16) : F_X6_ends G (encX G X (xsa c 107 w) h0) nx q0 x (X + 107) = some (peA (nI k) (nI p) (nI v) x, encX G X (xsa c 107 (wB w r (peL (nI k)))) h0, nx) := by
  have eb := x_began (G := G) (X := X) (nx := nx) (h0 := h0) (c := c) (x := nI 3) hw (by omega)
  have e := x_rowsK (nx := nx) (c := c) (x := x) hq k6 (wB_1 (x := nI 3) hw) (by omega)
  have ew : wB w r (peL (nI k)) = wB (wB w r [nI 3]) (r + 1) (roL (nI k)) := rfl
  rw [ew]
  unfold F_X6_ends
  rw [eb, cl_some]
  rcases (show k = 0 ∨ k = 1 ∨ k = 2 ∨ k = 3 ∨ k = 4 ∨ k = 5 ∨ k = 6 by omega) with rfl | rfl | rfl | rfl | rfl | rfl | rfl
  · have hck : ∀ {β : Type} {f : Nat → Option β}, ck (encX G X (xsa c 107 (wB w r [nI 3])) h0) q0 [1, 2, 3, 4, 6, 8, 10] f = f 6 := ck_at (hq (xsa c 107 (wB w r [nI 3]))) (by decide)
    have e : F_X6_rows G (encX G X (xsa c 107 (wB w r [nI 3])) h0) nx q0 x (X + 107) = _ := e
    rw [hck]
    show cl (F_X6_rows G _ _ _ _ _) _ = _
    rw [e, cl_some]
    rfl
  · have hck : ∀ {β : Type} {f : Nat → Option β}, ck (encX G X (xsa c 107 (wB w r [nI 3])) h0) q0 [1, 2, 3, 4, 6, 8, 10] f = f 4 := ck_at (hq (xsa c 107 (wB w r [nI 3]))) (by decide)
    have e : F_X6_rows G (encX G X (xsa c 107 (wB w r [nI 3])) h0) nx q0 x (X + 107) = _ := e
    rw [hck]
    show cl (F_X6_rows G _ _ _ _ _) _ = _
    rw [e, cl_some]
    rfl
  · have hck : ∀ {β : Type} {f : Nat → Option β}, ck (encX G X (xsa c 107 (wB w r [nI 3])) h0) q0 [1, 2, 3, 4, 6, 8, 10] f = f 10 := ck_at (hq (xsa c 107 (wB w r [nI 3]))) (by decide)
    have e : F_X10_rows G (encX G X (xsa c 107 (wB w r [nI 3])) h0) nx q0 x (X + 107) = _ := e
    rw [hck]
    show cl (F_X10_rows G _ _ _ _ _) _ = _
    rw [e, cl_some]
    rfl
  · have hck : ∀ {β : Type} {f : Nat → Option β}, ck (encX G X (xsa c 107 (wB w r [nI 3])) h0) q0 [1, 2, 3, 4, 6, 8, 10] f = f 3 := ck_at (hq (xsa c 107 (wB w r [nI 3]))) (by decide)
    have e : F_X6_rows G (encX G X (xsa c 107 (wB w r [nI 3])) h0) nx q0 x (X + 107) = _ := e
    rw [hck]
    show cl (F_X6_rows G _ _ _ _ _) _ = _
    rw [e, cl_some]
    rfl
  · have hck : ∀ {β : Type} {f : Nat → Option β}, ck (encX G X (xsa c 107 (wB w r [nI 3])) h0) q0 [1, 2, 3, 4, 6, 8, 10] f = f 1 := ck_at (hq (xsa c 107 (wB w r [nI 3]))) (by decide)
    have e : F_X10_rows G (encX G X (xsa c 107 (wB w r [nI 3])) h0) nx q0 x (X + 107) = _ := e
    rw [hck]
    show cl (F_X10_rows G _ _ _ _ _) _ = _
    rw [e, cl_some]
    rfl
  · have hck : ∀ {β : Type} {f : Nat → Option β}, ck (encX G X (xsa c 107 (wB w r [nI 3])) h0) q0 [1, 2, 3, 4, 6, 8, 10] f = f 2 := ck_at (hq (xsa c 107 (wB w r [nI 3]))) (by decide)
    have e : F_X2_rows G (encX G X (xsa c 107 (wB w r [nI 3])) h0) nx q0 x (X + 107) = _ := e
    rw [hck]
    show cl (F_X2_rows G _ _ _ _ _) _ = _
    rw [e, cl_some]
    rfl
  · have hck : ∀ {β : Type} {f : Nat → Option β}, ck (encX G X (xsa c 107 (wB w r [nI 3])) h0) q0 [1, 2, 3, 4, 6, 8, 10] f = f 8 := ck_at (hq (xsa c 107 (wB w r [nI 3]))) (by decide)
    have e : F_X6_rows G (encX G X (xsa c 107 (wB w r [nI 3])) h0) nx q0 x (X + 107) = _ := e
    rw [hck]
    show cl (F_X6_rows G _ _ _ _ _) _ = _
    rw [e, cl_some]
    rfl
set_option maxRecDepth 100000 in
set_option maxHeartbeats 1000000 in
theorem x_endsK {q0 k p v r : Nat} (hq : PO1 G X h0 q0 k p v) (k6 : k ≤ 6) {w : Nat → Int32} {x : Int32} (hw : w 0 = nI r) (hr : r < 8) : esF G k (encX G X (xsa c 107 w) h0) nx q0 x (X + 107) = some (enA (nI k) (nI p) (nI v) x, encX G X (xsa c 107 (wB w r (enL (nI k)))) h0, nx) := by
  unfold esF enA enL
  by_cases c1 : k = 4
  · have h1 : nI k = nI 4 := by rw [c1]
    rw [if_pos c1, if_pos h1, if_pos h1]
    have eb := x_began (G := G) (X := X) (nx := nx) (h0 := h0) (c := c) (x := nI 41) hw (by omega)
    have em := x_ends6 (nx := nx) (c := c) (x := x + nI 1) hq k6 (wB_1 (x := nI 41) hw) (by omega)
    have hl := roL_len (nI k)
    have w2 := wB_0 (peL (nI k)) (wB w r [nI 41]) (r + 1) (wB_1 hw)
    have hpl : (peL (nI k)).length = (roL (nI k)).length + 1 := rfl
    have em2 := x_means6 (nx := nx) (c := c) (x := nI 2) hq k6 w2 (by omega)
    have hck : ∀ (c2 : CS) {β : Type} {f : Nat → Option β}, ck (encX G X c2 h0) q0 [1] f = f (kCl k) := fun c2 {β f} => ck_at (hq _) (by rw [c1]; decide)
    have e4 : meL (nI k) = [nI 1] := by rw [h1]; decide
    have e5 : meA (nI k) (nI p) (nI v) (nI 2) = nI 2 + nI p := by
      unfold meA
      rw [if_neg (by rw [h1]; decide), if_neg (by rw [h1]; decide)]
    have ew : wB w r (nI 41 :: (peL (nI k) ++ meL (nI k))) = wB (wB (wB w r [nI 41]) (r + 1) (peL (nI k))) (r + 1 + (peL (nI k)).length) [nI 1] := by
      show wB (wB w r [nI 41]) (r + 1) (peL (nI k) ++ meL (nI k)) = _
      rw [wB_app, e4]
    rw [ew, e5]
    unfold F_X1_ends
    rw [eb, cl_some, hck, em, cl_some, hck, em2, cl_some]
  · have h1 : ¬ nI k = nI 4 := fun z => c1 ((nI_eq (by omega) (by omega)).mp z)
    rw [if_neg c1, if_neg h1, if_neg h1]
    by_cases c2 : k = 3 ∨ k = 5
    · have h2 : ¬ unF (nI k) (nI 3) = 0 := by
        rcases c2 with rfl | rfl <;> decide
      rw [if_pos c2, if_neg h2, if_neg h2]
      have eb := x_began (G := G) (X := X) (nx := nx) (h0 := h0) (c := c) (x := nI 31) hw (by omega)
      have em := x_ends6 (nx := nx) (c := c) (x := x) hq k6 (wB_1 (x := nI 31) hw) (by omega)
      have hck : ∀ {β : Type} {f : Nat → Option β}, ck (encX G X (xsa c 107 (wB w r [nI 31])) h0) q0 [2, 3] f = f (kCl k) := ck_at (hq _) (by rcases c2 with rfl | rfl <;> decide)
      unfold F_X3_ends
      rw [eb, cl_some, hck, em, cl_some]
      rfl
    · have h2 : unF (nI k) (nI 3) = 0 := by
        rcases (show k = 0 ∨ k = 1 ∨ k = 2 ∨ k = 6 by omega) with rfl | rfl | rfl | rfl <;> decide
      rw [if_neg c2, if_pos h2, if_pos h2]
      exact x_ends6 hq k6 hw (by omega)
set_option maxRecDepth 100000 in
set_option maxHeartbeats 1000000 in
theorem x_act (hC : XC G X lo h0 c (ma S 1) ns nt np lk td q) (p w x : Int32) : F_X11_act G (encX G X c h0) nx X p w x = some ((actF S p w x).1, encX G X (xsa c 107 (wB (upK (xa c 107) 0 (nI 0)) 0 (actF S p w x).2)) h0, nx) := by
  obtain ⟨h5, h12⟩ := x_npC hC
  have h2 : ma S 1 2 = nI np := hC.2.2.2.2.2.2.1
  have ep : F_X0_planAt G (encX G X (xsa c 107 (upK (xa c 107) 0 (nI 0))) h0) nx (X + 1) p = _ := x_planAt (c := xsa c 107 (upK (xa c 107) 0 (nI 0))) h5 h12
  have z0 : upK (xa c 107) 0 (nI 0) 0 = nI 0 := upK_s
  unfold F_X11_act actF
  rw [h2]
  simp (maxSteps := 3000000) (disch := omega) only [ep, xi_xsi_s, xi_xsi_n, xl_xsi, xa_xsi, xj_xsi, xr_xsi, xsi_xsi, xi_xsl, xl_xsl_s, xl_xsl_n, xa_xsl, xj_xsl, xr_xsl, xsl_xsl, xi_xsa, xl_xsa, xa_xsa_s, xa_xsa_n, xj_xsa, xr_xsa, xsa_xsa, xi_xsj, xl_xsj, xa_xsj, xj_xsj_s, xj_xsj_n, xr_xsj, xsj_xsj, xi_xsr, xl_xsr, xa_xsr, xj_xsr, xr_xsr_s, xr_xsr_n, xsr_xsr, xk_0, xg_0_0, xg_0_1, xg_0_2, xp_0_2, xg_0_3, xg_0_4, xg_0_5, xg_0_6, xk_1, xg_1_0, xg_1_1, xp_1_1, xg_1_2, xg_1_3, xp_1_3, xg_1_4, xg_1_5, xg_1_6, xg_1_7, xg_1_8, xg_1_9, xg_1_10, xg_1_11, xp_1_11, xg_1_12, xg_1_13, xg_1_14, xg_1_15, xp_1_15, xg_1_16, xp_1_16, xg_1_17, xp_1_17, xk_26, xg_26_0, xg_26_1, xp_26_1, xg_26_2, xg_26_3, xp_26_3, xg_26_4, xg_26_5, xg_26_6, xg_26_7, xg_26_8, xg_26_9, xg_26_10, xg_26_11, xp_26_11, xg_26_12, xg_26_13, xg_26_14, xg_26_15, xp_26_15, xg_26_16, xp_26_16, xg_26_17, xp_26_17, xk_51, xg_51_0, xg_51_1, xg_51_2, xg_51_3, xg_51_4, xg_51_5, xg_51_6, xg_51_7, xp_51_7, xg_51_8, xp_51_8, xk_90, xg_90_0, xg_90_1, xg_90_2, xg_90_3, xp_90_3, xg_90_4, xg_90_5, xp_90_5, xg_90_6, xg_90_7, xp_90_7, xg_90_8, xp_90_8, xg_90_9, xp_90_9, xg_90_10, xas_2, xal_2, xal_3, xas_4, xal_4, xln_4, xas_5, xal_5, xln_5, xas_6, xal_6, xln_6, xas_7, xal_7, xln_7, xas_8, xal_8, xln_8, xas_9, xal_9, xln_9, xas0_10, xas1_10, xasb_10, xal_10, xal_11, xas_12, xal_12, xln_12, xas_27, xal_27, xal_28, xas_29, xal_29, xln_29, xas_30, xal_30, xln_30, xas_31, xal_31, xln_31, xas_32, xal_32, xln_32, xas_33, xal_33, xln_33, xas_34, xal_34, xln_34, xas0_35, xas1_35, xasb_35, xal_35, xal_36, xas_37, xal_37, xln_37, xas_88, xal_88, xln_88, xal_89, xas_89, xln_89, xas_103, xal_103, xln_103, xas_104, xal_104, xln_104, xas_105, xal_105, xln_105, xas_106, xal_106, xln_106, xas_107, xal_107, xln_107, xal_13, xal_in14, xas_in14, xln_in14, xal_38, xal_in39, xas_in39, xln_in39, xal_52, xal_in53, xas_in53, xln_in53, xal_61, xal_in62, xas_in62, xln_in62, xal_70, xal_in71, xas_in71, xln_in71, xal_79, xal_in80, xas_in80, xln_in80, xal_91, xal_in92, xas_in92, xln_in92, cl_some, nm_b, nn_some, qn_some, qn_none, zk_0, zk_1, zk_n0, zk_n1, nI_add, pk_mul, pk_sub, nI_leE, nI_ltE, nI_eqE, nI_lt0, nI_ge0, nI_eq0, nI_gt0, nI_le0, ilt_t, ilt_f, ile_t, ile_f, ieq_t, ieq_f, if_tt, if_ff, Nat.add_sub_cancel]
  by_cases c1 : bIn p (nI 0) (nI np - nI 1) = 0
  · rw [if_pos c1, if_pos c1]
    rfl
  · rw [if_neg c1, if_neg c1]
    obtain ⟨p, hp, rfl⟩ := bIn_nI (by omega) c1
    obtain ⟨q0, k, v, hP⟩ := hC.pl hp
    have e11 : xr (xsa c 107 (upK (xa c 107) 0 (nI 0))) 11 p = some q0 := hP.1
    have e70 : ma S 1 (1070 + p) = nI k := hP.2.2.2.2.2.2.1
    have e82 : ma S 1 (1082 + p) = nI v := hP.2.2.2.2.2.2.2.1
    have k6 := hP.2.2.1
    have hq : PO1 G X h0 q0 k p v := hP.2.1
    have em := x_meansK (nx := nx) (c := c) (x := x) hq k6 z0 (by omega)
    have er := x_rowsK (nx := nx) (c := c) (x := x) hq k6 z0 (by omega)
    have ee := x_endsK (nx := nx) (c := c) (x := x) hq k6 z0 (by omega)
    rw [nI_clamp (by omega), hP.1, e70, e82]
    simp (maxSteps := 3000000) (disch := omega) only [xi_xsi_s, xi_xsi_n, xl_xsi, xa_xsi, xj_xsi, xr_xsi, xsi_xsi, xi_xsl, xl_xsl_s, xl_xsl_n, xa_xsl, xj_xsl, xr_xsl, xsl_xsl, xi_xsa, xl_xsa, xa_xsa_s, xa_xsa_n, xj_xsa, xr_xsa, xsa_xsa, xi_xsj, xl_xsj, xa_xsj, xj_xsj_s, xj_xsj_n, xr_xsj, xsj_xsj, xi_xsr, xl_xsr, xa_xsr, xj_xsr, xr_xsr_s, xr_xsr_n, xsr_xsr, xk_0, xg_0_0, xg_0_1, xg_0_2, xp_0_2, xg_0_3, xg_0_4, xg_0_5, xg_0_6, xk_1, xg_1_0, xg_1_1, xp_1_1, xg_1_2, xg_1_3, xp_1_3, xg_1_4, xg_1_5, xg_1_6, xg_1_7, xg_1_8, xg_1_9, xg_1_10, xg_1_11, xp_1_11, xg_1_12, xg_1_13, xg_1_14, xg_1_15, xp_1_15, xg_1_16, xp_1_16, xg_1_17, xp_1_17, xk_26, xg_26_0, xg_26_1, xp_26_1, xg_26_2, xg_26_3, xp_26_3, xg_26_4, xg_26_5, xg_26_6, xg_26_7, xg_26_8, xg_26_9, xg_26_10, xg_26_11, xp_26_11, xg_26_12, xg_26_13, xg_26_14, xg_26_15, xp_26_15, xg_26_16, xp_26_16, xg_26_17, xp_26_17, xk_51, xg_51_0, xg_51_1, xg_51_2, xg_51_3, xg_51_4, xg_51_5, xg_51_6, xg_51_7, xp_51_7, xg_51_8, xp_51_8, xk_90, xg_90_0, xg_90_1, xg_90_2, xg_90_3, xp_90_3, xg_90_4, xg_90_5, xp_90_5, xg_90_6, xg_90_7, xp_90_7, xg_90_8, xp_90_8, xg_90_9, xp_90_9, xg_90_10, xas_2, xal_2, xal_3, xas_4, xal_4, xln_4, xas_5, xal_5, xln_5, xas_6, xal_6, xln_6, xas_7, xal_7, xln_7, xas_8, xal_8, xln_8, xas_9, xal_9, xln_9, xas0_10, xas1_10, xasb_10, xal_10, xal_11, xas_12, xal_12, xln_12, xas_27, xal_27, xal_28, xas_29, xal_29, xln_29, xas_30, xal_30, xln_30, xas_31, xal_31, xln_31, xas_32, xal_32, xln_32, xas_33, xal_33, xln_33, xas_34, xal_34, xln_34, xas0_35, xas1_35, xasb_35, xal_35, xal_36, xas_37, xal_37, xln_37, xas_88, xal_88, xln_88, xal_89, xas_89, xln_89, xas_103, xal_103, xln_103, xas_104, xal_104, xln_104, xas_105, xal_105, xln_105, xas_106, xal_106, xln_106, xas_107, xal_107, xln_107, xal_13, xal_in14, xas_in14, xln_in14, xal_38, xal_in39, xas_in39, xln_in39, xal_52, xal_in53, xas_in53, xln_in53, xal_61, xal_in62, xas_in62, xln_in62, xal_70, xal_in71, xas_in71, xln_in71, xal_79, xal_in80, xas_in80, xln_in80, xal_91, xal_in92, xas_in92, xln_in92, cl_some, nm_b, nn_some, qn_some, qn_none, zk_0, zk_1, zk_n0, zk_n1, nI_add, pk_mul, pk_sub, nI_leE, nI_ltE, nI_eqE, nI_lt0, nI_ge0, nI_eq0, nI_gt0, nI_le0, ilt_t, ilt_f, ile_t, ile_f, ieq_t, ieq_f, if_tt, if_ff, Nat.add_sub_cancel]
    unfold actA actL
    by_cases w0 : w = nI 0
    · have e := em
      have b0 : ¬ bIn w (nI 0) (nI 2) = 0 := by rw [w0]; decide
      have w00 : w = 0 := w0
      rw [if_pos w0, if_neg b0, if_pos w00, if_pos w00]
      rcases (show k = 0 ∨ k = 1 ∨ k = 2 ∨ k = 3 ∨ k = 4 ∨ k = 5 ∨ k = 6 by omega) with rfl | rfl | rfl | rfl | rfl | rfl | rfl
      · have hck : ∀ {β : Type} {f : Nat → Option β}, ck (encX G X (xsa c 107 (upK (xa c 107) 0 (nI 0))) h0) q0 [1, 2, 3, 4, 6, 8, 10] f = f 6 := ck_at (hq (xsa c 107 (upK (xa c 107) 0 (nI 0)))) (by decide)
        have e : F_X6_means G (encX G X (xsa c 107 (upK (xa c 107) 0 (nI 0))) h0) nx q0 x (X + 107) = _ := e
        rw [hck]
        show cl (F_X6_means G _ _ _ _ _) _ = _
        rw [e, cl_some]
      · have hck : ∀ {β : Type} {f : Nat → Option β}, ck (encX G X (xsa c 107 (upK (xa c 107) 0 (nI 0))) h0) q0 [1, 2, 3, 4, 6, 8, 10] f = f 4 := ck_at (hq (xsa c 107 (upK (xa c 107) 0 (nI 0)))) (by decide)
        have e : F_X4_means G (encX G X (xsa c 107 (upK (xa c 107) 0 (nI 0))) h0) nx q0 x (X + 107) = _ := e
        rw [hck]
        show cl (F_X4_means G _ _ _ _ _) _ = _
        rw [e, cl_some]
      · have hck : ∀ {β : Type} {f : Nat → Option β}, ck (encX G X (xsa c 107 (upK (xa c 107) 0 (nI 0))) h0) q0 [1, 2, 3, 4, 6, 8, 10] f = f 10 := ck_at (hq (xsa c 107 (upK (xa c 107) 0 (nI 0)))) (by decide)
        have e : F_X6_means G (encX G X (xsa c 107 (upK (xa c 107) 0 (nI 0))) h0) nx q0 x (X + 107) = _ := e
        rw [hck]
        show cl (F_X6_means G _ _ _ _ _) _ = _
        rw [e, cl_some]
      · have hck : ∀ {β : Type} {f : Nat → Option β}, ck (encX G X (xsa c 107 (upK (xa c 107) 0 (nI 0))) h0) q0 [1, 2, 3, 4, 6, 8, 10] f = f 3 := ck_at (hq (xsa c 107 (upK (xa c 107) 0 (nI 0)))) (by decide)
        have e : F_X6_means G (encX G X (xsa c 107 (upK (xa c 107) 0 (nI 0))) h0) nx q0 x (X + 107) = _ := e
        rw [hck]
        show cl (F_X6_means G _ _ _ _ _) _ = _
        rw [e, cl_some]
      · have hck : ∀ {β : Type} {f : Nat → Option β}, ck (encX G X (xsa c 107 (upK (xa c 107) 0 (nI 0))) h0) q0 [1, 2, 3, 4, 6, 8, 10] f = f 1 := ck_at (hq (xsa c 107 (upK (xa c 107) 0 (nI 0)))) (by decide)
        have e : F_X6_means G (encX G X (xsa c 107 (upK (xa c 107) 0 (nI 0))) h0) nx q0 x (X + 107) = _ := e
        rw [hck]
        show cl (F_X6_means G _ _ _ _ _) _ = _
        rw [e, cl_some]
      · have hck : ∀ {β : Type} {f : Nat → Option β}, ck (encX G X (xsa c 107 (upK (xa c 107) 0 (nI 0))) h0) q0 [1, 2, 3, 4, 6, 8, 10] f = f 2 := ck_at (hq (xsa c 107 (upK (xa c 107) 0 (nI 0)))) (by decide)
        have e : F_X6_means G (encX G X (xsa c 107 (upK (xa c 107) 0 (nI 0))) h0) nx q0 x (X + 107) = _ := e
        rw [hck]
        show cl (F_X6_means G _ _ _ _ _) _ = _
        rw [e, cl_some]
      · have hck : ∀ {β : Type} {f : Nat → Option β}, ck (encX G X (xsa c 107 (upK (xa c 107) 0 (nI 0))) h0) q0 [1, 2, 3, 4, 6, 8, 10] f = f 8 := ck_at (hq (xsa c 107 (upK (xa c 107) 0 (nI 0)))) (by decide)
        have e : F_X8_means G (encX G X (xsa c 107 (upK (xa c 107) 0 (nI 0))) h0) nx q0 x (X + 107) = _ := e
        rw [hck]
        show cl (F_X8_means G _ _ _ _ _) _ = _
        rw [e, cl_some]
    · have w00 : ¬ w = 0 := w0
      rw [if_neg w0]
      by_cases w1 : w = nI 1
      · have e := er
        have b0 : ¬ bIn w (nI 0) (nI 2) = 0 := by rw [w1]; decide
        rw [if_pos w1, if_neg b0]
        show _ = some (_, encX G X (xsa c 107 (wB (upK (xa c 107) 0 (nI 0)) 0 (if w = 0 then meL (nI k) else if w = nI 1 then roL (nI k) else enL (nI k)))) h0, nx)
        show _ = some ((if w = 0 then meA (nI k) (nI p) (nI v) x else if w = nI 1 then roA (nI k) (nI p) (nI v) x else enA (nI k) (nI p) (nI v) x), _, nx)
        rw [if_neg w00, if_pos w1, if_neg w00, if_pos w1]
        rcases (show k = 0 ∨ k = 1 ∨ k = 2 ∨ k = 3 ∨ k = 4 ∨ k = 5 ∨ k = 6 by omega) with rfl | rfl | rfl | rfl | rfl | rfl | rfl
        · have hck : ∀ {β : Type} {f : Nat → Option β}, ck (encX G X (xsa c 107 (upK (xa c 107) 0 (nI 0))) h0) q0 [1, 2, 3, 4, 6, 8, 10] f = f 6 := ck_at (hq (xsa c 107 (upK (xa c 107) 0 (nI 0)))) (by decide)
          have e : F_X6_rows G (encX G X (xsa c 107 (upK (xa c 107) 0 (nI 0))) h0) nx q0 x (X + 107) = _ := e
          rw [hck]
          show cl (F_X6_rows G _ _ _ _ _) _ = _
          rw [e, cl_some]
        · have hck : ∀ {β : Type} {f : Nat → Option β}, ck (encX G X (xsa c 107 (upK (xa c 107) 0 (nI 0))) h0) q0 [1, 2, 3, 4, 6, 8, 10] f = f 4 := ck_at (hq (xsa c 107 (upK (xa c 107) 0 (nI 0)))) (by decide)
          have e : F_X6_rows G (encX G X (xsa c 107 (upK (xa c 107) 0 (nI 0))) h0) nx q0 x (X + 107) = _ := e
          rw [hck]
          show cl (F_X6_rows G _ _ _ _ _) _ = _
          rw [e, cl_some]
        · have hck : ∀ {β : Type} {f : Nat → Option β}, ck (encX G X (xsa c 107 (upK (xa c 107) 0 (nI 0))) h0) q0 [1, 2, 3, 4, 6, 8, 10] f = f 10 := ck_at (hq (xsa c 107 (upK (xa c 107) 0 (nI 0)))) (by decide)
          have e : F_X10_rows G (encX G X (xsa c 107 (upK (xa c 107) 0 (nI 0))) h0) nx q0 x (X + 107) = _ := e
          rw [hck]
          show cl (F_X10_rows G _ _ _ _ _) _ = _
          rw [e, cl_some]
        · have hck : ∀ {β : Type} {f : Nat → Option β}, ck (encX G X (xsa c 107 (upK (xa c 107) 0 (nI 0))) h0) q0 [1, 2, 3, 4, 6, 8, 10] f = f 3 := ck_at (hq (xsa c 107 (upK (xa c 107) 0 (nI 0)))) (by decide)
          have e : F_X6_rows G (encX G X (xsa c 107 (upK (xa c 107) 0 (nI 0))) h0) nx q0 x (X + 107) = _ := e
          rw [hck]
          show cl (F_X6_rows G _ _ _ _ _) _ = _
          rw [e, cl_some]
        · have hck : ∀ {β : Type} {f : Nat → Option β}, ck (encX G X (xsa c 107 (upK (xa c 107) 0 (nI 0))) h0) q0 [1, 2, 3, 4, 6, 8, 10] f = f 1 := ck_at (hq (xsa c 107 (upK (xa c 107) 0 (nI 0)))) (by decide)
          have e : F_X10_rows G (encX G X (xsa c 107 (upK (xa c 107) 0 (nI 0))) h0) nx q0 x (X + 107) = _ := e
          rw [hck]
          show cl (F_X10_rows G _ _ _ _ _) _ = _
          rw [e, cl_some]
        · have hck : ∀ {β : Type} {f : Nat → Option β}, ck (encX G X (xsa c 107 (upK (xa c 107) 0 (nI 0))) h0) q0 [1, 2, 3, 4, 6, 8, 10] f = f 2 := ck_at (hq (xsa c 107 (upK (xa c 107) 0 (nI 0)))) (by decide)
          have e : F_X2_rows G (encX G X (xsa c 107 (upK (xa c 107) 0 (nI 0))) h0) nx q0 x (X + 107) = _ := e
          rw [hck]
          show cl (F_X2_rows G _ _ _ _ _) _ = _
          rw [e, cl_some]
        · have hck : ∀ {β : Type} {f : Nat → Option β}, ck (encX G X (xsa c 107 (upK (xa c 107) 0 (nI 0))) h0) q0 [1, 2, 3, 4, 6, 8, 10] f = f 8 := ck_at (hq (xsa c 107 (upK (xa c 107) 0 (nI 0)))) (by decide)
          have e : F_X6_rows G (encX G X (xsa c 107 (upK (xa c 107) 0 (nI 0))) h0) nx q0 x (X + 107) = _ := e
          rw [hck]
          show cl (F_X6_rows G _ _ _ _ _) _ = _
          rw [e, cl_some]
      · rw [if_neg w1]
        by_cases w2 : w = nI 2
        · have e := ee
          have b0 : ¬ bIn w (nI 0) (nI 2) = 0 := by rw [w2]; decide
          rw [if_pos w2, if_neg b0]
          show _ = some (_, encX G X (xsa c 107 (wB (upK (xa c 107) 0 (nI 0)) 0 (if w = 0 then meL (nI k) else if w = nI 1 then roL (nI k) else enL (nI k)))) h0, nx)
          show _ = some ((if w = 0 then meA (nI k) (nI p) (nI v) x else if w = nI 1 then roA (nI k) (nI p) (nI v) x else enA (nI k) (nI p) (nI v) x), _, nx)
          rw [if_neg w00, if_neg w1, if_neg w00, if_neg w1]
          rcases (show k = 0 ∨ k = 1 ∨ k = 2 ∨ k = 3 ∨ k = 4 ∨ k = 5 ∨ k = 6 by omega) with rfl | rfl | rfl | rfl | rfl | rfl | rfl
          · have hck : ∀ {β : Type} {f : Nat → Option β}, ck (encX G X (xsa c 107 (upK (xa c 107) 0 (nI 0))) h0) q0 [1, 2, 3, 4, 6, 8, 10] f = f 6 := ck_at (hq (xsa c 107 (upK (xa c 107) 0 (nI 0)))) (by decide)
            have e : F_X6_ends G (encX G X (xsa c 107 (upK (xa c 107) 0 (nI 0))) h0) nx q0 x (X + 107) = _ := e
            rw [hck]
            show cl (F_X6_ends G _ _ _ _ _) _ = _
            rw [e, cl_some]
          · have hck : ∀ {β : Type} {f : Nat → Option β}, ck (encX G X (xsa c 107 (upK (xa c 107) 0 (nI 0))) h0) q0 [1, 2, 3, 4, 6, 8, 10] f = f 4 := ck_at (hq (xsa c 107 (upK (xa c 107) 0 (nI 0)))) (by decide)
            have e : F_X6_ends G (encX G X (xsa c 107 (upK (xa c 107) 0 (nI 0))) h0) nx q0 x (X + 107) = _ := e
            rw [hck]
            show cl (F_X6_ends G _ _ _ _ _) _ = _
            rw [e, cl_some]
          · have hck : ∀ {β : Type} {f : Nat → Option β}, ck (encX G X (xsa c 107 (upK (xa c 107) 0 (nI 0))) h0) q0 [1, 2, 3, 4, 6, 8, 10] f = f 10 := ck_at (hq (xsa c 107 (upK (xa c 107) 0 (nI 0)))) (by decide)
            have e : F_X6_ends G (encX G X (xsa c 107 (upK (xa c 107) 0 (nI 0))) h0) nx q0 x (X + 107) = _ := e
            rw [hck]
            show cl (F_X6_ends G _ _ _ _ _) _ = _
            rw [e, cl_some]
          · have hck : ∀ {β : Type} {f : Nat → Option β}, ck (encX G X (xsa c 107 (upK (xa c 107) 0 (nI 0))) h0) q0 [1, 2, 3, 4, 6, 8, 10] f = f 3 := ck_at (hq (xsa c 107 (upK (xa c 107) 0 (nI 0)))) (by decide)
            have e : F_X3_ends G (encX G X (xsa c 107 (upK (xa c 107) 0 (nI 0))) h0) nx q0 x (X + 107) = _ := e
            rw [hck]
            show cl (F_X3_ends G _ _ _ _ _) _ = _
            rw [e, cl_some]
          · have hck : ∀ {β : Type} {f : Nat → Option β}, ck (encX G X (xsa c 107 (upK (xa c 107) 0 (nI 0))) h0) q0 [1, 2, 3, 4, 6, 8, 10] f = f 1 := ck_at (hq (xsa c 107 (upK (xa c 107) 0 (nI 0)))) (by decide)
            have e : F_X1_ends G (encX G X (xsa c 107 (upK (xa c 107) 0 (nI 0))) h0) nx q0 x (X + 107) = _ := e
            rw [hck]
            show cl (F_X1_ends G _ _ _ _ _) _ = _
            rw [e, cl_some]
          · have hck : ∀ {β : Type} {f : Nat → Option β}, ck (encX G X (xsa c 107 (upK (xa c 107) 0 (nI 0))) h0) q0 [1, 2, 3, 4, 6, 8, 10] f = f 2 := ck_at (hq (xsa c 107 (upK (xa c 107) 0 (nI 0)))) (by decide)
            have e : F_X3_ends G (encX G X (xsa c 107 (upK (xa c 107) 0 (nI 0))) h0) nx q0 x (X + 107) = _ := e
            rw [hck]
            show cl (F_X3_ends G _ _ _ _ _) _ = _
            rw [e, cl_some]
          · have hck : ∀ {β : Type} {f : Nat → Option β}, ck (encX G X (xsa c 107 (upK (xa c 107) 0 (nI 0))) h0) q0 [1, 2, 3, 4, 6, 8, 10] f = f 8 := ck_at (hq (xsa c 107 (upK (xa c 107) 0 (nI 0)))) (by decide)
            have e : F_X6_ends G (encX G X (xsa c 107 (upK (xa c 107) 0 (nI 0))) h0) nx q0 x (X + 107) = _ := e
            rw [hck]
            show cl (F_X6_ends G _ _ _ _ _) _ = _
            rw [e, cl_some]
        · have b0 : bIn w (nI 0) (nI 2) = 0 := by
            refine Decidable.byContradiction (fun z => ?_)
            obtain ⟨j, _, hj, rfl⟩ := bIn_lh (by omega) (by omega) z
            rcases (show j = 0 ∨ j = 1 ∨ j = 2 by omega) with rfl | rfl | rfl
            · exact w0 rfl
            · exact w1 rfl
            · exact w2 rfl
          rw [if_neg w2, if_pos b0]
          rfl
theorem x_trace {r : Nat} (hb : BdR (xa c 107) S r) (hr : r ≤ 20) (k : Int32) : F_X11_trace G (encX G X c h0) nx X k = some (traceF S r k, encX G X c h0, nx) := by
  obtain ⟨b1, b2, b3⟩ := hb
  have em : mnI (nI r) (nI 20) = nI r := by
    unfold mnI
    have hl : ¬ nI 20 < nI r := by rw [nI_ltE (by omega) (by omega)]; omega
    rw [if_neg hl]
  unfold F_X11_trace F_X11_trace_33 traceF
  simp (maxSteps := 3000000) (disch := omega) only [b2, em, x_within, xi_xsi_s, xi_xsi_n, xl_xsi, xa_xsi, xj_xsi, xr_xsi, xsi_xsi, xi_xsl, xl_xsl_s, xl_xsl_n, xa_xsl, xj_xsl, xr_xsl, xsl_xsl, xi_xsa, xl_xsa, xa_xsa_s, xa_xsa_n, xj_xsa, xr_xsa, xsa_xsa, xi_xsj, xl_xsj, xa_xsj, xj_xsj_s, xj_xsj_n, xr_xsj, xsj_xsj, xi_xsr, xl_xsr, xa_xsr, xj_xsr, xr_xsr_s, xr_xsr_n, xsr_xsr, xk_0, xg_0_0, xg_0_1, xg_0_2, xp_0_2, xg_0_3, xg_0_4, xg_0_5, xg_0_6, xk_1, xg_1_0, xg_1_1, xp_1_1, xg_1_2, xg_1_3, xp_1_3, xg_1_4, xg_1_5, xg_1_6, xg_1_7, xg_1_8, xg_1_9, xg_1_10, xg_1_11, xp_1_11, xg_1_12, xg_1_13, xg_1_14, xg_1_15, xp_1_15, xg_1_16, xp_1_16, xg_1_17, xp_1_17, xk_26, xg_26_0, xg_26_1, xp_26_1, xg_26_2, xg_26_3, xp_26_3, xg_26_4, xg_26_5, xg_26_6, xg_26_7, xg_26_8, xg_26_9, xg_26_10, xg_26_11, xp_26_11, xg_26_12, xg_26_13, xg_26_14, xg_26_15, xp_26_15, xg_26_16, xp_26_16, xg_26_17, xp_26_17, xk_51, xg_51_0, xg_51_1, xg_51_2, xg_51_3, xg_51_4, xg_51_5, xg_51_6, xg_51_7, xp_51_7, xg_51_8, xp_51_8, xk_90, xg_90_0, xg_90_1, xg_90_2, xg_90_3, xp_90_3, xg_90_4, xg_90_5, xp_90_5, xg_90_6, xg_90_7, xp_90_7, xg_90_8, xp_90_8, xg_90_9, xp_90_9, xg_90_10, xas_2, xal_2, xal_3, xas_4, xal_4, xln_4, xas_5, xal_5, xln_5, xas_6, xal_6, xln_6, xas_7, xal_7, xln_7, xas_8, xal_8, xln_8, xas_9, xal_9, xln_9, xas0_10, xas1_10, xasb_10, xal_10, xal_11, xas_12, xal_12, xln_12, xas_27, xal_27, xal_28, xas_29, xal_29, xln_29, xas_30, xal_30, xln_30, xas_31, xal_31, xln_31, xas_32, xal_32, xln_32, xas_33, xal_33, xln_33, xas_34, xal_34, xln_34, xas0_35, xas1_35, xasb_35, xal_35, xal_36, xas_37, xal_37, xln_37, xas_88, xal_88, xln_88, xal_89, xas_89, xln_89, xas_103, xal_103, xln_103, xas_104, xal_104, xln_104, xas_105, xal_105, xln_105, xas_106, xal_106, xln_106, xas_107, xal_107, xln_107, xal_13, xal_in14, xas_in14, xln_in14, xal_38, xal_in39, xas_in39, xln_in39, xal_52, xal_in53, xas_in53, xln_in53, xal_61, xal_in62, xas_in62, xln_in62, xal_70, xal_in71, xas_in71, xln_in71, xal_79, xal_in80, xas_in80, xln_in80, xal_91, xal_in92, xas_in92, xln_in92, cl_some, nm_b, nn_some, qn_some, qn_none, zk_0, zk_1, zk_n0, zk_n1, nI_add, pk_mul, pk_sub, nI_leE, nI_ltE, nI_eqE, nI_lt0, nI_ge0, nI_eq0, nI_gt0, nI_le0, ilt_t, ilt_f, ile_t, ile_f, ieq_t, ieq_f, if_tt, if_ff, Nat.add_sub_cancel]
  by_cases c1 : bIn k (nI 0) (nI r - nI 1) = 0
  · rw [if_pos c1, if_pos c1]
  · rw [if_neg c1, if_neg c1]
    obtain ⟨j, hj, rfl⟩ := bIn_nI (by omega) c1
    rw [nI_clamp (by omega)]
    have e := b3 j hj
    simp (maxSteps := 3000000) (disch := omega) only [e, xi_xsi_s, xi_xsi_n, xl_xsi, xa_xsi, xj_xsi, xr_xsi, xsi_xsi, xi_xsl, xl_xsl_s, xl_xsl_n, xa_xsl, xj_xsl, xr_xsl, xsl_xsl, xi_xsa, xl_xsa, xa_xsa_s, xa_xsa_n, xj_xsa, xr_xsa, xsa_xsa, xi_xsj, xl_xsj, xa_xsj, xj_xsj_s, xj_xsj_n, xr_xsj, xsj_xsj, xi_xsr, xl_xsr, xa_xsr, xj_xsr, xr_xsr_s, xr_xsr_n, xsr_xsr, xk_0, xg_0_0, xg_0_1, xg_0_2, xp_0_2, xg_0_3, xg_0_4, xg_0_5, xg_0_6, xk_1, xg_1_0, xg_1_1, xp_1_1, xg_1_2, xg_1_3, xp_1_3, xg_1_4, xg_1_5, xg_1_6, xg_1_7, xg_1_8, xg_1_9, xg_1_10, xg_1_11, xp_1_11, xg_1_12, xg_1_13, xg_1_14, xg_1_15, xp_1_15, xg_1_16, xp_1_16, xg_1_17, xp_1_17, xk_26, xg_26_0, xg_26_1, xp_26_1, xg_26_2, xg_26_3, xp_26_3, xg_26_4, xg_26_5, xg_26_6, xg_26_7, xg_26_8, xg_26_9, xg_26_10, xg_26_11, xp_26_11, xg_26_12, xg_26_13, xg_26_14, xg_26_15, xp_26_15, xg_26_16, xp_26_16, xg_26_17, xp_26_17, xk_51, xg_51_0, xg_51_1, xg_51_2, xg_51_3, xg_51_4, xg_51_5, xg_51_6, xg_51_7, xp_51_7, xg_51_8, xp_51_8, xk_90, xg_90_0, xg_90_1, xg_90_2, xg_90_3, xp_90_3, xg_90_4, xg_90_5, xp_90_5, xg_90_6, xg_90_7, xp_90_7, xg_90_8, xp_90_8, xg_90_9, xp_90_9, xg_90_10, xas_2, xal_2, xal_3, xas_4, xal_4, xln_4, xas_5, xal_5, xln_5, xas_6, xal_6, xln_6, xas_7, xal_7, xln_7, xas_8, xal_8, xln_8, xas_9, xal_9, xln_9, xas0_10, xas1_10, xasb_10, xal_10, xal_11, xas_12, xal_12, xln_12, xas_27, xal_27, xal_28, xas_29, xal_29, xln_29, xas_30, xal_30, xln_30, xas_31, xal_31, xln_31, xas_32, xal_32, xln_32, xas_33, xal_33, xln_33, xas_34, xal_34, xln_34, xas0_35, xas1_35, xasb_35, xal_35, xal_36, xas_37, xal_37, xln_37, xas_88, xal_88, xln_88, xal_89, xas_89, xln_89, xas_103, xal_103, xln_103, xas_104, xal_104, xln_104, xas_105, xal_105, xln_105, xas_106, xal_106, xln_106, xas_107, xal_107, xln_107, xal_13, xal_in14, xas_in14, xln_in14, xal_38, xal_in39, xas_in39, xln_in39, xal_52, xal_in53, xas_in53, xln_in53, xal_61, xal_in62, xas_in62, xln_in62, xal_70, xal_in71, xas_in71, xln_in71, xal_79, xal_in80, xas_in80, xln_in80, xal_91, xal_in92, xas_in92, xln_in92, cl_some, nm_b, nn_some, qn_some, qn_none, zk_0, zk_1, zk_n0, zk_n1, nI_add, pk_mul, pk_sub, nI_leE, nI_ltE, nI_eqE, nI_lt0, nI_ge0, nI_eq0, nI_gt0, nI_le0, ilt_t, ilt_f, ile_t, ile_f, ieq_t, ieq_f, if_tt, if_ff, Nat.add_sub_cancel]
end XRD
