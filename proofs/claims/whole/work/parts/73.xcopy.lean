/-! THE CLASS: plan; a book copied -/
theorem hset_hset {h : Hp} {a : Nat} {e1 e2 : va_E} : hset (hset h a e1) a e2 = hset h a e2 := by
  funext q
  unfold hset
  split <;> rfl
/-- the heap grows -/
def HG (G : Gx) (h0 : Hp) (nx : Nat) (h0' : Hp) (nx' : Nat) : Prop := nx ≤ nx' ∧ (∀ q, q < g_B G + nx → h0' q = h0 q) ∧ ∀ q, g_B G + nx' ≤ q → h0' q = none
def Fsh (G : Gx) (h0 : Hp) (nx : Nat) : Prop := ∀ q, g_B G + nx ≤ q → h0 q = none
theorem HG.rf {G : Gx} {h0 : Hp} {nx : Nat} (h : Fsh G h0 nx) : HG G h0 nx h0 nx := ⟨Nat.le_refl _, fun _ _ => rfl, h⟩
theorem HG.keep {G : Gx} {h0 h0' : Hp} {nx nx' : Nat} (h : HG G h0 nx h0' nx') (hf : Fsh G h0 nx) : ∀ q x, h0 q = some x → h0' q = some x := fun q x hx => by
  by_cases c : q < g_B G + nx
  · rw [h.2.1 q c]; exact hx
  · have := hf q (by omega)
    rw [this] at hx
    exact absurd hx (by simp)
theorem HG.new {G : Gx} {h0 : Hp} {nx : Nat} {e : va_E} (hf : Fsh G h0 nx) : HG G h0 nx (hset h0 (g_B G + nx) e) (nx + 1) := ⟨by omega, fun q hq => hset_ne (by omega), fun q hq => by rw [hset_ne (by omega)]; exact hf q (by omega)⟩
theorem RfR.keep {lo : Nat} {h0 h0' : Hp} {fr : Nat → Nat → Option Nat} (h : RfR lo h0 fr) (hk : ∀ q x, h0 q = some x → h0' q = some x) : RfR lo h0' fr := ⟨fun k q hk1 he => by
    obtain ⟨a, fs, b⟩ := h.1 k q hk1 he
    exact ⟨a, fs, hk _ _ b⟩, fun k q hk1 he => by
    obtain ⟨a, c, fs, b1, b2⟩ := h.2 k q hk1 he
    exact ⟨a, c, fs, b1, hk _ _ b2⟩⟩
section XPL
variable {G : Gx} {X lo nx : Nat} {h0 : Hp} {c : CS} {S : MS} {ns nt np lk td q : Nat}
theorem x_init6 {h : Hp} {a ci : Nat} {x y : Value} {i v : Int32} (hh : h a = some (ob ci [x, y])) (hc : ci ∈ [1, 2, 3, 4, 6, 8, 10]) : F_X6_init G h nx a i v = some ((), hset h a (ob ci [.int i, .int v]), nx) := by
  unfold F_X6_init
  rw [pfV_at hh hc (by show 0 < 2; decide), pfV_at hset_same hc (by show 1 < 2; decide), hset_hset]
  rfl
set_option maxRecDepth 100000 in
set_option maxHeartbeats 1000000 in
theorem x_planOf {k : Nat} (k6 : k ≤ 6) (hX : X + 108 ≤ g_B G + nx) (i v : Int32) : F_X11_planOf G (encX G X c h0) nx (nI k) i v = some (some (g_B G + nx), encX G X c (hset h0 (g_B G + nx) (ob (kCl k) [.int i, .int v])), nx + 1) := by
  have key : ∀ ci, ci ∈ [1, 2, 3, 4, 6, 8, 10] → F_X6_init G (hset (encX G X c h0) (g_B G + nx) (ob ci [.int 0, .int 0])) (nx + 1) (g_B G + nx) i v = some ((), encX G X c (hset h0 (g_B G + nx) (ob ci [.int i, .int v])), nx + 1) := fun ci hc => by
    rw [x_init6 hset_same hc, hset_hset, encX_hset (Or.inr hX)]
  have k1 := key 1 (by decide)
  have k2 := key 2 (by decide)
  have k3 := key 3 (by decide)
  have k4 := key 4 (by decide)
  have k6' := key 6 (by decide)
  have k8 := key 8 (by decide)
  have k10 := key 10 (by decide)
  unfold F_X11_planOf nwO F_X4_init F_X10_init F_X3_init F_X1_init F_X2_init F_X8_init F_X10_init F_X3_init
  rcases (show k = 0 ∨ k = 1 ∨ k = 2 ∨ k = 3 ∨ k = 4 ∨ k = 5 ∨ k = 6 by omega) with rfl | rfl | rfl | rfl | rfl | rfl | rfl <;>
  (simp (disch := omega) only [nI_eqE, k1, k2, k3, k4, k6', k8, k10, cl_some]
   rfl)
set_option maxRecDepth 100000 in
set_option maxHeartbeats 1000000 in
theorem x_plan (hC : XC G X lo h0 c (ma S 1) ns nt np lk td q) (hlo : lo ≤ g_B G + nx) (hf : Fsh G h0 nx) (hR : RfR lo h0 (xr c)) (k v : Int32) : ∃ (c' : CS) (h0' : Hp) (nx' np' : Nat), F_X11_plan G (encX G X c h0) nx X k v = some ((planF S np k v).1, encX G X c' h0', nx') ∧ HG G h0 nx h0' nx' ∧ FrX PB1 c c' ∧ RfR lo h0' (xr c') ∧ XC G X lo h0' c' (planF S np k v).2 ns nt np' lk td q ∧ nx' ≤ nx + 1 := by
  obtain ⟨h5, h12⟩ := x_npC hC
  unfold F_X11_plan planF
  simp (maxSteps := 3000000) (disch := omega) only [x_within, xi_xsi_s, xi_xsi_n, xl_xsi, xa_xsi, xj_xsi, xr_xsi, xsi_xsi, xi_xsl, xl_xsl_s, xl_xsl_n, xa_xsl, xj_xsl, xr_xsl, xsl_xsl, xi_xsa, xl_xsa, xa_xsa_s, xa_xsa_n, xj_xsa, xr_xsa, xsa_xsa, xi_xsj, xl_xsj, xa_xsj, xj_xsj_s, xj_xsj_n, xr_xsj, xsj_xsj, xi_xsr, xl_xsr, xa_xsr, xj_xsr, xr_xsr_s, xr_xsr_n, xsr_xsr, xk_0, xg_0_0, xg_0_1, xg_0_2, xp_0_2, xg_0_3, xg_0_4, xg_0_5, xg_0_6, xk_1, xg_1_0, xg_1_1, xp_1_1, xg_1_2, xg_1_3, xp_1_3, xg_1_4, xg_1_5, xg_1_6, xg_1_7, xg_1_8, xg_1_9, xg_1_10, xg_1_11, xp_1_11, xg_1_12, xg_1_13, xg_1_14, xg_1_15, xp_1_15, xg_1_16, xp_1_16, xg_1_17, xp_1_17, xk_26, xg_26_0, xg_26_1, xp_26_1, xg_26_2, xg_26_3, xp_26_3, xg_26_4, xg_26_5, xg_26_6, xg_26_7, xg_26_8, xg_26_9, xg_26_10, xg_26_11, xp_26_11, xg_26_12, xg_26_13, xg_26_14, xg_26_15, xp_26_15, xg_26_16, xp_26_16, xg_26_17, xp_26_17, xk_51, xg_51_0, xg_51_1, xg_51_2, xg_51_3, xg_51_4, xg_51_5, xg_51_6, xg_51_7, xp_51_7, xg_51_8, xp_51_8, xk_90, xg_90_0, xg_90_1, xg_90_2, xg_90_3, xp_90_3, xg_90_4, xg_90_5, xp_90_5, xg_90_6, xg_90_7, xp_90_7, xg_90_8, xp_90_8, xg_90_9, xp_90_9, xg_90_10, xas_2, xal_2, xal_3, xas_4, xal_4, xln_4, xas_5, xal_5, xln_5, xas_6, xal_6, xln_6, xas_7, xal_7, xln_7, xas_8, xal_8, xln_8, xas_9, xal_9, xln_9, xas0_10, xas1_10, xasb_10, xal_10, xal_11, xas_12, xal_12, xln_12, xas_27, xal_27, xal_28, xas_29, xal_29, xln_29, xas_30, xal_30, xln_30, xas_31, xal_31, xln_31, xas_32, xal_32, xln_32, xas_33, xal_33, xln_33, xas_34, xal_34, xln_34, xas0_35, xas1_35, xasb_35, xal_35, xal_36, xas_37, xal_37, xln_37, xas_88, xal_88, xln_88, xal_89, xas_89, xln_89, xas_103, xal_103, xln_103, xas_104, xal_104, xln_104, xas_105, xal_105, xln_105, xas_106, xal_106, xln_106, xas_107, xal_107, xln_107, xal_13, xal_in14, xas_in14, xln_in14, xal_38, xal_in39, xas_in39, xln_in39, xal_52, xal_in53, xas_in53, xln_in53, xal_61, xal_in62, xas_in62, xln_in62, xal_70, xal_in71, xas_in71, xln_in71, xal_79, xal_in80, xas_in80, xln_in80, xal_91, xal_in92, xas_in92, xln_in92, cl_some, nm_b, nn_some, qn_some, qn_none, zk_0, zk_1, zk_n0, zk_n1, nI_add, pk_mul, pk_sub, nI_leE, nI_ltE, nI_eqE, nI_lt0, nI_ge0, nI_eq0, nI_gt0, nI_le0, ilt_t, ilt_f, ile_t, ile_f, ieq_t, ieq_f, if_tt, if_ff, Nat.add_sub_cancel]
  by_cases c1 : bIn k (nI 0) (nI 6) = 0
  · rw [if_pos c1, if_pos c1]
    exact ⟨c, h0, nx, np, rfl, HG.rf hf, FrX.rf, hR, hC, by omega⟩
  · rw [if_neg c1, if_neg c1]
    by_cases c2 : bIn v (nI 0) (nI 99) = 0
    · rw [if_pos c2, if_pos c2]
      exact ⟨c, h0, nx, np, rfl, HG.rf hf, FrX.rf, hR, hC, by omega⟩
    · rw [if_neg c2, if_neg c2]
      obtain ⟨k, hk0, hk, rfl⟩ := bIn_lh (by omega) (by omega) c1
      obtain ⟨v, hv0, hv, rfl⟩ := bIn_lh (by omega) (by omega) c2
      by_cases c3 : np = 12
      · refine ⟨c, h0, nx, np, ?_, HG.rf hf, FrX.rf, hR, ?_, by omega⟩
        · rw [if_pos c3]
          simp (maxSteps := 3000000) (disch := omega) only [h5, xi_xsi_s, xi_xsi_n, xl_xsi, xa_xsi, xj_xsi, xr_xsi, xsi_xsi, xi_xsl, xl_xsl_s, xl_xsl_n, xa_xsl, xj_xsl, xr_xsl, xsl_xsl, xi_xsa, xl_xsa, xa_xsa_s, xa_xsa_n, xj_xsa, xr_xsa, xsa_xsa, xi_xsj, xl_xsj, xa_xsj, xj_xsj_s, xj_xsj_n, xr_xsj, xsj_xsj, xi_xsr, xl_xsr, xa_xsr, xj_xsr, xr_xsr_s, xr_xsr_n, xsr_xsr, xk_0, xg_0_0, xg_0_1, xg_0_2, xp_0_2, xg_0_3, xg_0_4, xg_0_5, xg_0_6, xk_1, xg_1_0, xg_1_1, xp_1_1, xg_1_2, xg_1_3, xp_1_3, xg_1_4, xg_1_5, xg_1_6, xg_1_7, xg_1_8, xg_1_9, xg_1_10, xg_1_11, xp_1_11, xg_1_12, xg_1_13, xg_1_14, xg_1_15, xp_1_15, xg_1_16, xp_1_16, xg_1_17, xp_1_17, xk_26, xg_26_0, xg_26_1, xp_26_1, xg_26_2, xg_26_3, xp_26_3, xg_26_4, xg_26_5, xg_26_6, xg_26_7, xg_26_8, xg_26_9, xg_26_10, xg_26_11, xp_26_11, xg_26_12, xg_26_13, xg_26_14, xg_26_15, xp_26_15, xg_26_16, xp_26_16, xg_26_17, xp_26_17, xk_51, xg_51_0, xg_51_1, xg_51_2, xg_51_3, xg_51_4, xg_51_5, xg_51_6, xg_51_7, xp_51_7, xg_51_8, xp_51_8, xk_90, xg_90_0, xg_90_1, xg_90_2, xg_90_3, xp_90_3, xg_90_4, xg_90_5, xp_90_5, xg_90_6, xg_90_7, xp_90_7, xg_90_8, xp_90_8, xg_90_9, xp_90_9, xg_90_10, xas_2, xal_2, xal_3, xas_4, xal_4, xln_4, xas_5, xal_5, xln_5, xas_6, xal_6, xln_6, xas_7, xal_7, xln_7, xas_8, xal_8, xln_8, xas_9, xal_9, xln_9, xas0_10, xas1_10, xasb_10, xal_10, xal_11, xas_12, xal_12, xln_12, xas_27, xal_27, xal_28, xas_29, xal_29, xln_29, xas_30, xal_30, xln_30, xas_31, xal_31, xln_31, xas_32, xal_32, xln_32, xas_33, xal_33, xln_33, xas_34, xal_34, xln_34, xas0_35, xas1_35, xasb_35, xal_35, xal_36, xas_37, xal_37, xln_37, xas_88, xal_88, xln_88, xal_89, xas_89, xln_89, xas_103, xal_103, xln_103, xas_104, xal_104, xln_104, xas_105, xal_105, xln_105, xas_106, xal_106, xln_106, xas_107, xal_107, xln_107, xal_13, xal_in14, xas_in14, xln_in14, xal_38, xal_in39, xas_in39, xln_in39, xal_52, xal_in53, xas_in53, xln_in53, xal_61, xal_in62, xas_in62, xln_in62, xal_70, xal_in71, xas_in71, xln_in71, xal_79, xal_in80, xas_in80, xln_in80, xal_91, xal_in92, xas_in92, xln_in92, cl_some, nm_b, nn_some, qn_some, qn_none, zk_0, zk_1, zk_n0, zk_n1, nI_add, pk_mul, pk_sub, nI_leE, nI_ltE, nI_eqE, nI_lt0, nI_ge0, nI_eq0, nI_gt0, nI_le0, ilt_t, ilt_f, ile_t, ile_f, ieq_t, ieq_f, if_tt, if_ff, Nat.add_sub_cancel]
        · rw [if_pos c3]
          exact hC
      · rw [if_neg c3]
        have n12 : np < 12 := by omega
        obtain ⟨h1, ⟨⟨i1, i2, i3, i4, i5, i6⟩, t, so, pl, ta⟩, ⟨w1, w2, w3, w4, w5, w6, w7, w8, w9, w10, w11, w12, w13, w14, w15⟩⟩ := id hC
        have epo := x_planOf (nx := nx) (c := c) (h0 := h0) hk (show X + 108 ≤ g_B G + nx by omega) (nI np) (nI v)
        generalize hh' : hset h0 (g_B G + nx) (ob (kCl k) [.int (nI np), .int (nI v)]) = h0' at epo
        have hG : HG G h0 nx h0' (nx + 1) := by rw [← hh']; exact HG.new hf
        have hkp := hG.keep hf
        have hnew : h0' (g_B G + nx) = some (ob (kCl k) [.int (nI np), .int (nI v)]) := by rw [← hh']; exact hset_same
        have e11 : ∀ {β : Type} {f : Hp → Option β}, asR (g_c G 5) [1, 2, 3, 4, 6, 8, 10] (encX G X c h0') (X + 11) (nI np) (some (g_B G + nx)) f = f (encX G X (xsr c 11 (upK (xr c 11) np (some (g_B G + nx)))) h0') := fun {β f} => xas_11 (by omega) (by
          show (match encX G X c h0' (g_B G + nx) with | some (.inr q) => decide (q.1 ∈ [1, 2, 3, 4, 6, 8, 10]) | _ => false) = true
          rw [encX_out (Or.inr (by omega)), hnew]
          exact decide_eq_true (kCl_mem hk))
        let c' : CS := xsi (xsa (xsr c 11 (upK (xr c 11) np (some (g_B G + nx)))) 12 (upK (xa c 12) np (nI 0))) 114 (nI (np + 1))
        refine ⟨c', h0', nx + 1, np + 1, ?_, hG, ?_, ?_, ?_, by omega⟩
        · unfold F_X0_addPlan
          simp (maxSteps := 3000000) (disch := omega) only [h5, epo, e11, xi_xsi_s, xi_xsi_n, xl_xsi, xa_xsi, xj_xsi, xr_xsi, xsi_xsi, xi_xsl, xl_xsl_s, xl_xsl_n, xa_xsl, xj_xsl, xr_xsl, xsl_xsl, xi_xsa, xl_xsa, xa_xsa_s, xa_xsa_n, xj_xsa, xr_xsa, xsa_xsa, xi_xsj, xl_xsj, xa_xsj, xj_xsj_s, xj_xsj_n, xr_xsj, xsj_xsj, xi_xsr, xl_xsr, xa_xsr, xj_xsr, xr_xsr_s, xr_xsr_n, xsr_xsr, xk_0, xg_0_0, xg_0_1, xg_0_2, xp_0_2, xg_0_3, xg_0_4, xg_0_5, xg_0_6, xk_1, xg_1_0, xg_1_1, xp_1_1, xg_1_2, xg_1_3, xp_1_3, xg_1_4, xg_1_5, xg_1_6, xg_1_7, xg_1_8, xg_1_9, xg_1_10, xg_1_11, xp_1_11, xg_1_12, xg_1_13, xg_1_14, xg_1_15, xp_1_15, xg_1_16, xp_1_16, xg_1_17, xp_1_17, xk_26, xg_26_0, xg_26_1, xp_26_1, xg_26_2, xg_26_3, xp_26_3, xg_26_4, xg_26_5, xg_26_6, xg_26_7, xg_26_8, xg_26_9, xg_26_10, xg_26_11, xp_26_11, xg_26_12, xg_26_13, xg_26_14, xg_26_15, xp_26_15, xg_26_16, xp_26_16, xg_26_17, xp_26_17, xk_51, xg_51_0, xg_51_1, xg_51_2, xg_51_3, xg_51_4, xg_51_5, xg_51_6, xg_51_7, xp_51_7, xg_51_8, xp_51_8, xk_90, xg_90_0, xg_90_1, xg_90_2, xg_90_3, xp_90_3, xg_90_4, xg_90_5, xp_90_5, xg_90_6, xg_90_7, xp_90_7, xg_90_8, xp_90_8, xg_90_9, xp_90_9, xg_90_10, xas_2, xal_2, xal_3, xas_4, xal_4, xln_4, xas_5, xal_5, xln_5, xas_6, xal_6, xln_6, xas_7, xal_7, xln_7, xas_8, xal_8, xln_8, xas_9, xal_9, xln_9, xas0_10, xas1_10, xasb_10, xal_10, xal_11, xas_12, xal_12, xln_12, xas_27, xal_27, xal_28, xas_29, xal_29, xln_29, xas_30, xal_30, xln_30, xas_31, xal_31, xln_31, xas_32, xal_32, xln_32, xas_33, xal_33, xln_33, xas_34, xal_34, xln_34, xas0_35, xas1_35, xasb_35, xal_35, xal_36, xas_37, xal_37, xln_37, xas_88, xal_88, xln_88, xal_89, xas_89, xln_89, xas_103, xal_103, xln_103, xas_104, xal_104, xln_104, xas_105, xal_105, xln_105, xas_106, xal_106, xln_106, xas_107, xal_107, xln_107, xal_13, xal_in14, xas_in14, xln_in14, xal_38, xal_in39, xas_in39, xln_in39, xal_52, xal_in53, xas_in53, xln_in53, xal_61, xal_in62, xas_in62, xln_in62, xal_70, xal_in71, xas_in71, xln_in71, xal_79, xal_in80, xas_in80, xln_in80, xal_91, xal_in92, xas_in92, xln_in92, cl_some, nm_b, nn_some, qn_some, qn_none, zk_0, zk_1, zk_n0, zk_n1, nI_add, pk_mul, pk_sub, nI_leE, nI_ltE, nI_eqE, nI_lt0, nI_ge0, nI_eq0, nI_gt0, nI_le0, ilt_t, ilt_f, ile_t, ile_f, ieq_t, ieq_f, if_tt, if_ff, Nat.add_sub_cancel]
          rfl
        · exact ((FrX.sr (P := PB1) (by unfold PB1; omega)).trans (FrX.sa (P := PB1) (by unfold PB1; omega)) (fun _ z => z) (fun _ z => z)).trans (FrX.si (P := PB1) (by unfold PB1; omega)) (fun _ z => z) (fun _ z => z)
        · have hR' := hR.keep hkp
          have x3 : xr c' 3 = xr c 3 := rfl
          have x11 : xr c' 11 = upK (xr c 11) np (some (g_B G + nx)) := rfl
          refine ⟨fun j p hj he => ?_, fun j p hj he => ?_⟩
          · rw [x3] at he
            exact hR'.1 j p hj he
          · rw [x11] at he
            by_cases e : j = np
            · subst e
              rw [upK_s] at he
              obtain rfl := Option.some.inj he
              exact ⟨hlo, kCl k, _, kCl_mem hk, hnew⟩
            · rw [upK_n e] at he
              exact hR'.2 j p hj he
        · generalize hs' : upK (upK (upK (upK (ma S 1) (1070 + np) (nI k)) (1082 + np) (nI v)) (1094 + np) (nI 0)) 2 (nI (np + 1)) = s'
          have g : ∀ k, k ≠ 2 → k ≠ 1070 + np → k ≠ 1082 + np → k ≠ 1094 + np → s' k = ma S 1 k := fun k z1 z2 z3 z4 => by rw [← hs', upK_n z1, upK_n z4, upK_n z3, upK_n z2]
          have gl : ∀ k, k < 1070 → k ≠ 2 → s' k = ma S 1 k := fun k z1 z2 => g k z2 (by omega) (by omega) (by omega)
          have a70 : s' (1070 + np) = nI k := by rw [← hs', upK_n (by omega), upK_n (by omega), upK_n (by omega), upK_s]
          have a82 : s' (1082 + np) = nI v := by rw [← hs', upK_n (by omega), upK_n (by omega), upK_s]
          have a94 : s' (1094 + np) = nI 0 := by rw [← hs', upK_n (by omega), upK_s]
          have a2 : s' 2 = nI (np + 1) := by rw [← hs', upK_s]
          have s70 : sN s' (1070 + np) = k := by unfold sN; rw [a70, nI_clamp (by omega)]
          have s94 : sN s' (1094 + np) = 0 := by unfold sN; rw [a94, nI_clamp (by omega)]
          have x12 : xa c' 12 = upK (xa c 12) np (nI 0) := xa_xsa_s
          have xo : ∀ k, k ≠ 12 → xa c' k = xa c k := fun k hk => by
            show xa (xsa _ 12 _) k = _
            rw [xa_xsa_n hk]; rfl
          have xio : ∀ k, k ≠ 114 → xi c' k = xi c k := fun k hk => xi_xsi_n hk
          have x11 : xr c' 11 = upK (xr c 11) np (some (g_B G + nx)) := rfl
          show XC G X lo h0' c' s' ns nt (np + 1) lk td q
          refine hC.goon (fun q x _ hx => hkp q x hx) (fun k z1 z2 => gl k (by omega) (by omega)) (xo 2 (by omega)) rfl ?_ ?_ ?_ (gl 0 (by omega) (by omega)) (gl 5 (by omega) (by omega)) ((gl 1 (by omega) (by omega)).trans w3) w4 a2 (by omega) (gl 3 (by omega) (by omega)) ?_ ?_ ?_
          · refine ⟨?_, ?_, ?_, ?_, ?_, ?_⟩
            · rw [xio 111 (by omega), gl 5 (by omega) (by omega)]; exact i1
            · rw [xio 112 (by omega), gl 0 (by omega) (by omega)]; exact i2
            · rw [xio 113 (by omega), gl 1 (by omega) (by omega)]; exact i3
            · rw [a2]; exact xi_xsi_s
            · rw [xio 115 (by omega), gl 3 (by omega) (by omega)]; exact i5
            · rw [xio 116 (by omega), gl 4 (by omega) (by omega)]; exact i6
          · intro j hj
            rw [xo 4 (by omega), xo 5 (by omega), xo 6 (by omega), xo 7 (by omega), xo 8 (by omega), xo 9 (by omega), xo 10 (by omega), gl (1010 + j) (by omega) (by omega), gl (1018 + j) (by omega) (by omega), gl (1034 + j) (by omega) (by omega), gl (1042 + j) (by omega) (by omega), gl (1050 + j) (by omega) (by omega), gl (1058 + j) (by omega) (by omega), gl (1026 + j) (by omega) (by omega)]
            exact t j hj
          · intro j hj
            rw [x11, x12, xo (14 + j) (by omega)]
            by_cases e : j = np
            · subst e
              rw [s70, s94, a82, a94, upK_s, upK_s]
              exact ⟨g_B G + nx, rfl, hlo, hnew, rfl, fun i hi => absurd hi (by omega)⟩
            · obtain ⟨q', e1, e2, e3, e4, e5⟩ := pl j (by omega)
              have m70 : s' (1070 + j) = ma S 1 (1070 + j) := g _ (by omega) (by omega) (by omega) (by omega)
              have m82 : s' (1082 + j) = ma S 1 (1082 + j) := g _ (by omega) (by omega) (by omega) (by omega)
              have m94 : s' (1094 + j) = ma S 1 (1094 + j) := g _ (by omega) (by omega) (by omega) (by omega)
              have n70 : sN s' (1070 + j) = sN (ma S 1) (1070 + j) := by unfold sN; rw [m70]
              have n94 : sN s' (1094 + j) = sN (ma S 1) (1094 + j) := by unfold sN; rw [m94]
              rw [n70, n94, m82, m94, upK_n e, upK_n e]
              exact ⟨q', e1, e2, hkp _ _ e3, e4, fun i hi => by rw [g _ (by omega) (by omega) (by omega) (by omega)]; exact e5 i hi⟩
          · rw [gl 4 (by omega) (by omega)]
            exact w9
          · intro j hj
            unfold ThV
            rw [gl (1010 + j) (by omega) (by omega), gl (1018 + j) (by omega) (by omega), gl (1034 + j) (by omega) (by omega), gl (1042 + j) (by omega) (by omega), gl (1026 + j) (by omega) (by omega)]
            exact w12 j hj
          · intro j hj
            by_cases e : j = np
            · subst e
              exact ⟨⟨k, hk, a70⟩, ⟨v, hv, a82⟩, 0, by omega, a94, fun i hi => absurd hi (by omega)⟩
            · obtain ⟨u1, u2, r, u3, u4, u5⟩ := w13 j (by omega)
              have m70 : s' (1070 + j) = ma S 1 (1070 + j) := g _ (by omega) (by omega) (by omega) (by omega)
              have m82 : s' (1082 + j) = ma S 1 (1082 + j) := g _ (by omega) (by omega) (by omega) (by omega)
              have m94 : s' (1094 + j) = ma S 1 (1094 + j) := g _ (by omega) (by omega) (by omega) (by omega)
              exact ⟨by rw [m70]; exact u1, by rw [m82]; exact u2, r, u3, by rw [m94]; exact u4, fun i hi => by rw [g _ (by omega) (by omega) (by omega) (by omega)]; exact u5 i hi⟩
end XPL
section XCP
variable {G : Gx} {X lo nx : Nat} {h0 : Hp} {c : CS}
def PCi (k : Nat) : Prop := (27 ≤ k ∧ k < 51) ∨ (121 ≤ k ∧ k < 127)
def CpOi (c c' : CS) : Prop := (∀ i, i < 6 → xi c' (121 + i) = xi c (111 + i)) ∧ (∀ j, j < 120 → xa c' 27 j = xa c 2 j) ∧ (∀ j, j < 6 → xr c' 28 j = xr c 3 j) ∧ (∀ i j, i < 6 → j < 8 → xa c' (29 + i) j = xa c (4 + i) j) ∧ (∀ j, j < 8 → xa c' 35 j = vp_nar .boolean (xa c 10 j)) ∧ (∀ j, j < 12 → xr c' 36 j = xr c 11 j) ∧ (∀ j, j < 12 → xa c' 37 j = xa c 12 j) ∧ ∀ p j, p < 12 → j < 10 → xa c' (39 + p) j = xa c (14 + p) j
theorem xas_bzi {k : Nat} {x : Int32} {β : Type} {f : Hp → Option β} (hk : k < 8) : asI (g_c G 3) (vp_nar .boolean) (encX G X c h0) (X + 35) (nI k) x f = f (encX G X (xsa c 35 (upK (xa c 35) k (vp_nar .boolean x))) h0) := (asI_at ((encX_at (by decide)).trans cellX_35) hk (by decide)).trans (congrArg f (encX_set (by decide) (cellX_35.trans (by rw [xa_xsa_s]; rfl)) cellX_xsa))
theorem xac_ti (hb : ∀ j, j < 120 → fits .byte (.int (xa c 2 j)) = true) {β : Type} {f : Hp → Option β} : acI (g_c G 2) .byte (encX G X c h0) (X + 2) (nI 0) (X + 27) (nI 0) (nI 120) f = f (encX G X (xsa c 27 (cv_cpy (xa c 2) (xa c 27) 0 0 120)) h0) := by
  have e1 : encX G X c h0 (X + 2) = some (aB G 120 (xa c 2)) := (encX_at (by decide)).trans cellX_2
  have e2 : encX G X c h0 (X + 27) = some (aB G 120 (xa c 27)) := (encX_at (by decide)).trans cellX_27
  have e3 : hset (encX G X c h0) (X + 27) (aB G 120 (cv_cpy (xa c 2) (xa c 27) 0 0 120)) = encX G X (xsa c 27 (cv_cpy (xa c 2) (xa c 27) 0 0 120)) h0 := encX_set (by decide) (cellX_27.trans (by rw [xa_xsa_s])) cellX_xsa
  have en : (nI 120).toNatClampNeg = 120 := nI_clamp (by omega)
  have e0 : (nI 0).toNatClampNeg = 0 := nI_clamp (by omega)
  rw [← e3]
  unfold acI
  rw [e1, e2]
  show (if _ then _ else _) = _
  rw [en, e0, if_pos]
  · rfl
  · refine ⟨⟨rfl, rfl, by decide, by decide, by decide⟩, by omega, by omega, ?_⟩
    rw [List.all_eq_true]
    intro j hj
    have := List.mem_range.mp hj
    rw [Nat.zero_add]
    exact hb j this
theorem xac_pi {p : Nat} (hp : p < 12) {β : Type} {f : Hp → Option β} : acI (g_c G 0) .int (encX G X c h0) (X + 14 + p) (nI 0) (X + 39 + p) (nI 0) (nI 10) f = f (encX G X (xsa c (39 + p) (cv_cpy (xa c (14 + p)) (xa c (39 + p)) 0 0 10)) h0) := by
  have e1 : encX G X c h0 (X + 14 + p) = some (aI G 10 (xa c (14 + p))) := (encX_in (by omega)).trans (cellX_in14 hp)
  have e2 : encX G X c h0 (X + 39 + p) = some (aI G 10 (xa c (39 + p))) := (encX_in (by omega)).trans (cellX_in39 hp)
  have e3 : hset (encX G X c h0) (X + 39 + p) (aI G 10 (cv_cpy (xa c (14 + p)) (xa c (39 + p)) 0 0 10)) = encX G X (xsa c (39 + p) (cv_cpy (xa c (14 + p)) (xa c (39 + p)) 0 0 10)) h0 := encX_setin (by omega) ((cellX_in39 hp).trans (by rw [xa_xsa_s])) cellX_xsa
  have en : (nI 10).toNatClampNeg = 10 := nI_clamp (by omega)
  have e0 : (nI 0).toNatClampNeg = 0 := nI_clamp (by omega)
  rw [← e3]
  unfold acI
  rw [e1, e2]
  show (if _ then _ else _) = _
  rw [en, e0, if_pos]
  · rfl
  · refine ⟨⟨rfl, rfl, by decide, by decide, by decide⟩, by omega, by omega, ?_⟩
    rw [List.all_eq_true]
    intro j _
    rfl
theorem ok_soi {k : Nat} (hR : RfR lo h0 (fun k => xr c (k + 0))) (hlo : X + 108 ≤ lo) (hk : k < 6) (c1 : CS) : okR (encX G X c1 h0) [7] (xr c 3 k) = true := by
  unfold okR
  cases e : xr c 3 k with
  | none => rfl
  | some v =>
    obtain ⟨a, fs, b⟩ := hR.1 k v hk e
    show (match encX G X c1 h0 v with | some (.inr q) => decide (q.1 ∈ [7]) | _ => false) = true
    rw [encX_out (Or.inr (by omega)), b]
    rfl
theorem ok_pli {k : Nat} (hR : RfR lo h0 (fun k => xr c (k + 0))) (hlo : X + 108 ≤ lo) (hk : k < 12) (c1 : CS) : okR (encX G X c1 h0) [1, 2, 3, 4, 6, 8, 10] (xr c 11 k) = true := by
  unfold okR
  cases e : xr c 11 k with
  | none => rfl
  | some v =>
    obtain ⟨a, ci, fs, b1, b2⟩ := hR.2 k v hk e
    show (match encX G X c1 h0 v with | some (.inr q) => decide (q.1 ∈ [1, 2, 3, 4, 6, 8, 10]) | _ => false) = true
    rw [encX_out (Or.inr (by omega)), b2]
    exact decide_eq_true b1
set_option maxRecDepth 100000 in
set_option maxHeartbeats 1000000 in
theorem x_cp87i (hR : RfR lo h0 (fun k => xr c (k + 0))) (hlo : X + 108 ≤ lo) : ∀ (r p m : Nat) (c1 : CS), p + r = 12 → r < m → FrX PCi c c1 → (∀ i, i < 3 → xi c1 (121 + i) = xi c (111 + i)) → (∀ j, j < 120 → xa c1 27 j = xa c 2 j) → (∀ j, j < 6 → xr c1 28 j = xr c 3 j) → (∀ i j, i < 6 → j < 8 → xa c1 (29 + i) j = xa c (4 + i) j) → (∀ j, j < 8 → xa c1 35 j = vp_nar .boolean (xa c 10 j)) → (∀ j, j < p → xr c1 36 j = xr c 11 j) → (∀ j, j < p → xa c1 37 j = xa c 12 j) → (∀ i j, i < p → j < 10 → xa c1 (39 + i) j = xa c (14 + i) j) → ∃ c' : CS, F_X0_copyFrom_87 G m (encX G X c1 h0) nx (X + 26) (X + 1) (nI p) = some ((), encX G X c' h0, nx) ∧ FrX PCi c c' ∧ CpOi c c' := by
  intro r
  induction r with
  | zero =>
    intro p m c1 hp hm f1 a1 a2 a3 a4 a5 a6 a7 a8
    obtain ⟨m, rfl⟩ : ∃ q, m = q + 1 := ⟨m - 1, by omega⟩
    obtain rfl : p = 12 := by omega
    have n1 : xi c1 114 = xi c 114 := f1.i _ (by unfold PCi; omega)
    have n2 : xi c1 115 = xi c 115 := f1.i _ (by unfold PCi; omega)
    have n3 : xi c1 116 = xi c 116 := f1.i _ (by unfold PCi; omega)
    refine ⟨xsi (xsi (xsi c1 124 (xi c 114)) 125 (xi c 115)) 126 (xi c 116), ?_, ((f1.trans (FrX.si (P := PCi) (by unfold PCi; omega)) (fun _ z => z) (fun _ z => z)).trans (FrX.si (P := PCi) (by unfold PCi; omega)) (fun _ z => z) (fun _ z => z)).trans (FrX.si (P := PCi) (by unfold PCi; omega)) (fun _ z => z) (fun _ z => z), fun i hi => ?_, a2, a3, a4, a5, a6, a7, a8⟩
    · rw [F_X0_copyFrom_87_s]
      simp (maxSteps := 3000000) (disch := omega) only [n1, n2, n3, xi_xsi_s, xi_xsi_n, xl_xsi, xa_xsi, xj_xsi, xr_xsi, xsi_xsi, xi_xsl, xl_xsl_s, xl_xsl_n, xa_xsl, xj_xsl, xr_xsl, xsl_xsl, xi_xsa, xl_xsa, xa_xsa_s, xa_xsa_n, xj_xsa, xr_xsa, xsa_xsa, xi_xsj, xl_xsj, xa_xsj, xj_xsj_s, xj_xsj_n, xr_xsj, xsj_xsj, xi_xsr, xl_xsr, xa_xsr, xj_xsr, xr_xsr_s, xr_xsr_n, xsr_xsr, xk_0, xg_0_0, xg_0_1, xg_0_2, xp_0_2, xg_0_3, xg_0_4, xg_0_5, xg_0_6, xk_1, xg_1_0, xg_1_1, xp_1_1, xg_1_2, xg_1_3, xp_1_3, xg_1_4, xg_1_5, xg_1_6, xg_1_7, xg_1_8, xg_1_9, xg_1_10, xg_1_11, xp_1_11, xg_1_12, xg_1_13, xg_1_14, xg_1_15, xp_1_15, xg_1_16, xp_1_16, xg_1_17, xp_1_17, xk_26, xg_26_0, xg_26_1, xp_26_1, xg_26_2, xg_26_3, xp_26_3, xg_26_4, xg_26_5, xg_26_6, xg_26_7, xg_26_8, xg_26_9, xg_26_10, xg_26_11, xp_26_11, xg_26_12, xg_26_13, xg_26_14, xg_26_15, xp_26_15, xg_26_16, xp_26_16, xg_26_17, xp_26_17, xk_51, xg_51_0, xg_51_1, xg_51_2, xg_51_3, xg_51_4, xg_51_5, xg_51_6, xg_51_7, xp_51_7, xg_51_8, xp_51_8, xk_90, xg_90_0, xg_90_1, xg_90_2, xg_90_3, xp_90_3, xg_90_4, xg_90_5, xp_90_5, xg_90_6, xg_90_7, xp_90_7, xg_90_8, xp_90_8, xg_90_9, xp_90_9, xg_90_10, xas_2, xal_2, xal_3, xas_4, xal_4, xln_4, xas_5, xal_5, xln_5, xas_6, xal_6, xln_6, xas_7, xal_7, xln_7, xas_8, xal_8, xln_8, xas_9, xal_9, xln_9, xas0_10, xas1_10, xasb_10, xal_10, xal_11, xas_12, xal_12, xln_12, xas_27, xal_27, xal_28, xas_29, xal_29, xln_29, xas_30, xal_30, xln_30, xas_31, xal_31, xln_31, xas_32, xal_32, xln_32, xas_33, xal_33, xln_33, xas_34, xal_34, xln_34, xas0_35, xas1_35, xasb_35, xal_35, xal_36, xas_37, xal_37, xln_37, xas_88, xal_88, xln_88, xal_89, xas_89, xln_89, xas_103, xal_103, xln_103, xas_104, xal_104, xln_104, xas_105, xal_105, xln_105, xas_106, xal_106, xln_106, xas_107, xal_107, xln_107, xal_13, xal_in14, xas_in14, xln_in14, xal_38, xal_in39, xas_in39, xln_in39, xal_52, xal_in53, xas_in53, xln_in53, xal_61, xal_in62, xas_in62, xln_in62, xal_70, xal_in71, xas_in71, xln_in71, xal_79, xal_in80, xas_in80, xln_in80, xal_91, xal_in92, xas_in92, xln_in92, cl_some, nm_b, nn_some, qn_some, qn_none, zk_0, zk_1, zk_n0, zk_n1, nI_add, pk_mul, pk_sub, nI_leE, nI_ltE, nI_eqE, nI_lt0, nI_ge0, nI_eq0, nI_gt0, nI_le0, ilt_t, ilt_f, ile_t, ile_f, ieq_t, ieq_f, if_tt, if_ff, Nat.add_sub_cancel]
    · rcases (show i < 3 ∨ i = 3 ∨ i = 4 ∨ i = 5 by omega) with q | rfl | rfl | rfl
      · rw [xi_xsi_n (by omega), xi_xsi_n (by omega), xi_xsi_n (by omega)]
        exact a1 i q
      · rw [xi_xsi_n (by omega), xi_xsi_n (by omega)]; exact xi_xsi_s
      · rw [xi_xsi_n (by omega)]; exact xi_xsi_s
      · exact xi_xsi_s
  | succ r ih =>
    intro p m c1 hp hm f1 a1 a2 a3 a4 a5 a6 a7 a8
    obtain ⟨m, rfl⟩ : ∃ q, m = q + 1 := ⟨m - 1, by omega⟩
    have n1 : xr c1 11 = xr c 11 := f1.r _ (by unfold PCi; omega)
    have n2 : xa c1 12 = xa c 12 := f1.a _ (by unfold PCi; omega)
    have n3 : xa c1 (14 + p) = xa c (14 + p) := f1.a _ (by unfold PCi; omega)
    have hr : ∀ {β : Type} {f : Hp → Option β}, asR (g_c G 5) [1, 2, 3, 4, 6, 8, 10] (encX G X c1 h0) (X + 36) (nI p) (xr c 11 p) f = f (encX G X (xsr c1 36 (upK (xr c1 36) p (xr c 11 p))) h0) := fun {β f} => xas_36 (by omega) (ok_pli hR hlo (by omega) c1)
    let c2 : CS := xsa (xsa (xsr c1 36 (upK (xr c1 36) p (xr c 11 p))) 37 (upK (xa c1 37) p (xa c 12 p))) (39 + p) (cv_cpy (xa c (14 + p)) (xa c1 (39 + p)) 0 0 10)
    have y1 : xr c2 36 = upK (xr c1 36) p (xr c 11 p) := xr_xsr_s
    have y2 : xa c2 37 = upK (xa c1 37) p (xa c 12 p) := by
      show xa (xsa _ _ _) 37 = _
      rw [xa_xsa_n (by omega), xa_xsa_s]
    have y3 : xa c2 (39 + p) = cv_cpy (xa c (14 + p)) (xa c1 (39 + p)) 0 0 10 := xa_xsa_s
    have yo : ∀ k, k ≠ 37 → k ≠ 39 + p → xa c2 k = xa c1 k := fun k h1 h2 => by
      show xa (xsa (xsa _ _ _) _ _) k = _
      rw [xa_xsa_n h2, xa_xsa_n h1]; rfl
    obtain ⟨c', r1, r2⟩ := ih (p + 1) m c2 (by omega) (by omega) (((f1.trans (FrX.sr (P := PCi) (by unfold PCi; omega)) (fun _ z => z) (fun _ z => z)).trans (FrX.sa (P := PCi) (by unfold PCi; omega)) (fun _ z => z) (fun _ z => z)).trans (FrX.sa (P := PCi) (by unfold PCi; omega)) (fun _ z => z) (fun _ z => z)) a1 (fun j hj => by rw [yo 27 (by omega) (by omega)]; exact a2 j hj) (fun j hj => by
        have : xr c2 28 = xr c1 28 := xr_xsr_n (by omega)
        rw [this]; exact a3 j hj) (fun i j hi hj => by rw [yo (29 + i) (by omega) (by omega)]; exact a4 i j hi hj) (fun j hj => by rw [yo 35 (by omega) (by omega)]; exact a5 j hj) (fun j hj => by
        rw [y1]
        by_cases e : j = p
        · subst e; exact upK_s
        · rw [upK_n e]; exact a6 j (by omega)) (fun j hj => by
        rw [y2]
        by_cases e : j = p
        · subst e; exact upK_s
        · rw [upK_n e]; exact a7 j (by omega)) (fun i j hi hj => by
        by_cases e : i = p
        · subst e
          rw [y3, cpy_0 hj]
        · rw [yo (39 + i) (by omega) (by omega)]
          exact a8 i j (by omega) hj)
    refine ⟨c', ?_, r2⟩
    rw [F_X0_copyFrom_87_s]
    simp (maxSteps := 3000000) (disch := omega) only [n1, n2, n3, hr, xac_pi, xi_xsi_s, xi_xsi_n, xl_xsi, xa_xsi, xj_xsi, xr_xsi, xsi_xsi, xi_xsl, xl_xsl_s, xl_xsl_n, xa_xsl, xj_xsl, xr_xsl, xsl_xsl, xi_xsa, xl_xsa, xa_xsa_s, xa_xsa_n, xj_xsa, xr_xsa, xsa_xsa, xi_xsj, xl_xsj, xa_xsj, xj_xsj_s, xj_xsj_n, xr_xsj, xsj_xsj, xi_xsr, xl_xsr, xa_xsr, xj_xsr, xr_xsr_s, xr_xsr_n, xsr_xsr, xk_0, xg_0_0, xg_0_1, xg_0_2, xp_0_2, xg_0_3, xg_0_4, xg_0_5, xg_0_6, xk_1, xg_1_0, xg_1_1, xp_1_1, xg_1_2, xg_1_3, xp_1_3, xg_1_4, xg_1_5, xg_1_6, xg_1_7, xg_1_8, xg_1_9, xg_1_10, xg_1_11, xp_1_11, xg_1_12, xg_1_13, xg_1_14, xg_1_15, xp_1_15, xg_1_16, xp_1_16, xg_1_17, xp_1_17, xk_26, xg_26_0, xg_26_1, xp_26_1, xg_26_2, xg_26_3, xp_26_3, xg_26_4, xg_26_5, xg_26_6, xg_26_7, xg_26_8, xg_26_9, xg_26_10, xg_26_11, xp_26_11, xg_26_12, xg_26_13, xg_26_14, xg_26_15, xp_26_15, xg_26_16, xp_26_16, xg_26_17, xp_26_17, xk_51, xg_51_0, xg_51_1, xg_51_2, xg_51_3, xg_51_4, xg_51_5, xg_51_6, xg_51_7, xp_51_7, xg_51_8, xp_51_8, xk_90, xg_90_0, xg_90_1, xg_90_2, xg_90_3, xp_90_3, xg_90_4, xg_90_5, xp_90_5, xg_90_6, xg_90_7, xp_90_7, xg_90_8, xp_90_8, xg_90_9, xp_90_9, xg_90_10, xas_2, xal_2, xal_3, xas_4, xal_4, xln_4, xas_5, xal_5, xln_5, xas_6, xal_6, xln_6, xas_7, xal_7, xln_7, xas_8, xal_8, xln_8, xas_9, xal_9, xln_9, xas0_10, xas1_10, xasb_10, xal_10, xal_11, xas_12, xal_12, xln_12, xas_27, xal_27, xal_28, xas_29, xal_29, xln_29, xas_30, xal_30, xln_30, xas_31, xal_31, xln_31, xas_32, xal_32, xln_32, xas_33, xal_33, xln_33, xas_34, xal_34, xln_34, xas0_35, xas1_35, xasb_35, xal_35, xal_36, xas_37, xal_37, xln_37, xas_88, xal_88, xln_88, xal_89, xas_89, xln_89, xas_103, xal_103, xln_103, xas_104, xal_104, xln_104, xas_105, xal_105, xln_105, xas_106, xal_106, xln_106, xas_107, xal_107, xln_107, xal_13, xal_in14, xas_in14, xln_in14, xal_38, xal_in39, xas_in39, xln_in39, xal_52, xal_in53, xas_in53, xln_in53, xal_61, xal_in62, xas_in62, xln_in62, xal_70, xal_in71, xas_in71, xln_in71, xal_79, xal_in80, xas_in80, xln_in80, xal_91, xal_in92, xas_in92, xln_in92, cl_some, nm_b, nn_some, qn_some, qn_none, zk_0, zk_1, zk_n0, zk_n1, nI_add, pk_mul, pk_sub, nI_leE, nI_ltE, nI_eqE, nI_lt0, nI_ge0, nI_eq0, nI_gt0, nI_le0, ilt_t, ilt_f, ile_t, ile_f, ieq_t, ieq_f, if_tt, if_ff, Nat.add_sub_cancel]
    exact r1
set_option maxRecDepth 100000 in
set_option maxHeartbeats 1000000 in
theorem x_cp59i (hR : RfR lo h0 (fun k => xr c (k + 0))) (hlo : X + 108 ≤ lo) : ∀ (r p m : Nat) (c1 : CS), p + r = 8 → r < m → FrX PCi c c1 → (∀ i, i < 2 → xi c1 (121 + i) = xi c (111 + i)) → (∀ j, j < 120 → xa c1 27 j = xa c 2 j) → (∀ j, j < 6 → xr c1 28 j = xr c 3 j) → (∀ i j, i < 6 → j < p → xa c1 (29 + i) j = xa c (4 + i) j) → (∀ j, j < p → xa c1 35 j = vp_nar .boolean (xa c 10 j)) → ∃ c' : CS, F_X0_copyFrom_59 G m (encX G X c1 h0) nx (X + 26) (X + 1) (nI p) = some ((), encX G X c' h0, nx) ∧ FrX PCi c c' ∧ CpOi c c' := by
  intro r
  induction r with
  | zero =>
    intro p m c1 hp hm f1 a1 a2 a3 a4 a5
    obtain ⟨m, rfl⟩ : ∃ q, m = q + 1 := ⟨m - 1, by omega⟩
    obtain rfl : p = 8 := by omega
    have n1 : xi c1 113 = xi c 113 := f1.i _ (by unfold PCi; omega)
    obtain ⟨c', r1, r2⟩ := x_cp87i (nx := nx) hR hlo 12 0 fuelL (xsi c1 123 (xi c 113)) (by omega) (by unfold fuelL; omega) (f1.trans (FrX.si (P := PCi) (by unfold PCi; omega)) (fun _ z => z) (fun _ z => z)) (fun i hi => by
      rcases (show i < 2 ∨ i = 2 by omega) with q | rfl
      · rw [xi_xsi_n (by omega)]; exact a1 i q
      · exact xi_xsi_s) a2 a3 a4 a5 (fun j hj => absurd hj (by omega)) (fun j hj => absurd hj (by omega)) (fun i j hi => absurd hi (by omega))
    refine ⟨c', ?_, r2⟩
    rw [F_X0_copyFrom_59_s]
    simp (maxSteps := 3000000) (disch := omega) only [n1, xi_xsi_s, xi_xsi_n, xl_xsi, xa_xsi, xj_xsi, xr_xsi, xsi_xsi, xi_xsl, xl_xsl_s, xl_xsl_n, xa_xsl, xj_xsl, xr_xsl, xsl_xsl, xi_xsa, xl_xsa, xa_xsa_s, xa_xsa_n, xj_xsa, xr_xsa, xsa_xsa, xi_xsj, xl_xsj, xa_xsj, xj_xsj_s, xj_xsj_n, xr_xsj, xsj_xsj, xi_xsr, xl_xsr, xa_xsr, xj_xsr, xr_xsr_s, xr_xsr_n, xsr_xsr, xk_0, xg_0_0, xg_0_1, xg_0_2, xp_0_2, xg_0_3, xg_0_4, xg_0_5, xg_0_6, xk_1, xg_1_0, xg_1_1, xp_1_1, xg_1_2, xg_1_3, xp_1_3, xg_1_4, xg_1_5, xg_1_6, xg_1_7, xg_1_8, xg_1_9, xg_1_10, xg_1_11, xp_1_11, xg_1_12, xg_1_13, xg_1_14, xg_1_15, xp_1_15, xg_1_16, xp_1_16, xg_1_17, xp_1_17, xk_26, xg_26_0, xg_26_1, xp_26_1, xg_26_2, xg_26_3, xp_26_3, xg_26_4, xg_26_5, xg_26_6, xg_26_7, xg_26_8, xg_26_9, xg_26_10, xg_26_11, xp_26_11, xg_26_12, xg_26_13, xg_26_14, xg_26_15, xp_26_15, xg_26_16, xp_26_16, xg_26_17, xp_26_17, xk_51, xg_51_0, xg_51_1, xg_51_2, xg_51_3, xg_51_4, xg_51_5, xg_51_6, xg_51_7, xp_51_7, xg_51_8, xp_51_8, xk_90, xg_90_0, xg_90_1, xg_90_2, xg_90_3, xp_90_3, xg_90_4, xg_90_5, xp_90_5, xg_90_6, xg_90_7, xp_90_7, xg_90_8, xp_90_8, xg_90_9, xp_90_9, xg_90_10, xas_2, xal_2, xal_3, xas_4, xal_4, xln_4, xas_5, xal_5, xln_5, xas_6, xal_6, xln_6, xas_7, xal_7, xln_7, xas_8, xal_8, xln_8, xas_9, xal_9, xln_9, xas0_10, xas1_10, xasb_10, xal_10, xal_11, xas_12, xal_12, xln_12, xas_27, xal_27, xal_28, xas_29, xal_29, xln_29, xas_30, xal_30, xln_30, xas_31, xal_31, xln_31, xas_32, xal_32, xln_32, xas_33, xal_33, xln_33, xas_34, xal_34, xln_34, xas0_35, xas1_35, xasb_35, xal_35, xal_36, xas_37, xal_37, xln_37, xas_88, xal_88, xln_88, xal_89, xas_89, xln_89, xas_103, xal_103, xln_103, xas_104, xal_104, xln_104, xas_105, xal_105, xln_105, xas_106, xal_106, xln_106, xas_107, xal_107, xln_107, xal_13, xal_in14, xas_in14, xln_in14, xal_38, xal_in39, xas_in39, xln_in39, xal_52, xal_in53, xas_in53, xln_in53, xal_61, xal_in62, xas_in62, xln_in62, xal_70, xal_in71, xas_in71, xln_in71, xal_79, xal_in80, xas_in80, xln_in80, xal_91, xal_in92, xas_in92, xln_in92, cl_some, nm_b, nn_some, qn_some, qn_none, zk_0, zk_1, zk_n0, zk_n1, nI_add, pk_mul, pk_sub, nI_leE, nI_ltE, nI_eqE, nI_lt0, nI_ge0, nI_eq0, nI_gt0, nI_le0, ilt_t, ilt_f, ile_t, ile_f, ieq_t, ieq_f, if_tt, if_ff, Nat.add_sub_cancel]
    exact r1
  | succ r ih =>
    intro p m c1 hp hm f1 a1 a2 a3 a4 a5
    obtain ⟨m, rfl⟩ : ∃ q, m = q + 1 := ⟨m - 1, by omega⟩
    have n0 : xa c1 4 = xa c 4 := f1.a _ (by unfold PCi; omega)
    have n1 : xa c1 5 = xa c 5 := f1.a _ (by unfold PCi; omega)
    have n2 : xa c1 6 = xa c 6 := f1.a _ (by unfold PCi; omega)
    have n3 : xa c1 7 = xa c 7 := f1.a _ (by unfold PCi; omega)
    have n4 : xa c1 8 = xa c 8 := f1.a _ (by unfold PCi; omega)
    have n5 : xa c1 9 = xa c 9 := f1.a _ (by unfold PCi; omega)
    have n6 : xa c1 10 = xa c 10 := f1.a _ (by unfold PCi; omega)
    let c2 : CS := xsa (xsa (xsa (xsa (xsa (xsa (xsa c1 29 (upK (xa c1 29) p (xa c 4 p))) 30 (upK (xa c1 30) p (xa c 5 p))) 31 (upK (xa c1 31) p (xa c 6 p))) 32 (upK (xa c1 32) p (xa c 7 p))) 33 (upK (xa c1 33) p (xa c 8 p))) 34 (upK (xa c1 34) p (xa c 9 p))) 35 (upK (xa c1 35) p (vp_nar .boolean (xa c 10 p)))
    have e1 : F_X0_copyThing G (encX G X c1 h0) nx (X + 26) (X + 1) (nI p) = some ((), encX G X c2 h0, nx) := by
      unfold F_X0_copyThing
      simp (maxSteps := 3000000) (disch := omega) only [n0, n1, n2, n3, n4, n5, n6, xas_bzi, xi_xsi_s, xi_xsi_n, xl_xsi, xa_xsi, xj_xsi, xr_xsi, xsi_xsi, xi_xsl, xl_xsl_s, xl_xsl_n, xa_xsl, xj_xsl, xr_xsl, xsl_xsl, xi_xsa, xl_xsa, xa_xsa_s, xa_xsa_n, xj_xsa, xr_xsa, xsa_xsa, xi_xsj, xl_xsj, xa_xsj, xj_xsj_s, xj_xsj_n, xr_xsj, xsj_xsj, xi_xsr, xl_xsr, xa_xsr, xj_xsr, xr_xsr_s, xr_xsr_n, xsr_xsr, xk_0, xg_0_0, xg_0_1, xg_0_2, xp_0_2, xg_0_3, xg_0_4, xg_0_5, xg_0_6, xk_1, xg_1_0, xg_1_1, xp_1_1, xg_1_2, xg_1_3, xp_1_3, xg_1_4, xg_1_5, xg_1_6, xg_1_7, xg_1_8, xg_1_9, xg_1_10, xg_1_11, xp_1_11, xg_1_12, xg_1_13, xg_1_14, xg_1_15, xp_1_15, xg_1_16, xp_1_16, xg_1_17, xp_1_17, xk_26, xg_26_0, xg_26_1, xp_26_1, xg_26_2, xg_26_3, xp_26_3, xg_26_4, xg_26_5, xg_26_6, xg_26_7, xg_26_8, xg_26_9, xg_26_10, xg_26_11, xp_26_11, xg_26_12, xg_26_13, xg_26_14, xg_26_15, xp_26_15, xg_26_16, xp_26_16, xg_26_17, xp_26_17, xk_51, xg_51_0, xg_51_1, xg_51_2, xg_51_3, xg_51_4, xg_51_5, xg_51_6, xg_51_7, xp_51_7, xg_51_8, xp_51_8, xk_90, xg_90_0, xg_90_1, xg_90_2, xg_90_3, xp_90_3, xg_90_4, xg_90_5, xp_90_5, xg_90_6, xg_90_7, xp_90_7, xg_90_8, xp_90_8, xg_90_9, xp_90_9, xg_90_10, xas_2, xal_2, xal_3, xas_4, xal_4, xln_4, xas_5, xal_5, xln_5, xas_6, xal_6, xln_6, xas_7, xal_7, xln_7, xas_8, xal_8, xln_8, xas_9, xal_9, xln_9, xas0_10, xas1_10, xasb_10, xal_10, xal_11, xas_12, xal_12, xln_12, xas_27, xal_27, xal_28, xas_29, xal_29, xln_29, xas_30, xal_30, xln_30, xas_31, xal_31, xln_31, xas_32, xal_32, xln_32, xas_33, xal_33, xln_33, xas_34, xal_34, xln_34, xas0_35, xas1_35, xasb_35, xal_35, xal_36, xas_37, xal_37, xln_37, xas_88, xal_88, xln_88, xal_89, xas_89, xln_89, xas_103, xal_103, xln_103, xas_104, xal_104, xln_104, xas_105, xal_105, xln_105, xas_106, xal_106, xln_106, xas_107, xal_107, xln_107, xal_13, xal_in14, xas_in14, xln_in14, xal_38, xal_in39, xas_in39, xln_in39, xal_52, xal_in53, xas_in53, xln_in53, xal_61, xal_in62, xas_in62, xln_in62, xal_70, xal_in71, xas_in71, xln_in71, xal_79, xal_in80, xas_in80, xln_in80, xal_91, xal_in92, xas_in92, xln_in92, cl_some, nm_b, nn_some, qn_some, qn_none, zk_0, zk_1, zk_n0, zk_n1, nI_add, pk_mul, pk_sub, nI_leE, nI_ltE, nI_eqE, nI_lt0, nI_ge0, nI_eq0, nI_gt0, nI_le0, ilt_t, ilt_f, ile_t, ile_f, ieq_t, ieq_f, if_tt, if_ff, Nat.add_sub_cancel]
      rfl
    have yo : ∀ k, (k < 29 ∨ 35 < k) → xa c2 k = xa c1 k := fun k hk => by simp (disch := omega) only [c2, xa_xsa_n]
    have y9 : xa c2 35 = upK (xa c1 35) p (vp_nar .boolean (xa c 10 p)) := xa_xsa_s
    have yi : ∀ i, i < 6 → xa c2 (29 + i) = upK (xa c1 (29 + i)) p (xa c (4 + i) p) := fun i hi => by
      rcases (show i = 0 ∨ i = 1 ∨ i = 2 ∨ i = 3 ∨ i = 4 ∨ i = 5 by omega) with rfl | rfl | rfl | rfl | rfl | rfl <;> simp (disch := omega) only [c2, xa_xsa_n, xa_xsa_s]
    have g : ∀ k, (29 ≤ k ∧ k ≤ 35) → PCi k := fun k hk => by unfold PCi; omega
    have f2 : FrX PCi c1 c2 := ((((((FrX.sa (P := PCi) (g _ (by omega))).trans (FrX.sa (P := PCi) (g _ (by omega))) (fun _ z => z) (fun _ z => z)).trans (FrX.sa (P := PCi) (g _ (by omega))) (fun _ z => z) (fun _ z => z)).trans (FrX.sa (P := PCi) (g _ (by omega))) (fun _ z => z) (fun _ z => z)).trans (FrX.sa (P := PCi) (g _ (by omega))) (fun _ z => z) (fun _ z => z)).trans (FrX.sa (P := PCi) (g _ (by omega))) (fun _ z => z) (fun _ z => z)).trans (FrX.sa (P := PCi) (g _ (by omega))) (fun _ z => z) (fun _ z => z)
    obtain ⟨c', r1, r2⟩ := ih (p + 1) m c2 (by omega) (by omega) (f1.trans f2 (fun _ z => z) (fun _ z => z)) a1 (fun j hj => by rw [yo 27 (by omega)]; exact a2 j hj) a3 (fun i j hi hj => by
      rw [yi i hi]
      by_cases e : j = p
      · subst e; exact upK_s
      · rw [upK_n e]; exact a4 i j hi (by omega)) (fun j hj => by
      rw [y9]
      by_cases e : j = p
      · subst e; exact upK_s
      · rw [upK_n e]; exact a5 j (by omega))
    refine ⟨c', ?_, r2⟩
    rw [F_X0_copyFrom_59_s]
    simp (maxSteps := 3000000) (disch := omega) only [e1, xi_xsi_s, xi_xsi_n, xl_xsi, xa_xsi, xj_xsi, xr_xsi, xsi_xsi, xi_xsl, xl_xsl_s, xl_xsl_n, xa_xsl, xj_xsl, xr_xsl, xsl_xsl, xi_xsa, xl_xsa, xa_xsa_s, xa_xsa_n, xj_xsa, xr_xsa, xsa_xsa, xi_xsj, xl_xsj, xa_xsj, xj_xsj_s, xj_xsj_n, xr_xsj, xsj_xsj, xi_xsr, xl_xsr, xa_xsr, xj_xsr, xr_xsr_s, xr_xsr_n, xsr_xsr, xk_0, xg_0_0, xg_0_1, xg_0_2, xp_0_2, xg_0_3, xg_0_4, xg_0_5, xg_0_6, xk_1, xg_1_0, xg_1_1, xp_1_1, xg_1_2, xg_1_3, xp_1_3, xg_1_4, xg_1_5, xg_1_6, xg_1_7, xg_1_8, xg_1_9, xg_1_10, xg_1_11, xp_1_11, xg_1_12, xg_1_13, xg_1_14, xg_1_15, xp_1_15, xg_1_16, xp_1_16, xg_1_17, xp_1_17, xk_26, xg_26_0, xg_26_1, xp_26_1, xg_26_2, xg_26_3, xp_26_3, xg_26_4, xg_26_5, xg_26_6, xg_26_7, xg_26_8, xg_26_9, xg_26_10, xg_26_11, xp_26_11, xg_26_12, xg_26_13, xg_26_14, xg_26_15, xp_26_15, xg_26_16, xp_26_16, xg_26_17, xp_26_17, xk_51, xg_51_0, xg_51_1, xg_51_2, xg_51_3, xg_51_4, xg_51_5, xg_51_6, xg_51_7, xp_51_7, xg_51_8, xp_51_8, xk_90, xg_90_0, xg_90_1, xg_90_2, xg_90_3, xp_90_3, xg_90_4, xg_90_5, xp_90_5, xg_90_6, xg_90_7, xp_90_7, xg_90_8, xp_90_8, xg_90_9, xp_90_9, xg_90_10, xas_2, xal_2, xal_3, xas_4, xal_4, xln_4, xas_5, xal_5, xln_5, xas_6, xal_6, xln_6, xas_7, xal_7, xln_7, xas_8, xal_8, xln_8, xas_9, xal_9, xln_9, xas0_10, xas1_10, xasb_10, xal_10, xal_11, xas_12, xal_12, xln_12, xas_27, xal_27, xal_28, xas_29, xal_29, xln_29, xas_30, xal_30, xln_30, xas_31, xal_31, xln_31, xas_32, xal_32, xln_32, xas_33, xal_33, xln_33, xas_34, xal_34, xln_34, xas0_35, xas1_35, xasb_35, xal_35, xal_36, xas_37, xal_37, xln_37, xas_88, xal_88, xln_88, xal_89, xas_89, xln_89, xas_103, xal_103, xln_103, xas_104, xal_104, xln_104, xas_105, xal_105, xln_105, xas_106, xal_106, xln_106, xas_107, xal_107, xln_107, xal_13, xal_in14, xas_in14, xln_in14, xal_38, xal_in39, xas_in39, xln_in39, xal_52, xal_in53, xas_in53, xln_in53, xal_61, xal_in62, xas_in62, xln_in62, xal_70, xal_in71, xas_in71, xln_in71, xal_79, xal_in80, xas_in80, xln_in80, xal_91, xal_in92, xas_in92, xln_in92, cl_some, nm_b, nn_some, qn_some, qn_none, zk_0, zk_1, zk_n0, zk_n1, nI_add, pk_mul, pk_sub, nI_leE, nI_ltE, nI_eqE, nI_lt0, nI_ge0, nI_eq0, nI_gt0, nI_le0, ilt_t, ilt_f, ile_t, ile_f, ieq_t, ieq_f, if_tt, if_ff, Nat.add_sub_cancel]
    exact r1
set_option maxRecDepth 100000 in
set_option maxHeartbeats 1000000 in
theorem x_cp25i (hR : RfR lo h0 (fun k => xr c (k + 0))) (hlo : X + 108 ≤ lo) : ∀ (r p m : Nat) (c1 : CS), p + r = 6 → r < m → FrX PCi c c1 → (∀ i, i < 1 → xi c1 (121 + i) = xi c (111 + i)) → (∀ j, j < 120 → xa c1 27 j = xa c 2 j) → (∀ j, j < p → xr c1 28 j = xr c 3 j) → ∃ c' : CS, F_X0_copyFrom_25 G m (encX G X c1 h0) nx (X + 26) (X + 1) (nI p) = some ((), encX G X c' h0, nx) ∧ FrX PCi c c' ∧ CpOi c c' := by
  intro r
  induction r with
  | zero =>
    intro p m c1 hp hm f1 a1 a2 a3
    obtain ⟨m, rfl⟩ : ∃ q, m = q + 1 := ⟨m - 1, by omega⟩
    obtain rfl : p = 6 := by omega
    have n1 : xi c1 112 = xi c 112 := f1.i _ (by unfold PCi; omega)
    obtain ⟨c', r1, r2⟩ := x_cp59i (nx := nx) hR hlo 8 0 fuelL (xsi c1 122 (xi c 112)) (by omega) (by unfold fuelL; omega) (f1.trans (FrX.si (P := PCi) (by unfold PCi; omega)) (fun _ z => z) (fun _ z => z)) (fun i hi => by
      rcases (show i < 1 ∨ i = 1 by omega) with q | rfl
      · rw [xi_xsi_n (by omega)]; exact a1 i q
      · exact xi_xsi_s) a2 a3 (fun i j hi hj => absurd hj (by omega)) (fun j hj => absurd hj (by omega))
    refine ⟨c', ?_, r2⟩
    rw [F_X0_copyFrom_25_s]
    simp (maxSteps := 3000000) (disch := omega) only [n1, xi_xsi_s, xi_xsi_n, xl_xsi, xa_xsi, xj_xsi, xr_xsi, xsi_xsi, xi_xsl, xl_xsl_s, xl_xsl_n, xa_xsl, xj_xsl, xr_xsl, xsl_xsl, xi_xsa, xl_xsa, xa_xsa_s, xa_xsa_n, xj_xsa, xr_xsa, xsa_xsa, xi_xsj, xl_xsj, xa_xsj, xj_xsj_s, xj_xsj_n, xr_xsj, xsj_xsj, xi_xsr, xl_xsr, xa_xsr, xj_xsr, xr_xsr_s, xr_xsr_n, xsr_xsr, xk_0, xg_0_0, xg_0_1, xg_0_2, xp_0_2, xg_0_3, xg_0_4, xg_0_5, xg_0_6, xk_1, xg_1_0, xg_1_1, xp_1_1, xg_1_2, xg_1_3, xp_1_3, xg_1_4, xg_1_5, xg_1_6, xg_1_7, xg_1_8, xg_1_9, xg_1_10, xg_1_11, xp_1_11, xg_1_12, xg_1_13, xg_1_14, xg_1_15, xp_1_15, xg_1_16, xp_1_16, xg_1_17, xp_1_17, xk_26, xg_26_0, xg_26_1, xp_26_1, xg_26_2, xg_26_3, xp_26_3, xg_26_4, xg_26_5, xg_26_6, xg_26_7, xg_26_8, xg_26_9, xg_26_10, xg_26_11, xp_26_11, xg_26_12, xg_26_13, xg_26_14, xg_26_15, xp_26_15, xg_26_16, xp_26_16, xg_26_17, xp_26_17, xk_51, xg_51_0, xg_51_1, xg_51_2, xg_51_3, xg_51_4, xg_51_5, xg_51_6, xg_51_7, xp_51_7, xg_51_8, xp_51_8, xk_90, xg_90_0, xg_90_1, xg_90_2, xg_90_3, xp_90_3, xg_90_4, xg_90_5, xp_90_5, xg_90_6, xg_90_7, xp_90_7, xg_90_8, xp_90_8, xg_90_9, xp_90_9, xg_90_10, xas_2, xal_2, xal_3, xas_4, xal_4, xln_4, xas_5, xal_5, xln_5, xas_6, xal_6, xln_6, xas_7, xal_7, xln_7, xas_8, xal_8, xln_8, xas_9, xal_9, xln_9, xas0_10, xas1_10, xasb_10, xal_10, xal_11, xas_12, xal_12, xln_12, xas_27, xal_27, xal_28, xas_29, xal_29, xln_29, xas_30, xal_30, xln_30, xas_31, xal_31, xln_31, xas_32, xal_32, xln_32, xas_33, xal_33, xln_33, xas_34, xal_34, xln_34, xas0_35, xas1_35, xasb_35, xal_35, xal_36, xas_37, xal_37, xln_37, xas_88, xal_88, xln_88, xal_89, xas_89, xln_89, xas_103, xal_103, xln_103, xas_104, xal_104, xln_104, xas_105, xal_105, xln_105, xas_106, xal_106, xln_106, xas_107, xal_107, xln_107, xal_13, xal_in14, xas_in14, xln_in14, xal_38, xal_in39, xas_in39, xln_in39, xal_52, xal_in53, xas_in53, xln_in53, xal_61, xal_in62, xas_in62, xln_in62, xal_70, xal_in71, xas_in71, xln_in71, xal_79, xal_in80, xas_in80, xln_in80, xal_91, xal_in92, xas_in92, xln_in92, cl_some, nm_b, nn_some, qn_some, qn_none, zk_0, zk_1, zk_n0, zk_n1, nI_add, pk_mul, pk_sub, nI_leE, nI_ltE, nI_eqE, nI_lt0, nI_ge0, nI_eq0, nI_gt0, nI_le0, ilt_t, ilt_f, ile_t, ile_f, ieq_t, ieq_f, if_tt, if_ff, Nat.add_sub_cancel]
    exact r1
  | succ r ih =>
    intro p m c1 hp hm f1 a1 a2 a3
    obtain ⟨m, rfl⟩ : ∃ q, m = q + 1 := ⟨m - 1, by omega⟩
    have n1 : xr c1 3 = xr c 3 := f1.r _ (by unfold PCi; omega)
    have hr : ∀ {β : Type} {f : Hp → Option β}, asR (g_c G 4) [7] (encX G X c1 h0) (X + 28) (nI p) (xr c 3 p) f = f (encX G X (xsr c1 28 (upK (xr c1 28) p (xr c 3 p))) h0) := fun {β f} => xas_28 (by omega) (ok_soi hR hlo (by omega) c1)
    obtain ⟨c', r1, r2⟩ := ih (p + 1) m (xsr c1 28 (upK (xr c1 28) p (xr c 3 p))) (by omega) (by omega) (f1.trans (FrX.sr (P := PCi) (by unfold PCi; omega)) (fun _ z => z) (fun _ z => z)) a1 a2 (fun j hj => by
      rw [xr_xsr_s]
      by_cases e : j = p
      · subst e; exact upK_s
      · rw [upK_n e]; exact a3 j (by omega))
    refine ⟨c', ?_, r2⟩
    rw [F_X0_copyFrom_25_s]
    simp (maxSteps := 3000000) (disch := omega) only [n1, hr, xi_xsi_s, xi_xsi_n, xl_xsi, xa_xsi, xj_xsi, xr_xsi, xsi_xsi, xi_xsl, xl_xsl_s, xl_xsl_n, xa_xsl, xj_xsl, xr_xsl, xsl_xsl, xi_xsa, xl_xsa, xa_xsa_s, xa_xsa_n, xj_xsa, xr_xsa, xsa_xsa, xi_xsj, xl_xsj, xa_xsj, xj_xsj_s, xj_xsj_n, xr_xsj, xsj_xsj, xi_xsr, xl_xsr, xa_xsr, xj_xsr, xr_xsr_s, xr_xsr_n, xsr_xsr, xk_0, xg_0_0, xg_0_1, xg_0_2, xp_0_2, xg_0_3, xg_0_4, xg_0_5, xg_0_6, xk_1, xg_1_0, xg_1_1, xp_1_1, xg_1_2, xg_1_3, xp_1_3, xg_1_4, xg_1_5, xg_1_6, xg_1_7, xg_1_8, xg_1_9, xg_1_10, xg_1_11, xp_1_11, xg_1_12, xg_1_13, xg_1_14, xg_1_15, xp_1_15, xg_1_16, xp_1_16, xg_1_17, xp_1_17, xk_26, xg_26_0, xg_26_1, xp_26_1, xg_26_2, xg_26_3, xp_26_3, xg_26_4, xg_26_5, xg_26_6, xg_26_7, xg_26_8, xg_26_9, xg_26_10, xg_26_11, xp_26_11, xg_26_12, xg_26_13, xg_26_14, xg_26_15, xp_26_15, xg_26_16, xp_26_16, xg_26_17, xp_26_17, xk_51, xg_51_0, xg_51_1, xg_51_2, xg_51_3, xg_51_4, xg_51_5, xg_51_6, xg_51_7, xp_51_7, xg_51_8, xp_51_8, xk_90, xg_90_0, xg_90_1, xg_90_2, xg_90_3, xp_90_3, xg_90_4, xg_90_5, xp_90_5, xg_90_6, xg_90_7, xp_90_7, xg_90_8, xp_90_8, xg_90_9, xp_90_9, xg_90_10, xas_2, xal_2, xal_3, xas_4, xal_4, xln_4, xas_5, xal_5, xln_5, xas_6, xal_6, xln_6, xas_7, xal_7, xln_7, xas_8, xal_8, xln_8, xas_9, xal_9, xln_9, xas0_10, xas1_10, xasb_10, xal_10, xal_11, xas_12, xal_12, xln_12, xas_27, xal_27, xal_28, xas_29, xal_29, xln_29, xas_30, xal_30, xln_30, xas_31, xal_31, xln_31, xas_32, xal_32, xln_32, xas_33, xal_33, xln_33, xas_34, xal_34, xln_34, xas0_35, xas1_35, xasb_35, xal_35, xal_36, xas_37, xal_37, xln_37, xas_88, xal_88, xln_88, xal_89, xas_89, xln_89, xas_103, xal_103, xln_103, xas_104, xal_104, xln_104, xas_105, xal_105, xln_105, xas_106, xal_106, xln_106, xas_107, xal_107, xln_107, xal_13, xal_in14, xas_in14, xln_in14, xal_38, xal_in39, xas_in39, xln_in39, xal_52, xal_in53, xas_in53, xln_in53, xal_61, xal_in62, xas_in62, xln_in62, xal_70, xal_in71, xas_in71, xln_in71, xal_79, xal_in80, xas_in80, xln_in80, xal_91, xal_in92, xas_in92, xln_in92, cl_some, nm_b, nn_some, qn_some, qn_none, zk_0, zk_1, zk_n0, zk_n1, nI_add, pk_mul, pk_sub, nI_leE, nI_ltE, nI_eqE, nI_lt0, nI_ge0, nI_eq0, nI_gt0, nI_le0, ilt_t, ilt_f, ile_t, ile_f, ieq_t, ieq_f, if_tt, if_ff, Nat.add_sub_cancel]
    exact r1
theorem x_copyi (hR : RfR lo h0 (fun k => xr c (k + 0))) (hlo : X + 108 ≤ lo) (hb : ∀ j, j < 120 → fits .byte (.int (xa c 2 j)) = true) : ∃ c' : CS, F_X0_copyFrom G (encX G X c h0) nx (X + 26) (X + 1) = some ((), encX G X c' h0, nx) ∧ FrX PCi c c' ∧ CpOi c c' := by
  obtain ⟨c', r1, r2⟩ := x_cp25i (nx := nx) hR hlo 6 0 fuelL (xsi (xsa c 27 (cv_cpy (xa c 2) (xa c 27) 0 0 120)) 121 (xi c 111)) (by omega) (by unfold fuelL; omega) ((FrX.sa (P := PCi) (by unfold PCi; omega)).trans (FrX.si (P := PCi) (by unfold PCi; omega)) (fun _ z => z) (fun _ z => z)) (fun i hi => by
    obtain rfl : i = 0 := by omega
    exact xi_xsi_s) (fun j hj => by
    rw [xa_xsi, xa_xsa_s, cpy_0 hj]) (fun j hj => absurd hj (by omega))
  have ea : ∀ {β : Type} {f : Hp → Option β}, acI (g_c G 2) .byte (encX G X c h0) (X + 2) (nI 0) (X + 27) (nI 0) (nI 120) f = f (encX G X (xsa c 27 (cv_cpy (xa c 2) (xa c 27) 0 0 120)) h0) := xac_ti hb
  refine ⟨c', ?_, r2⟩
  unfold F_X0_copyFrom
  simp (maxSteps := 3000000) (disch := omega) only [ea, xi_xsi_s, xi_xsi_n, xl_xsi, xa_xsi, xj_xsi, xr_xsi, xsi_xsi, xi_xsl, xl_xsl_s, xl_xsl_n, xa_xsl, xj_xsl, xr_xsl, xsl_xsl, xi_xsa, xl_xsa, xa_xsa_s, xa_xsa_n, xj_xsa, xr_xsa, xsa_xsa, xi_xsj, xl_xsj, xa_xsj, xj_xsj_s, xj_xsj_n, xr_xsj, xsj_xsj, xi_xsr, xl_xsr, xa_xsr, xj_xsr, xr_xsr_s, xr_xsr_n, xsr_xsr, xk_0, xg_0_0, xg_0_1, xg_0_2, xp_0_2, xg_0_3, xg_0_4, xg_0_5, xg_0_6, xk_1, xg_1_0, xg_1_1, xp_1_1, xg_1_2, xg_1_3, xp_1_3, xg_1_4, xg_1_5, xg_1_6, xg_1_7, xg_1_8, xg_1_9, xg_1_10, xg_1_11, xp_1_11, xg_1_12, xg_1_13, xg_1_14, xg_1_15, xp_1_15, xg_1_16, xp_1_16, xg_1_17, xp_1_17, xk_26, xg_26_0, xg_26_1, xp_26_1, xg_26_2, xg_26_3, xp_26_3, xg_26_4, xg_26_5, xg_26_6, xg_26_7, xg_26_8, xg_26_9, xg_26_10, xg_26_11, xp_26_11, xg_26_12, xg_26_13, xg_26_14, xg_26_15, xp_26_15, xg_26_16, xp_26_16, xg_26_17, xp_26_17, xk_51, xg_51_0, xg_51_1, xg_51_2, xg_51_3, xg_51_4, xg_51_5, xg_51_6, xg_51_7, xp_51_7, xg_51_8, xp_51_8, xk_90, xg_90_0, xg_90_1, xg_90_2, xg_90_3, xp_90_3, xg_90_4, xg_90_5, xp_90_5, xg_90_6, xg_90_7, xp_90_7, xg_90_8, xp_90_8, xg_90_9, xp_90_9, xg_90_10, xas_2, xal_2, xal_3, xas_4, xal_4, xln_4, xas_5, xal_5, xln_5, xas_6, xal_6, xln_6, xas_7, xal_7, xln_7, xas_8, xal_8, xln_8, xas_9, xal_9, xln_9, xas0_10, xas1_10, xasb_10, xal_10, xal_11, xas_12, xal_12, xln_12, xas_27, xal_27, xal_28, xas_29, xal_29, xln_29, xas_30, xal_30, xln_30, xas_31, xal_31, xln_31, xas_32, xal_32, xln_32, xas_33, xal_33, xln_33, xas_34, xal_34, xln_34, xas0_35, xas1_35, xasb_35, xal_35, xal_36, xas_37, xal_37, xln_37, xas_88, xal_88, xln_88, xal_89, xas_89, xln_89, xas_103, xal_103, xln_103, xas_104, xal_104, xln_104, xas_105, xal_105, xln_105, xas_106, xal_106, xln_106, xas_107, xal_107, xln_107, xal_13, xal_in14, xas_in14, xln_in14, xal_38, xal_in39, xas_in39, xln_in39, xal_52, xal_in53, xas_in53, xln_in53, xal_61, xal_in62, xas_in62, xln_in62, xal_70, xal_in71, xas_in71, xln_in71, xal_79, xal_in80, xas_in80, xln_in80, xal_91, xal_in92, xas_in92, xln_in92, cl_some, nm_b, nn_some, qn_some, qn_none, zk_0, zk_1, zk_n0, zk_n1, nI_add, pk_mul, pk_sub, nI_leE, nI_ltE, nI_eqE, nI_lt0, nI_ge0, nI_eq0, nI_gt0, nI_le0, ilt_t, ilt_f, ile_t, ile_f, ieq_t, ieq_f, if_tt, if_ff, Nat.add_sub_cancel]
  exact r1
end XCP
section XCP
variable {G : Gx} {X lo nx : Nat} {h0 : Hp} {c : CS}
def PCu (k : Nat) : Prop := (2 ≤ k ∧ k < 26) ∨ (111 ≤ k ∧ k < 117)
def CpOu (c c' : CS) : Prop := (∀ i, i < 6 → xi c' (111 + i) = xi c (121 + i)) ∧ (∀ j, j < 120 → xa c' 2 j = xa c 27 j) ∧ (∀ j, j < 6 → xr c' 3 j = xr c 28 j) ∧ (∀ i j, i < 6 → j < 8 → xa c' (4 + i) j = xa c (29 + i) j) ∧ (∀ j, j < 8 → xa c' 10 j = vp_nar .boolean (xa c 35 j)) ∧ (∀ j, j < 12 → xr c' 11 j = xr c 36 j) ∧ (∀ j, j < 12 → xa c' 12 j = xa c 37 j) ∧ ∀ p j, p < 12 → j < 10 → xa c' (14 + p) j = xa c (39 + p) j
theorem xas_bzu {k : Nat} {x : Int32} {β : Type} {f : Hp → Option β} (hk : k < 8) : asI (g_c G 3) (vp_nar .boolean) (encX G X c h0) (X + 10) (nI k) x f = f (encX G X (xsa c 10 (upK (xa c 10) k (vp_nar .boolean x))) h0) := (asI_at ((encX_at (by decide)).trans cellX_10) hk (by decide)).trans (congrArg f (encX_set (by decide) (cellX_10.trans (by rw [xa_xsa_s]; rfl)) cellX_xsa))
theorem xac_tu (hb : ∀ j, j < 120 → fits .byte (.int (xa c 27 j)) = true) {β : Type} {f : Hp → Option β} : acI (g_c G 2) .byte (encX G X c h0) (X + 27) (nI 0) (X + 2) (nI 0) (nI 120) f = f (encX G X (xsa c 2 (cv_cpy (xa c 27) (xa c 2) 0 0 120)) h0) := by
  have e1 : encX G X c h0 (X + 27) = some (aB G 120 (xa c 27)) := (encX_at (by decide)).trans cellX_27
  have e2 : encX G X c h0 (X + 2) = some (aB G 120 (xa c 2)) := (encX_at (by decide)).trans cellX_2
  have e3 : hset (encX G X c h0) (X + 2) (aB G 120 (cv_cpy (xa c 27) (xa c 2) 0 0 120)) = encX G X (xsa c 2 (cv_cpy (xa c 27) (xa c 2) 0 0 120)) h0 := encX_set (by decide) (cellX_2.trans (by rw [xa_xsa_s])) cellX_xsa
  have en : (nI 120).toNatClampNeg = 120 := nI_clamp (by omega)
  have e0 : (nI 0).toNatClampNeg = 0 := nI_clamp (by omega)
  rw [← e3]
  unfold acI
  rw [e1, e2]
  show (if _ then _ else _) = _
  rw [en, e0, if_pos]
  · rfl
  · refine ⟨⟨rfl, rfl, by decide, by decide, by decide⟩, by omega, by omega, ?_⟩
    rw [List.all_eq_true]
    intro j hj
    have := List.mem_range.mp hj
    rw [Nat.zero_add]
    exact hb j this
theorem xac_pu {p : Nat} (hp : p < 12) {β : Type} {f : Hp → Option β} : acI (g_c G 0) .int (encX G X c h0) (X + 39 + p) (nI 0) (X + 14 + p) (nI 0) (nI 10) f = f (encX G X (xsa c (14 + p) (cv_cpy (xa c (39 + p)) (xa c (14 + p)) 0 0 10)) h0) := by
  have e1 : encX G X c h0 (X + 39 + p) = some (aI G 10 (xa c (39 + p))) := (encX_in (by omega)).trans (cellX_in39 hp)
  have e2 : encX G X c h0 (X + 14 + p) = some (aI G 10 (xa c (14 + p))) := (encX_in (by omega)).trans (cellX_in14 hp)
  have e3 : hset (encX G X c h0) (X + 14 + p) (aI G 10 (cv_cpy (xa c (39 + p)) (xa c (14 + p)) 0 0 10)) = encX G X (xsa c (14 + p) (cv_cpy (xa c (39 + p)) (xa c (14 + p)) 0 0 10)) h0 := encX_setin (by omega) ((cellX_in14 hp).trans (by rw [xa_xsa_s])) cellX_xsa
  have en : (nI 10).toNatClampNeg = 10 := nI_clamp (by omega)
  have e0 : (nI 0).toNatClampNeg = 0 := nI_clamp (by omega)
  rw [← e3]
  unfold acI
  rw [e1, e2]
  show (if _ then _ else _) = _
  rw [en, e0, if_pos]
  · rfl
  · refine ⟨⟨rfl, rfl, by decide, by decide, by decide⟩, by omega, by omega, ?_⟩
    rw [List.all_eq_true]
    intro j _
    rfl
theorem ok_sou {k : Nat} (hR : RfR lo h0 (fun k => xr c (k + 25))) (hlo : X + 108 ≤ lo) (hk : k < 6) (c1 : CS) : okR (encX G X c1 h0) [7] (xr c 28 k) = true := by
  unfold okR
  cases e : xr c 28 k with
  | none => rfl
  | some v =>
    obtain ⟨a, fs, b⟩ := hR.1 k v hk e
    show (match encX G X c1 h0 v with | some (.inr q) => decide (q.1 ∈ [7]) | _ => false) = true
    rw [encX_out (Or.inr (by omega)), b]
    rfl
theorem ok_plu {k : Nat} (hR : RfR lo h0 (fun k => xr c (k + 25))) (hlo : X + 108 ≤ lo) (hk : k < 12) (c1 : CS) : okR (encX G X c1 h0) [1, 2, 3, 4, 6, 8, 10] (xr c 36 k) = true := by
  unfold okR
  cases e : xr c 36 k with
  | none => rfl
  | some v =>
    obtain ⟨a, ci, fs, b1, b2⟩ := hR.2 k v hk e
    show (match encX G X c1 h0 v with | some (.inr q) => decide (q.1 ∈ [1, 2, 3, 4, 6, 8, 10]) | _ => false) = true
    rw [encX_out (Or.inr (by omega)), b2]
    exact decide_eq_true b1
set_option maxRecDepth 100000 in
set_option maxHeartbeats 1000000 in
theorem x_cp87u (hR : RfR lo h0 (fun k => xr c (k + 25))) (hlo : X + 108 ≤ lo) : ∀ (r p m : Nat) (c1 : CS), p + r = 12 → r < m → FrX PCu c c1 → (∀ i, i < 3 → xi c1 (111 + i) = xi c (121 + i)) → (∀ j, j < 120 → xa c1 2 j = xa c 27 j) → (∀ j, j < 6 → xr c1 3 j = xr c 28 j) → (∀ i j, i < 6 → j < 8 → xa c1 (4 + i) j = xa c (29 + i) j) → (∀ j, j < 8 → xa c1 10 j = vp_nar .boolean (xa c 35 j)) → (∀ j, j < p → xr c1 11 j = xr c 36 j) → (∀ j, j < p → xa c1 12 j = xa c 37 j) → (∀ i j, i < p → j < 10 → xa c1 (14 + i) j = xa c (39 + i) j) → ∃ c' : CS, F_X0_copyFrom_87 G m (encX G X c1 h0) nx (X + 1) (X + 26) (nI p) = some ((), encX G X c' h0, nx) ∧ FrX PCu c c' ∧ CpOu c c' := by
  intro r
  induction r with
  | zero =>
    intro p m c1 hp hm f1 a1 a2 a3 a4 a5 a6 a7 a8
    obtain ⟨m, rfl⟩ : ∃ q, m = q + 1 := ⟨m - 1, by omega⟩
    obtain rfl : p = 12 := by omega
    have n1 : xi c1 124 = xi c 124 := f1.i _ (by unfold PCu; omega)
    have n2 : xi c1 125 = xi c 125 := f1.i _ (by unfold PCu; omega)
    have n3 : xi c1 126 = xi c 126 := f1.i _ (by unfold PCu; omega)
    refine ⟨xsi (xsi (xsi c1 114 (xi c 124)) 115 (xi c 125)) 116 (xi c 126), ?_, ((f1.trans (FrX.si (P := PCu) (by unfold PCu; omega)) (fun _ z => z) (fun _ z => z)).trans (FrX.si (P := PCu) (by unfold PCu; omega)) (fun _ z => z) (fun _ z => z)).trans (FrX.si (P := PCu) (by unfold PCu; omega)) (fun _ z => z) (fun _ z => z), fun i hi => ?_, a2, a3, a4, a5, a6, a7, a8⟩
    · rw [F_X0_copyFrom_87_s]
      simp (maxSteps := 3000000) (disch := omega) only [n1, n2, n3, xi_xsi_s, xi_xsi_n, xl_xsi, xa_xsi, xj_xsi, xr_xsi, xsi_xsi, xi_xsl, xl_xsl_s, xl_xsl_n, xa_xsl, xj_xsl, xr_xsl, xsl_xsl, xi_xsa, xl_xsa, xa_xsa_s, xa_xsa_n, xj_xsa, xr_xsa, xsa_xsa, xi_xsj, xl_xsj, xa_xsj, xj_xsj_s, xj_xsj_n, xr_xsj, xsj_xsj, xi_xsr, xl_xsr, xa_xsr, xj_xsr, xr_xsr_s, xr_xsr_n, xsr_xsr, xk_0, xg_0_0, xg_0_1, xg_0_2, xp_0_2, xg_0_3, xg_0_4, xg_0_5, xg_0_6, xk_1, xg_1_0, xg_1_1, xp_1_1, xg_1_2, xg_1_3, xp_1_3, xg_1_4, xg_1_5, xg_1_6, xg_1_7, xg_1_8, xg_1_9, xg_1_10, xg_1_11, xp_1_11, xg_1_12, xg_1_13, xg_1_14, xg_1_15, xp_1_15, xg_1_16, xp_1_16, xg_1_17, xp_1_17, xk_26, xg_26_0, xg_26_1, xp_26_1, xg_26_2, xg_26_3, xp_26_3, xg_26_4, xg_26_5, xg_26_6, xg_26_7, xg_26_8, xg_26_9, xg_26_10, xg_26_11, xp_26_11, xg_26_12, xg_26_13, xg_26_14, xg_26_15, xp_26_15, xg_26_16, xp_26_16, xg_26_17, xp_26_17, xk_51, xg_51_0, xg_51_1, xg_51_2, xg_51_3, xg_51_4, xg_51_5, xg_51_6, xg_51_7, xp_51_7, xg_51_8, xp_51_8, xk_90, xg_90_0, xg_90_1, xg_90_2, xg_90_3, xp_90_3, xg_90_4, xg_90_5, xp_90_5, xg_90_6, xg_90_7, xp_90_7, xg_90_8, xp_90_8, xg_90_9, xp_90_9, xg_90_10, xas_2, xal_2, xal_3, xas_4, xal_4, xln_4, xas_5, xal_5, xln_5, xas_6, xal_6, xln_6, xas_7, xal_7, xln_7, xas_8, xal_8, xln_8, xas_9, xal_9, xln_9, xas0_10, xas1_10, xasb_10, xal_10, xal_11, xas_12, xal_12, xln_12, xas_27, xal_27, xal_28, xas_29, xal_29, xln_29, xas_30, xal_30, xln_30, xas_31, xal_31, xln_31, xas_32, xal_32, xln_32, xas_33, xal_33, xln_33, xas_34, xal_34, xln_34, xas0_35, xas1_35, xasb_35, xal_35, xal_36, xas_37, xal_37, xln_37, xas_88, xal_88, xln_88, xal_89, xas_89, xln_89, xas_103, xal_103, xln_103, xas_104, xal_104, xln_104, xas_105, xal_105, xln_105, xas_106, xal_106, xln_106, xas_107, xal_107, xln_107, xal_13, xal_in14, xas_in14, xln_in14, xal_38, xal_in39, xas_in39, xln_in39, xal_52, xal_in53, xas_in53, xln_in53, xal_61, xal_in62, xas_in62, xln_in62, xal_70, xal_in71, xas_in71, xln_in71, xal_79, xal_in80, xas_in80, xln_in80, xal_91, xal_in92, xas_in92, xln_in92, cl_some, nm_b, nn_some, qn_some, qn_none, zk_0, zk_1, zk_n0, zk_n1, nI_add, pk_mul, pk_sub, nI_leE, nI_ltE, nI_eqE, nI_lt0, nI_ge0, nI_eq0, nI_gt0, nI_le0, ilt_t, ilt_f, ile_t, ile_f, ieq_t, ieq_f, if_tt, if_ff, Nat.add_sub_cancel]
    · rcases (show i < 3 ∨ i = 3 ∨ i = 4 ∨ i = 5 by omega) with q | rfl | rfl | rfl
      · rw [xi_xsi_n (by omega), xi_xsi_n (by omega), xi_xsi_n (by omega)]
        exact a1 i q
      · rw [xi_xsi_n (by omega), xi_xsi_n (by omega)]; exact xi_xsi_s
      · rw [xi_xsi_n (by omega)]; exact xi_xsi_s
      · exact xi_xsi_s
  | succ r ih =>
    intro p m c1 hp hm f1 a1 a2 a3 a4 a5 a6 a7 a8
    obtain ⟨m, rfl⟩ : ∃ q, m = q + 1 := ⟨m - 1, by omega⟩
    have n1 : xr c1 36 = xr c 36 := f1.r _ (by unfold PCu; omega)
    have n2 : xa c1 37 = xa c 37 := f1.a _ (by unfold PCu; omega)
    have n3 : xa c1 (39 + p) = xa c (39 + p) := f1.a _ (by unfold PCu; omega)
    have hr : ∀ {β : Type} {f : Hp → Option β}, asR (g_c G 5) [1, 2, 3, 4, 6, 8, 10] (encX G X c1 h0) (X + 11) (nI p) (xr c 36 p) f = f (encX G X (xsr c1 11 (upK (xr c1 11) p (xr c 36 p))) h0) := fun {β f} => xas_11 (by omega) (ok_plu hR hlo (by omega) c1)
    let c2 : CS := xsa (xsa (xsr c1 11 (upK (xr c1 11) p (xr c 36 p))) 12 (upK (xa c1 12) p (xa c 37 p))) (14 + p) (cv_cpy (xa c (39 + p)) (xa c1 (14 + p)) 0 0 10)
    have y1 : xr c2 11 = upK (xr c1 11) p (xr c 36 p) := xr_xsr_s
    have y2 : xa c2 12 = upK (xa c1 12) p (xa c 37 p) := by
      show xa (xsa _ _ _) 12 = _
      rw [xa_xsa_n (by omega), xa_xsa_s]
    have y3 : xa c2 (14 + p) = cv_cpy (xa c (39 + p)) (xa c1 (14 + p)) 0 0 10 := xa_xsa_s
    have yo : ∀ k, k ≠ 12 → k ≠ 14 + p → xa c2 k = xa c1 k := fun k h1 h2 => by
      show xa (xsa (xsa _ _ _) _ _) k = _
      rw [xa_xsa_n h2, xa_xsa_n h1]; rfl
    obtain ⟨c', r1, r2⟩ := ih (p + 1) m c2 (by omega) (by omega) (((f1.trans (FrX.sr (P := PCu) (by unfold PCu; omega)) (fun _ z => z) (fun _ z => z)).trans (FrX.sa (P := PCu) (by unfold PCu; omega)) (fun _ z => z) (fun _ z => z)).trans (FrX.sa (P := PCu) (by unfold PCu; omega)) (fun _ z => z) (fun _ z => z)) a1 (fun j hj => by rw [yo 2 (by omega) (by omega)]; exact a2 j hj) (fun j hj => by
        have : xr c2 3 = xr c1 3 := xr_xsr_n (by omega)
        rw [this]; exact a3 j hj) (fun i j hi hj => by rw [yo (4 + i) (by omega) (by omega)]; exact a4 i j hi hj) (fun j hj => by rw [yo 10 (by omega) (by omega)]; exact a5 j hj) (fun j hj => by
        rw [y1]
        by_cases e : j = p
        · subst e; exact upK_s
        · rw [upK_n e]; exact a6 j (by omega)) (fun j hj => by
        rw [y2]
        by_cases e : j = p
        · subst e; exact upK_s
        · rw [upK_n e]; exact a7 j (by omega)) (fun i j hi hj => by
        by_cases e : i = p
        · subst e
          rw [y3, cpy_0 hj]
        · rw [yo (14 + i) (by omega) (by omega)]
          exact a8 i j (by omega) hj)
    refine ⟨c', ?_, r2⟩
    rw [F_X0_copyFrom_87_s]
    simp (maxSteps := 3000000) (disch := omega) only [n1, n2, n3, hr, xac_pu, xi_xsi_s, xi_xsi_n, xl_xsi, xa_xsi, xj_xsi, xr_xsi, xsi_xsi, xi_xsl, xl_xsl_s, xl_xsl_n, xa_xsl, xj_xsl, xr_xsl, xsl_xsl, xi_xsa, xl_xsa, xa_xsa_s, xa_xsa_n, xj_xsa, xr_xsa, xsa_xsa, xi_xsj, xl_xsj, xa_xsj, xj_xsj_s, xj_xsj_n, xr_xsj, xsj_xsj, xi_xsr, xl_xsr, xa_xsr, xj_xsr, xr_xsr_s, xr_xsr_n, xsr_xsr, xk_0, xg_0_0, xg_0_1, xg_0_2, xp_0_2, xg_0_3, xg_0_4, xg_0_5, xg_0_6, xk_1, xg_1_0, xg_1_1, xp_1_1, xg_1_2, xg_1_3, xp_1_3, xg_1_4, xg_1_5, xg_1_6, xg_1_7, xg_1_8, xg_1_9, xg_1_10, xg_1_11, xp_1_11, xg_1_12, xg_1_13, xg_1_14, xg_1_15, xp_1_15, xg_1_16, xp_1_16, xg_1_17, xp_1_17, xk_26, xg_26_0, xg_26_1, xp_26_1, xg_26_2, xg_26_3, xp_26_3, xg_26_4, xg_26_5, xg_26_6, xg_26_7, xg_26_8, xg_26_9, xg_26_10, xg_26_11, xp_26_11, xg_26_12, xg_26_13, xg_26_14, xg_26_15, xp_26_15, xg_26_16, xp_26_16, xg_26_17, xp_26_17, xk_51, xg_51_0, xg_51_1, xg_51_2, xg_51_3, xg_51_4, xg_51_5, xg_51_6, xg_51_7, xp_51_7, xg_51_8, xp_51_8, xk_90, xg_90_0, xg_90_1, xg_90_2, xg_90_3, xp_90_3, xg_90_4, xg_90_5, xp_90_5, xg_90_6, xg_90_7, xp_90_7, xg_90_8, xp_90_8, xg_90_9, xp_90_9, xg_90_10, xas_2, xal_2, xal_3, xas_4, xal_4, xln_4, xas_5, xal_5, xln_5, xas_6, xal_6, xln_6, xas_7, xal_7, xln_7, xas_8, xal_8, xln_8, xas_9, xal_9, xln_9, xas0_10, xas1_10, xasb_10, xal_10, xal_11, xas_12, xal_12, xln_12, xas_27, xal_27, xal_28, xas_29, xal_29, xln_29, xas_30, xal_30, xln_30, xas_31, xal_31, xln_31, xas_32, xal_32, xln_32, xas_33, xal_33, xln_33, xas_34, xal_34, xln_34, xas0_35, xas1_35, xasb_35, xal_35, xal_36, xas_37, xal_37, xln_37, xas_88, xal_88, xln_88, xal_89, xas_89, xln_89, xas_103, xal_103, xln_103, xas_104, xal_104, xln_104, xas_105, xal_105, xln_105, xas_106, xal_106, xln_106, xas_107, xal_107, xln_107, xal_13, xal_in14, xas_in14, xln_in14, xal_38, xal_in39, xas_in39, xln_in39, xal_52, xal_in53, xas_in53, xln_in53, xal_61, xal_in62, xas_in62, xln_in62, xal_70, xal_in71, xas_in71, xln_in71, xal_79, xal_in80, xas_in80, xln_in80, xal_91, xal_in92, xas_in92, xln_in92, cl_some, nm_b, nn_some, qn_some, qn_none, zk_0, zk_1, zk_n0, zk_n1, nI_add, pk_mul, pk_sub, nI_leE, nI_ltE, nI_eqE, nI_lt0, nI_ge0, nI_eq0, nI_gt0, nI_le0, ilt_t, ilt_f, ile_t, ile_f, ieq_t, ieq_f, if_tt, if_ff, Nat.add_sub_cancel]
    exact r1
set_option maxRecDepth 100000 in
set_option maxHeartbeats 1000000 in
theorem x_cp59u (hR : RfR lo h0 (fun k => xr c (k + 25))) (hlo : X + 108 ≤ lo) : ∀ (r p m : Nat) (c1 : CS), p + r = 8 → r < m → FrX PCu c c1 → (∀ i, i < 2 → xi c1 (111 + i) = xi c (121 + i)) → (∀ j, j < 120 → xa c1 2 j = xa c 27 j) → (∀ j, j < 6 → xr c1 3 j = xr c 28 j) → (∀ i j, i < 6 → j < p → xa c1 (4 + i) j = xa c (29 + i) j) → (∀ j, j < p → xa c1 10 j = vp_nar .boolean (xa c 35 j)) → ∃ c' : CS, F_X0_copyFrom_59 G m (encX G X c1 h0) nx (X + 1) (X + 26) (nI p) = some ((), encX G X c' h0, nx) ∧ FrX PCu c c' ∧ CpOu c c' := by
  intro r
  induction r with
  | zero =>
    intro p m c1 hp hm f1 a1 a2 a3 a4 a5
    obtain ⟨m, rfl⟩ : ∃ q, m = q + 1 := ⟨m - 1, by omega⟩
    obtain rfl : p = 8 := by omega
    have n1 : xi c1 123 = xi c 123 := f1.i _ (by unfold PCu; omega)
    obtain ⟨c', r1, r2⟩ := x_cp87u (nx := nx) hR hlo 12 0 fuelL (xsi c1 113 (xi c 123)) (by omega) (by unfold fuelL; omega) (f1.trans (FrX.si (P := PCu) (by unfold PCu; omega)) (fun _ z => z) (fun _ z => z)) (fun i hi => by
      rcases (show i < 2 ∨ i = 2 by omega) with q | rfl
      · rw [xi_xsi_n (by omega)]; exact a1 i q
      · exact xi_xsi_s) a2 a3 a4 a5 (fun j hj => absurd hj (by omega)) (fun j hj => absurd hj (by omega)) (fun i j hi => absurd hi (by omega))
    refine ⟨c', ?_, r2⟩
    rw [F_X0_copyFrom_59_s]
    simp (maxSteps := 3000000) (disch := omega) only [n1, xi_xsi_s, xi_xsi_n, xl_xsi, xa_xsi, xj_xsi, xr_xsi, xsi_xsi, xi_xsl, xl_xsl_s, xl_xsl_n, xa_xsl, xj_xsl, xr_xsl, xsl_xsl, xi_xsa, xl_xsa, xa_xsa_s, xa_xsa_n, xj_xsa, xr_xsa, xsa_xsa, xi_xsj, xl_xsj, xa_xsj, xj_xsj_s, xj_xsj_n, xr_xsj, xsj_xsj, xi_xsr, xl_xsr, xa_xsr, xj_xsr, xr_xsr_s, xr_xsr_n, xsr_xsr, xk_0, xg_0_0, xg_0_1, xg_0_2, xp_0_2, xg_0_3, xg_0_4, xg_0_5, xg_0_6, xk_1, xg_1_0, xg_1_1, xp_1_1, xg_1_2, xg_1_3, xp_1_3, xg_1_4, xg_1_5, xg_1_6, xg_1_7, xg_1_8, xg_1_9, xg_1_10, xg_1_11, xp_1_11, xg_1_12, xg_1_13, xg_1_14, xg_1_15, xp_1_15, xg_1_16, xp_1_16, xg_1_17, xp_1_17, xk_26, xg_26_0, xg_26_1, xp_26_1, xg_26_2, xg_26_3, xp_26_3, xg_26_4, xg_26_5, xg_26_6, xg_26_7, xg_26_8, xg_26_9, xg_26_10, xg_26_11, xp_26_11, xg_26_12, xg_26_13, xg_26_14, xg_26_15, xp_26_15, xg_26_16, xp_26_16, xg_26_17, xp_26_17, xk_51, xg_51_0, xg_51_1, xg_51_2, xg_51_3, xg_51_4, xg_51_5, xg_51_6, xg_51_7, xp_51_7, xg_51_8, xp_51_8, xk_90, xg_90_0, xg_90_1, xg_90_2, xg_90_3, xp_90_3, xg_90_4, xg_90_5, xp_90_5, xg_90_6, xg_90_7, xp_90_7, xg_90_8, xp_90_8, xg_90_9, xp_90_9, xg_90_10, xas_2, xal_2, xal_3, xas_4, xal_4, xln_4, xas_5, xal_5, xln_5, xas_6, xal_6, xln_6, xas_7, xal_7, xln_7, xas_8, xal_8, xln_8, xas_9, xal_9, xln_9, xas0_10, xas1_10, xasb_10, xal_10, xal_11, xas_12, xal_12, xln_12, xas_27, xal_27, xal_28, xas_29, xal_29, xln_29, xas_30, xal_30, xln_30, xas_31, xal_31, xln_31, xas_32, xal_32, xln_32, xas_33, xal_33, xln_33, xas_34, xal_34, xln_34, xas0_35, xas1_35, xasb_35, xal_35, xal_36, xas_37, xal_37, xln_37, xas_88, xal_88, xln_88, xal_89, xas_89, xln_89, xas_103, xal_103, xln_103, xas_104, xal_104, xln_104, xas_105, xal_105, xln_105, xas_106, xal_106, xln_106, xas_107, xal_107, xln_107, xal_13, xal_in14, xas_in14, xln_in14, xal_38, xal_in39, xas_in39, xln_in39, xal_52, xal_in53, xas_in53, xln_in53, xal_61, xal_in62, xas_in62, xln_in62, xal_70, xal_in71, xas_in71, xln_in71, xal_79, xal_in80, xas_in80, xln_in80, xal_91, xal_in92, xas_in92, xln_in92, cl_some, nm_b, nn_some, qn_some, qn_none, zk_0, zk_1, zk_n0, zk_n1, nI_add, pk_mul, pk_sub, nI_leE, nI_ltE, nI_eqE, nI_lt0, nI_ge0, nI_eq0, nI_gt0, nI_le0, ilt_t, ilt_f, ile_t, ile_f, ieq_t, ieq_f, if_tt, if_ff, Nat.add_sub_cancel]
    exact r1
  | succ r ih =>
    intro p m c1 hp hm f1 a1 a2 a3 a4 a5
    obtain ⟨m, rfl⟩ : ∃ q, m = q + 1 := ⟨m - 1, by omega⟩
    have n0 : xa c1 29 = xa c 29 := f1.a _ (by unfold PCu; omega)
    have n1 : xa c1 30 = xa c 30 := f1.a _ (by unfold PCu; omega)
    have n2 : xa c1 31 = xa c 31 := f1.a _ (by unfold PCu; omega)
    have n3 : xa c1 32 = xa c 32 := f1.a _ (by unfold PCu; omega)
    have n4 : xa c1 33 = xa c 33 := f1.a _ (by unfold PCu; omega)
    have n5 : xa c1 34 = xa c 34 := f1.a _ (by unfold PCu; omega)
    have n6 : xa c1 35 = xa c 35 := f1.a _ (by unfold PCu; omega)
    let c2 : CS := xsa (xsa (xsa (xsa (xsa (xsa (xsa c1 4 (upK (xa c1 4) p (xa c 29 p))) 5 (upK (xa c1 5) p (xa c 30 p))) 6 (upK (xa c1 6) p (xa c 31 p))) 7 (upK (xa c1 7) p (xa c 32 p))) 8 (upK (xa c1 8) p (xa c 33 p))) 9 (upK (xa c1 9) p (xa c 34 p))) 10 (upK (xa c1 10) p (vp_nar .boolean (xa c 35 p)))
    have e1 : F_X0_copyThing G (encX G X c1 h0) nx (X + 1) (X + 26) (nI p) = some ((), encX G X c2 h0, nx) := by
      unfold F_X0_copyThing
      simp (maxSteps := 3000000) (disch := omega) only [n0, n1, n2, n3, n4, n5, n6, xas_bzu, xi_xsi_s, xi_xsi_n, xl_xsi, xa_xsi, xj_xsi, xr_xsi, xsi_xsi, xi_xsl, xl_xsl_s, xl_xsl_n, xa_xsl, xj_xsl, xr_xsl, xsl_xsl, xi_xsa, xl_xsa, xa_xsa_s, xa_xsa_n, xj_xsa, xr_xsa, xsa_xsa, xi_xsj, xl_xsj, xa_xsj, xj_xsj_s, xj_xsj_n, xr_xsj, xsj_xsj, xi_xsr, xl_xsr, xa_xsr, xj_xsr, xr_xsr_s, xr_xsr_n, xsr_xsr, xk_0, xg_0_0, xg_0_1, xg_0_2, xp_0_2, xg_0_3, xg_0_4, xg_0_5, xg_0_6, xk_1, xg_1_0, xg_1_1, xp_1_1, xg_1_2, xg_1_3, xp_1_3, xg_1_4, xg_1_5, xg_1_6, xg_1_7, xg_1_8, xg_1_9, xg_1_10, xg_1_11, xp_1_11, xg_1_12, xg_1_13, xg_1_14, xg_1_15, xp_1_15, xg_1_16, xp_1_16, xg_1_17, xp_1_17, xk_26, xg_26_0, xg_26_1, xp_26_1, xg_26_2, xg_26_3, xp_26_3, xg_26_4, xg_26_5, xg_26_6, xg_26_7, xg_26_8, xg_26_9, xg_26_10, xg_26_11, xp_26_11, xg_26_12, xg_26_13, xg_26_14, xg_26_15, xp_26_15, xg_26_16, xp_26_16, xg_26_17, xp_26_17, xk_51, xg_51_0, xg_51_1, xg_51_2, xg_51_3, xg_51_4, xg_51_5, xg_51_6, xg_51_7, xp_51_7, xg_51_8, xp_51_8, xk_90, xg_90_0, xg_90_1, xg_90_2, xg_90_3, xp_90_3, xg_90_4, xg_90_5, xp_90_5, xg_90_6, xg_90_7, xp_90_7, xg_90_8, xp_90_8, xg_90_9, xp_90_9, xg_90_10, xas_2, xal_2, xal_3, xas_4, xal_4, xln_4, xas_5, xal_5, xln_5, xas_6, xal_6, xln_6, xas_7, xal_7, xln_7, xas_8, xal_8, xln_8, xas_9, xal_9, xln_9, xas0_10, xas1_10, xasb_10, xal_10, xal_11, xas_12, xal_12, xln_12, xas_27, xal_27, xal_28, xas_29, xal_29, xln_29, xas_30, xal_30, xln_30, xas_31, xal_31, xln_31, xas_32, xal_32, xln_32, xas_33, xal_33, xln_33, xas_34, xal_34, xln_34, xas0_35, xas1_35, xasb_35, xal_35, xal_36, xas_37, xal_37, xln_37, xas_88, xal_88, xln_88, xal_89, xas_89, xln_89, xas_103, xal_103, xln_103, xas_104, xal_104, xln_104, xas_105, xal_105, xln_105, xas_106, xal_106, xln_106, xas_107, xal_107, xln_107, xal_13, xal_in14, xas_in14, xln_in14, xal_38, xal_in39, xas_in39, xln_in39, xal_52, xal_in53, xas_in53, xln_in53, xal_61, xal_in62, xas_in62, xln_in62, xal_70, xal_in71, xas_in71, xln_in71, xal_79, xal_in80, xas_in80, xln_in80, xal_91, xal_in92, xas_in92, xln_in92, cl_some, nm_b, nn_some, qn_some, qn_none, zk_0, zk_1, zk_n0, zk_n1, nI_add, pk_mul, pk_sub, nI_leE, nI_ltE, nI_eqE, nI_lt0, nI_ge0, nI_eq0, nI_gt0, nI_le0, ilt_t, ilt_f, ile_t, ile_f, ieq_t, ieq_f, if_tt, if_ff, Nat.add_sub_cancel]
      rfl
    have yo : ∀ k, (k < 4 ∨ 10 < k) → xa c2 k = xa c1 k := fun k hk => by simp (disch := omega) only [c2, xa_xsa_n]
    have y9 : xa c2 10 = upK (xa c1 10) p (vp_nar .boolean (xa c 35 p)) := xa_xsa_s
    have yi : ∀ i, i < 6 → xa c2 (4 + i) = upK (xa c1 (4 + i)) p (xa c (29 + i) p) := fun i hi => by
      rcases (show i = 0 ∨ i = 1 ∨ i = 2 ∨ i = 3 ∨ i = 4 ∨ i = 5 by omega) with rfl | rfl | rfl | rfl | rfl | rfl <;> simp (disch := omega) only [c2, xa_xsa_n, xa_xsa_s]
    have g : ∀ k, (4 ≤ k ∧ k ≤ 10) → PCu k := fun k hk => by unfold PCu; omega
    have f2 : FrX PCu c1 c2 := ((((((FrX.sa (P := PCu) (g _ (by omega))).trans (FrX.sa (P := PCu) (g _ (by omega))) (fun _ z => z) (fun _ z => z)).trans (FrX.sa (P := PCu) (g _ (by omega))) (fun _ z => z) (fun _ z => z)).trans (FrX.sa (P := PCu) (g _ (by omega))) (fun _ z => z) (fun _ z => z)).trans (FrX.sa (P := PCu) (g _ (by omega))) (fun _ z => z) (fun _ z => z)).trans (FrX.sa (P := PCu) (g _ (by omega))) (fun _ z => z) (fun _ z => z)).trans (FrX.sa (P := PCu) (g _ (by omega))) (fun _ z => z) (fun _ z => z)
    obtain ⟨c', r1, r2⟩ := ih (p + 1) m c2 (by omega) (by omega) (f1.trans f2 (fun _ z => z) (fun _ z => z)) a1 (fun j hj => by rw [yo 2 (by omega)]; exact a2 j hj) a3 (fun i j hi hj => by
      rw [yi i hi]
      by_cases e : j = p
      · subst e; exact upK_s
      · rw [upK_n e]; exact a4 i j hi (by omega)) (fun j hj => by
      rw [y9]
      by_cases e : j = p
      · subst e; exact upK_s
      · rw [upK_n e]; exact a5 j (by omega))
    refine ⟨c', ?_, r2⟩
    rw [F_X0_copyFrom_59_s]
    simp (maxSteps := 3000000) (disch := omega) only [e1, xi_xsi_s, xi_xsi_n, xl_xsi, xa_xsi, xj_xsi, xr_xsi, xsi_xsi, xi_xsl, xl_xsl_s, xl_xsl_n, xa_xsl, xj_xsl, xr_xsl, xsl_xsl, xi_xsa, xl_xsa, xa_xsa_s, xa_xsa_n, xj_xsa, xr_xsa, xsa_xsa, xi_xsj, xl_xsj, xa_xsj, xj_xsj_s, xj_xsj_n, xr_xsj, xsj_xsj, xi_xsr, xl_xsr, xa_xsr, xj_xsr, xr_xsr_s, xr_xsr_n, xsr_xsr, xk_0, xg_0_0, xg_0_1, xg_0_2, xp_0_2, xg_0_3, xg_0_4, xg_0_5, xg_0_6, xk_1, xg_1_0, xg_1_1, xp_1_1, xg_1_2, xg_1_3, xp_1_3, xg_1_4, xg_1_5, xg_1_6, xg_1_7, xg_1_8, xg_1_9, xg_1_10, xg_1_11, xp_1_11, xg_1_12, xg_1_13, xg_1_14, xg_1_15, xp_1_15, xg_1_16, xp_1_16, xg_1_17, xp_1_17, xk_26, xg_26_0, xg_26_1, xp_26_1, xg_26_2, xg_26_3, xp_26_3, xg_26_4, xg_26_5, xg_26_6, xg_26_7, xg_26_8, xg_26_9, xg_26_10, xg_26_11, xp_26_11, xg_26_12, xg_26_13, xg_26_14, xg_26_15, xp_26_15, xg_26_16, xp_26_16, xg_26_17, xp_26_17, xk_51, xg_51_0, xg_51_1, xg_51_2, xg_51_3, xg_51_4, xg_51_5, xg_51_6, xg_51_7, xp_51_7, xg_51_8, xp_51_8, xk_90, xg_90_0, xg_90_1, xg_90_2, xg_90_3, xp_90_3, xg_90_4, xg_90_5, xp_90_5, xg_90_6, xg_90_7, xp_90_7, xg_90_8, xp_90_8, xg_90_9, xp_90_9, xg_90_10, xas_2, xal_2, xal_3, xas_4, xal_4, xln_4, xas_5, xal_5, xln_5, xas_6, xal_6, xln_6, xas_7, xal_7, xln_7, xas_8, xal_8, xln_8, xas_9, xal_9, xln_9, xas0_10, xas1_10, xasb_10, xal_10, xal_11, xas_12, xal_12, xln_12, xas_27, xal_27, xal_28, xas_29, xal_29, xln_29, xas_30, xal_30, xln_30, xas_31, xal_31, xln_31, xas_32, xal_32, xln_32, xas_33, xal_33, xln_33, xas_34, xal_34, xln_34, xas0_35, xas1_35, xasb_35, xal_35, xal_36, xas_37, xal_37, xln_37, xas_88, xal_88, xln_88, xal_89, xas_89, xln_89, xas_103, xal_103, xln_103, xas_104, xal_104, xln_104, xas_105, xal_105, xln_105, xas_106, xal_106, xln_106, xas_107, xal_107, xln_107, xal_13, xal_in14, xas_in14, xln_in14, xal_38, xal_in39, xas_in39, xln_in39, xal_52, xal_in53, xas_in53, xln_in53, xal_61, xal_in62, xas_in62, xln_in62, xal_70, xal_in71, xas_in71, xln_in71, xal_79, xal_in80, xas_in80, xln_in80, xal_91, xal_in92, xas_in92, xln_in92, cl_some, nm_b, nn_some, qn_some, qn_none, zk_0, zk_1, zk_n0, zk_n1, nI_add, pk_mul, pk_sub, nI_leE, nI_ltE, nI_eqE, nI_lt0, nI_ge0, nI_eq0, nI_gt0, nI_le0, ilt_t, ilt_f, ile_t, ile_f, ieq_t, ieq_f, if_tt, if_ff, Nat.add_sub_cancel]
    exact r1
set_option maxRecDepth 100000 in
set_option maxHeartbeats 1000000 in
theorem x_cp25u (hR : RfR lo h0 (fun k => xr c (k + 25))) (hlo : X + 108 ≤ lo) : ∀ (r p m : Nat) (c1 : CS), p + r = 6 → r < m → FrX PCu c c1 → (∀ i, i < 1 → xi c1 (111 + i) = xi c (121 + i)) → (∀ j, j < 120 → xa c1 2 j = xa c 27 j) → (∀ j, j < p → xr c1 3 j = xr c 28 j) → ∃ c' : CS, F_X0_copyFrom_25 G m (encX G X c1 h0) nx (X + 1) (X + 26) (nI p) = some ((), encX G X c' h0, nx) ∧ FrX PCu c c' ∧ CpOu c c' := by
  intro r
  induction r with
  | zero =>
    intro p m c1 hp hm f1 a1 a2 a3
    obtain ⟨m, rfl⟩ : ∃ q, m = q + 1 := ⟨m - 1, by omega⟩
    obtain rfl : p = 6 := by omega
    have n1 : xi c1 122 = xi c 122 := f1.i _ (by unfold PCu; omega)
    obtain ⟨c', r1, r2⟩ := x_cp59u (nx := nx) hR hlo 8 0 fuelL (xsi c1 112 (xi c 122)) (by omega) (by unfold fuelL; omega) (f1.trans (FrX.si (P := PCu) (by unfold PCu; omega)) (fun _ z => z) (fun _ z => z)) (fun i hi => by
      rcases (show i < 1 ∨ i = 1 by omega) with q | rfl
      · rw [xi_xsi_n (by omega)]; exact a1 i q
      · exact xi_xsi_s) a2 a3 (fun i j hi hj => absurd hj (by omega)) (fun j hj => absurd hj (by omega))
    refine ⟨c', ?_, r2⟩
    rw [F_X0_copyFrom_25_s]
    simp (maxSteps := 3000000) (disch := omega) only [n1, xi_xsi_s, xi_xsi_n, xl_xsi, xa_xsi, xj_xsi, xr_xsi, xsi_xsi, xi_xsl, xl_xsl_s, xl_xsl_n, xa_xsl, xj_xsl, xr_xsl, xsl_xsl, xi_xsa, xl_xsa, xa_xsa_s, xa_xsa_n, xj_xsa, xr_xsa, xsa_xsa, xi_xsj, xl_xsj, xa_xsj, xj_xsj_s, xj_xsj_n, xr_xsj, xsj_xsj, xi_xsr, xl_xsr, xa_xsr, xj_xsr, xr_xsr_s, xr_xsr_n, xsr_xsr, xk_0, xg_0_0, xg_0_1, xg_0_2, xp_0_2, xg_0_3, xg_0_4, xg_0_5, xg_0_6, xk_1, xg_1_0, xg_1_1, xp_1_1, xg_1_2, xg_1_3, xp_1_3, xg_1_4, xg_1_5, xg_1_6, xg_1_7, xg_1_8, xg_1_9, xg_1_10, xg_1_11, xp_1_11, xg_1_12, xg_1_13, xg_1_14, xg_1_15, xp_1_15, xg_1_16, xp_1_16, xg_1_17, xp_1_17, xk_26, xg_26_0, xg_26_1, xp_26_1, xg_26_2, xg_26_3, xp_26_3, xg_26_4, xg_26_5, xg_26_6, xg_26_7, xg_26_8, xg_26_9, xg_26_10, xg_26_11, xp_26_11, xg_26_12, xg_26_13, xg_26_14, xg_26_15, xp_26_15, xg_26_16, xp_26_16, xg_26_17, xp_26_17, xk_51, xg_51_0, xg_51_1, xg_51_2, xg_51_3, xg_51_4, xg_51_5, xg_51_6, xg_51_7, xp_51_7, xg_51_8, xp_51_8, xk_90, xg_90_0, xg_90_1, xg_90_2, xg_90_3, xp_90_3, xg_90_4, xg_90_5, xp_90_5, xg_90_6, xg_90_7, xp_90_7, xg_90_8, xp_90_8, xg_90_9, xp_90_9, xg_90_10, xas_2, xal_2, xal_3, xas_4, xal_4, xln_4, xas_5, xal_5, xln_5, xas_6, xal_6, xln_6, xas_7, xal_7, xln_7, xas_8, xal_8, xln_8, xas_9, xal_9, xln_9, xas0_10, xas1_10, xasb_10, xal_10, xal_11, xas_12, xal_12, xln_12, xas_27, xal_27, xal_28, xas_29, xal_29, xln_29, xas_30, xal_30, xln_30, xas_31, xal_31, xln_31, xas_32, xal_32, xln_32, xas_33, xal_33, xln_33, xas_34, xal_34, xln_34, xas0_35, xas1_35, xasb_35, xal_35, xal_36, xas_37, xal_37, xln_37, xas_88, xal_88, xln_88, xal_89, xas_89, xln_89, xas_103, xal_103, xln_103, xas_104, xal_104, xln_104, xas_105, xal_105, xln_105, xas_106, xal_106, xln_106, xas_107, xal_107, xln_107, xal_13, xal_in14, xas_in14, xln_in14, xal_38, xal_in39, xas_in39, xln_in39, xal_52, xal_in53, xas_in53, xln_in53, xal_61, xal_in62, xas_in62, xln_in62, xal_70, xal_in71, xas_in71, xln_in71, xal_79, xal_in80, xas_in80, xln_in80, xal_91, xal_in92, xas_in92, xln_in92, cl_some, nm_b, nn_some, qn_some, qn_none, zk_0, zk_1, zk_n0, zk_n1, nI_add, pk_mul, pk_sub, nI_leE, nI_ltE, nI_eqE, nI_lt0, nI_ge0, nI_eq0, nI_gt0, nI_le0, ilt_t, ilt_f, ile_t, ile_f, ieq_t, ieq_f, if_tt, if_ff, Nat.add_sub_cancel]
    exact r1
  | succ r ih =>
    intro p m c1 hp hm f1 a1 a2 a3
    obtain ⟨m, rfl⟩ : ∃ q, m = q + 1 := ⟨m - 1, by omega⟩
    have n1 : xr c1 28 = xr c 28 := f1.r _ (by unfold PCu; omega)
    have hr : ∀ {β : Type} {f : Hp → Option β}, asR (g_c G 4) [7] (encX G X c1 h0) (X + 3) (nI p) (xr c 28 p) f = f (encX G X (xsr c1 3 (upK (xr c1 3) p (xr c 28 p))) h0) := fun {β f} => xas_3 (by omega) (ok_sou hR hlo (by omega) c1)
    obtain ⟨c', r1, r2⟩ := ih (p + 1) m (xsr c1 3 (upK (xr c1 3) p (xr c 28 p))) (by omega) (by omega) (f1.trans (FrX.sr (P := PCu) (by unfold PCu; omega)) (fun _ z => z) (fun _ z => z)) a1 a2 (fun j hj => by
      rw [xr_xsr_s]
      by_cases e : j = p
      · subst e; exact upK_s
      · rw [upK_n e]; exact a3 j (by omega))
    refine ⟨c', ?_, r2⟩
    rw [F_X0_copyFrom_25_s]
    simp (maxSteps := 3000000) (disch := omega) only [n1, hr, xi_xsi_s, xi_xsi_n, xl_xsi, xa_xsi, xj_xsi, xr_xsi, xsi_xsi, xi_xsl, xl_xsl_s, xl_xsl_n, xa_xsl, xj_xsl, xr_xsl, xsl_xsl, xi_xsa, xl_xsa, xa_xsa_s, xa_xsa_n, xj_xsa, xr_xsa, xsa_xsa, xi_xsj, xl_xsj, xa_xsj, xj_xsj_s, xj_xsj_n, xr_xsj, xsj_xsj, xi_xsr, xl_xsr, xa_xsr, xj_xsr, xr_xsr_s, xr_xsr_n, xsr_xsr, xk_0, xg_0_0, xg_0_1, xg_0_2, xp_0_2, xg_0_3, xg_0_4, xg_0_5, xg_0_6, xk_1, xg_1_0, xg_1_1, xp_1_1, xg_1_2, xg_1_3, xp_1_3, xg_1_4, xg_1_5, xg_1_6, xg_1_7, xg_1_8, xg_1_9, xg_1_10, xg_1_11, xp_1_11, xg_1_12, xg_1_13, xg_1_14, xg_1_15, xp_1_15, xg_1_16, xp_1_16, xg_1_17, xp_1_17, xk_26, xg_26_0, xg_26_1, xp_26_1, xg_26_2, xg_26_3, xp_26_3, xg_26_4, xg_26_5, xg_26_6, xg_26_7, xg_26_8, xg_26_9, xg_26_10, xg_26_11, xp_26_11, xg_26_12, xg_26_13, xg_26_14, xg_26_15, xp_26_15, xg_26_16, xp_26_16, xg_26_17, xp_26_17, xk_51, xg_51_0, xg_51_1, xg_51_2, xg_51_3, xg_51_4, xg_51_5, xg_51_6, xg_51_7, xp_51_7, xg_51_8, xp_51_8, xk_90, xg_90_0, xg_90_1, xg_90_2, xg_90_3, xp_90_3, xg_90_4, xg_90_5, xp_90_5, xg_90_6, xg_90_7, xp_90_7, xg_90_8, xp_90_8, xg_90_9, xp_90_9, xg_90_10, xas_2, xal_2, xal_3, xas_4, xal_4, xln_4, xas_5, xal_5, xln_5, xas_6, xal_6, xln_6, xas_7, xal_7, xln_7, xas_8, xal_8, xln_8, xas_9, xal_9, xln_9, xas0_10, xas1_10, xasb_10, xal_10, xal_11, xas_12, xal_12, xln_12, xas_27, xal_27, xal_28, xas_29, xal_29, xln_29, xas_30, xal_30, xln_30, xas_31, xal_31, xln_31, xas_32, xal_32, xln_32, xas_33, xal_33, xln_33, xas_34, xal_34, xln_34, xas0_35, xas1_35, xasb_35, xal_35, xal_36, xas_37, xal_37, xln_37, xas_88, xal_88, xln_88, xal_89, xas_89, xln_89, xas_103, xal_103, xln_103, xas_104, xal_104, xln_104, xas_105, xal_105, xln_105, xas_106, xal_106, xln_106, xas_107, xal_107, xln_107, xal_13, xal_in14, xas_in14, xln_in14, xal_38, xal_in39, xas_in39, xln_in39, xal_52, xal_in53, xas_in53, xln_in53, xal_61, xal_in62, xas_in62, xln_in62, xal_70, xal_in71, xas_in71, xln_in71, xal_79, xal_in80, xas_in80, xln_in80, xal_91, xal_in92, xas_in92, xln_in92, cl_some, nm_b, nn_some, qn_some, qn_none, zk_0, zk_1, zk_n0, zk_n1, nI_add, pk_mul, pk_sub, nI_leE, nI_ltE, nI_eqE, nI_lt0, nI_ge0, nI_eq0, nI_gt0, nI_le0, ilt_t, ilt_f, ile_t, ile_f, ieq_t, ieq_f, if_tt, if_ff, Nat.add_sub_cancel]
    exact r1
theorem x_copyu (hR : RfR lo h0 (fun k => xr c (k + 25))) (hlo : X + 108 ≤ lo) (hb : ∀ j, j < 120 → fits .byte (.int (xa c 27 j)) = true) : ∃ c' : CS, F_X0_copyFrom G (encX G X c h0) nx (X + 1) (X + 26) = some ((), encX G X c' h0, nx) ∧ FrX PCu c c' ∧ CpOu c c' := by
  obtain ⟨c', r1, r2⟩ := x_cp25u (nx := nx) hR hlo 6 0 fuelL (xsi (xsa c 2 (cv_cpy (xa c 27) (xa c 2) 0 0 120)) 111 (xi c 121)) (by omega) (by unfold fuelL; omega) ((FrX.sa (P := PCu) (by unfold PCu; omega)).trans (FrX.si (P := PCu) (by unfold PCu; omega)) (fun _ z => z) (fun _ z => z)) (fun i hi => by
    obtain rfl : i = 0 := by omega
    exact xi_xsi_s) (fun j hj => by
    rw [xa_xsi, xa_xsa_s, cpy_0 hj]) (fun j hj => absurd hj (by omega))
  have ea : ∀ {β : Type} {f : Hp → Option β}, acI (g_c G 2) .byte (encX G X c h0) (X + 27) (nI 0) (X + 2) (nI 0) (nI 120) f = f (encX G X (xsa c 2 (cv_cpy (xa c 27) (xa c 2) 0 0 120)) h0) := xac_tu hb
  refine ⟨c', ?_, r2⟩
  unfold F_X0_copyFrom
  simp (maxSteps := 3000000) (disch := omega) only [ea, xi_xsi_s, xi_xsi_n, xl_xsi, xa_xsi, xj_xsi, xr_xsi, xsi_xsi, xi_xsl, xl_xsl_s, xl_xsl_n, xa_xsl, xj_xsl, xr_xsl, xsl_xsl, xi_xsa, xl_xsa, xa_xsa_s, xa_xsa_n, xj_xsa, xr_xsa, xsa_xsa, xi_xsj, xl_xsj, xa_xsj, xj_xsj_s, xj_xsj_n, xr_xsj, xsj_xsj, xi_xsr, xl_xsr, xa_xsr, xj_xsr, xr_xsr_s, xr_xsr_n, xsr_xsr, xk_0, xg_0_0, xg_0_1, xg_0_2, xp_0_2, xg_0_3, xg_0_4, xg_0_5, xg_0_6, xk_1, xg_1_0, xg_1_1, xp_1_1, xg_1_2, xg_1_3, xp_1_3, xg_1_4, xg_1_5, xg_1_6, xg_1_7, xg_1_8, xg_1_9, xg_1_10, xg_1_11, xp_1_11, xg_1_12, xg_1_13, xg_1_14, xg_1_15, xp_1_15, xg_1_16, xp_1_16, xg_1_17, xp_1_17, xk_26, xg_26_0, xg_26_1, xp_26_1, xg_26_2, xg_26_3, xp_26_3, xg_26_4, xg_26_5, xg_26_6, xg_26_7, xg_26_8, xg_26_9, xg_26_10, xg_26_11, xp_26_11, xg_26_12, xg_26_13, xg_26_14, xg_26_15, xp_26_15, xg_26_16, xp_26_16, xg_26_17, xp_26_17, xk_51, xg_51_0, xg_51_1, xg_51_2, xg_51_3, xg_51_4, xg_51_5, xg_51_6, xg_51_7, xp_51_7, xg_51_8, xp_51_8, xk_90, xg_90_0, xg_90_1, xg_90_2, xg_90_3, xp_90_3, xg_90_4, xg_90_5, xp_90_5, xg_90_6, xg_90_7, xp_90_7, xg_90_8, xp_90_8, xg_90_9, xp_90_9, xg_90_10, xas_2, xal_2, xal_3, xas_4, xal_4, xln_4, xas_5, xal_5, xln_5, xas_6, xal_6, xln_6, xas_7, xal_7, xln_7, xas_8, xal_8, xln_8, xas_9, xal_9, xln_9, xas0_10, xas1_10, xasb_10, xal_10, xal_11, xas_12, xal_12, xln_12, xas_27, xal_27, xal_28, xas_29, xal_29, xln_29, xas_30, xal_30, xln_30, xas_31, xal_31, xln_31, xas_32, xal_32, xln_32, xas_33, xal_33, xln_33, xas_34, xal_34, xln_34, xas0_35, xas1_35, xasb_35, xal_35, xal_36, xas_37, xal_37, xln_37, xas_88, xal_88, xln_88, xal_89, xas_89, xln_89, xas_103, xal_103, xln_103, xas_104, xal_104, xln_104, xas_105, xal_105, xln_105, xas_106, xal_106, xln_106, xas_107, xal_107, xln_107, xal_13, xal_in14, xas_in14, xln_in14, xal_38, xal_in39, xas_in39, xln_in39, xal_52, xal_in53, xas_in53, xln_in53, xal_61, xal_in62, xas_in62, xln_in62, xal_70, xal_in71, xas_in71, xln_in71, xal_79, xal_in80, xas_in80, xln_in80, xal_91, xal_in92, xas_in92, xln_in92, cl_some, nm_b, nn_some, qn_some, qn_none, zk_0, zk_1, zk_n0, zk_n1, nI_add, pk_mul, pk_sub, nI_leE, nI_ltE, nI_eqE, nI_lt0, nI_ge0, nI_eq0, nI_gt0, nI_le0, ilt_t, ilt_f, ile_t, ile_f, ieq_t, ieq_f, if_tt, if_ff, Nat.add_sub_cancel]
  exact r1
end XCP
