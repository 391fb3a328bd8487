/-! THE CLASS's tour, edge, bound -/
theorem bit_mul {b v : Int32} (h : b = 0 ∨ b = nI 1) : b * v = if b = nI 1 then v else 0 := by
  rcases h with rfl | rfl
  · rw [if_neg (by decide), Int32.zero_mul]
  · rw [if_pos rfl]
    exact Int32.one_mul v
theorem bitI_z {x : Int32} {t : Nat} (ht : t < 8) : bitI x t = 0 ∨ bitI x t = nI 1 := by
  rw [bitI_bt ht]
  split
  · exact Or.inr rfl
  · exact Or.inl rfl
theorem mxI_le {a b : Int32} : mxI a b = if b ≤ a then a else b := by
  unfold mxI
  by_cases c : a < b
  · rw [if_pos c, if_neg (Int32.not_le.mpr c)]
  · rw [if_neg c, if_pos (Int32.not_lt.mp c)]
section XY
variable {G : Gx} {X lo nx : Nat} {h0 : Hp} {c : CS} {S : MS} {ns nt np lk td q : Nat}
set_option maxRecDepth 100000 in
set_option maxHeartbeats 1000000 in
theorem x_worthOf4 (h5 : xi c 113 = nI nt) (h8 : nt ≤ 8) {s W : Nat → Int32} (hW : ∀ i, i < nt → xa c 88 i = W i) {set : Int32} : ∀ (r t m : Nat), t + r = nt → r < m → F_X5_worthOf_4 G m (encX G X c h0) nx (X + 51) set (toA s W set t).1 (nI t) = some ((toA s W set nt).1, encX G X c h0, nx) := by
  intro r
  induction r with
  | zero =>
    intro t m ht hm
    obtain ⟨m, rfl⟩ : ∃ q, m = q + 1 := ⟨m - 1, by omega⟩
    obtain rfl : t = nt := by omega
    rw [F_X5_worthOf_4_s]
    simp (maxSteps := 3000000) (disch := omega) only [h5, xi_xsi_s, xi_xsi_n, xl_xsi, xa_xsi, xj_xsi, xr_xsi, xsi_xsi, xi_xsl, xl_xsl_s, xl_xsl_n, xa_xsl, xj_xsl, xr_xsl, xsl_xsl, xi_xsa, xl_xsa, xa_xsa_s, xa_xsa_n, xj_xsa, xr_xsa, xsa_xsa, xi_xsj, xl_xsj, xa_xsj, xj_xsj_s, xj_xsj_n, xr_xsj, xsj_xsj, xi_xsr, xl_xsr, xa_xsr, xj_xsr, xr_xsr_s, xr_xsr_n, xsr_xsr, xk_0, xg_0_0, xg_0_1, xg_0_2, xp_0_2, xg_0_3, xg_0_4, xg_0_5, xg_0_6, xk_1, xg_1_0, xg_1_1, xp_1_1, xg_1_2, xg_1_3, xp_1_3, xg_1_4, xg_1_5, xg_1_6, xg_1_7, xg_1_8, xg_1_9, xg_1_10, xg_1_11, xp_1_11, xg_1_12, xg_1_13, xg_1_14, xg_1_15, xp_1_15, xg_1_16, xp_1_16, xg_1_17, xp_1_17, xk_26, xg_26_0, xg_26_1, xp_26_1, xg_26_2, xg_26_3, xp_26_3, xg_26_4, xg_26_5, xg_26_6, xg_26_7, xg_26_8, xg_26_9, xg_26_10, xg_26_11, xp_26_11, xg_26_12, xg_26_13, xg_26_14, xg_26_15, xp_26_15, xg_26_16, xp_26_16, xg_26_17, xp_26_17, xk_51, xg_51_0, xg_51_1, xg_51_2, xg_51_3, xg_51_4, xg_51_5, xg_51_6, xg_51_7, xp_51_7, xg_51_8, xp_51_8, xk_90, xg_90_0, xg_90_1, xg_90_2, xg_90_3, xp_90_3, xg_90_4, xg_90_5, xp_90_5, xg_90_6, xg_90_7, xp_90_7, xg_90_8, xp_90_8, xg_90_9, xp_90_9, xg_90_10, xas_2, xal_2, xal_3, xas_4, xal_4, xln_4, xas_5, xal_5, xln_5, xas_6, xal_6, xln_6, xas_7, xal_7, xln_7, xas_8, xal_8, xln_8, xas_9, xal_9, xln_9, xas0_10, xas1_10, xasb_10, xal_10, xal_11, xas_12, xal_12, xln_12, xas_27, xal_27, xal_28, xas_29, xal_29, xln_29, xas_30, xal_30, xln_30, xas_31, xal_31, xln_31, xas_32, xal_32, xln_32, xas_33, xal_33, xln_33, xas_34, xal_34, xln_34, xas0_35, xas1_35, xasb_35, xal_35, xal_36, xas_37, xal_37, xln_37, xas_88, xal_88, xln_88, xal_89, xas_89, xln_89, xas_103, xal_103, xln_103, xas_104, xal_104, xln_104, xas_105, xal_105, xln_105, xas_106, xal_106, xln_106, xas_107, xal_107, xln_107, xal_13, xal_in14, xas_in14, xln_in14, xal_38, xal_in39, xas_in39, xln_in39, xal_52, xal_in53, xas_in53, xln_in53, xal_61, xal_in62, xas_in62, xln_in62, xal_70, xal_in71, xas_in71, xln_in71, xal_79, xal_in80, xas_in80, xln_in80, xal_91, xal_in92, xas_in92, xln_in92, cl_some, nm_b, nn_some, qn_some, qn_none, zk_0, zk_1, zk_n0, zk_n1, nI_add, pk_mul, pk_sub, nI_leE, nI_ltE, nI_eqE, nI_lt0, nI_ge0, nI_eq0, nI_gt0, nI_le0, ilt_t, ilt_f, ile_t, ile_f, ieq_t, ieq_f, if_tt, if_ff, Nat.add_sub_cancel]
  | succ r ih =>
    intro t m ht hm
    obtain ⟨m, rfl⟩ : ∃ q, m = q + 1 := ⟨m - 1, by omega⟩
    have fin := ih (t + 1) m (by omega) (by omega)
    have es : (toA s W set (t + 1)).1 = (toA s W set t).1 + (set >>> (nI t &&& 31) &&& nI 1) * W t := by
      show (if bitI set t = nI 1 then _ else _ : Int32 × Int32).1 = _
      rw [show set >>> (nI t &&& 31) &&& nI 1 = bitI set t from rfl, bit_mul (bitI_z (by omega))]
      by_cases cb : bitI set t = nI 1
      · rw [if_pos cb, if_pos cb]
      · rw [if_neg cb, if_neg cb]; rfl
    rw [es] at fin
    have hw := hW t (by omega)
    rw [F_X5_worthOf_4_s]
    simp (maxSteps := 3000000) (disch := omega) only [h5, hw, xi_xsi_s, xi_xsi_n, xl_xsi, xa_xsi, xj_xsi, xr_xsi, xsi_xsi, xi_xsl, xl_xsl_s, xl_xsl_n, xa_xsl, xj_xsl, xr_xsl, xsl_xsl, xi_xsa, xl_xsa, xa_xsa_s, xa_xsa_n, xj_xsa, xr_xsa, xsa_xsa, xi_xsj, xl_xsj, xa_xsj, xj_xsj_s, xj_xsj_n, xr_xsj, xsj_xsj, xi_xsr, xl_xsr, xa_xsr, xj_xsr, xr_xsr_s, xr_xsr_n, xsr_xsr, xk_0, xg_0_0, xg_0_1, xg_0_2, xp_0_2, xg_0_3, xg_0_4, xg_0_5, xg_0_6, xk_1, xg_1_0, xg_1_1, xp_1_1, xg_1_2, xg_1_3, xp_1_3, xg_1_4, xg_1_5, xg_1_6, xg_1_7, xg_1_8, xg_1_9, xg_1_10, xg_1_11, xp_1_11, xg_1_12, xg_1_13, xg_1_14, xg_1_15, xp_1_15, xg_1_16, xp_1_16, xg_1_17, xp_1_17, xk_26, xg_26_0, xg_26_1, xp_26_1, xg_26_2, xg_26_3, xp_26_3, xg_26_4, xg_26_5, xg_26_6, xg_26_7, xg_26_8, xg_26_9, xg_26_10, xg_26_11, xp_26_11, xg_26_12, xg_26_13, xg_26_14, xg_26_15, xp_26_15, xg_26_16, xp_26_16, xg_26_17, xp_26_17, xk_51, xg_51_0, xg_51_1, xg_51_2, xg_51_3, xg_51_4, xg_51_5, xg_51_6, xg_51_7, xp_51_7, xg_51_8, xp_51_8, xk_90, xg_90_0, xg_90_1, xg_90_2, xg_90_3, xp_90_3, xg_90_4, xg_90_5, xp_90_5, xg_90_6, xg_90_7, xp_90_7, xg_90_8, xp_90_8, xg_90_9, xp_90_9, xg_90_10, xas_2, xal_2, xal_3, xas_4, xal_4, xln_4, xas_5, xal_5, xln_5, xas_6, xal_6, xln_6, xas_7, xal_7, xln_7, xas_8, xal_8, xln_8, xas_9, xal_9, xln_9, xas0_10, xas1_10, xasb_10, xal_10, xal_11, xas_12, xal_12, xln_12, xas_27, xal_27, xal_28, xas_29, xal_29, xln_29, xas_30, xal_30, xln_30, xas_31, xal_31, xln_31, xas_32, xal_32, xln_32, xas_33, xal_33, xln_33, xas_34, xal_34, xln_34, xas0_35, xas1_35, xasb_35, xal_35, xal_36, xas_37, xal_37, xln_37, xas_88, xal_88, xln_88, xal_89, xas_89, xln_89, xas_103, xal_103, xln_103, xas_104, xal_104, xln_104, xas_105, xal_105, xln_105, xas_106, xal_106, xln_106, xas_107, xal_107, xln_107, xal_13, xal_in14, xas_in14, xln_in14, xal_38, xal_in39, xas_in39, xln_in39, xal_52, xal_in53, xas_in53, xln_in53, xal_61, xal_in62, xas_in62, xln_in62, xal_70, xal_in71, xas_in71, xln_in71, xal_79, xal_in80, xas_in80, xln_in80, xal_91, xal_in92, xas_in92, xln_in92, cl_some, nm_b, nn_some, qn_some, qn_none, zk_0, zk_1, zk_n0, zk_n1, nI_add, pk_mul, pk_sub, nI_leE, nI_ltE, nI_eqE, nI_lt0, nI_ge0, nI_eq0, nI_gt0, nI_le0, ilt_t, ilt_f, ile_t, ile_f, ieq_t, ieq_f, if_tt, if_ff, Nat.add_sub_cancel]
    exact fin
theorem x_worthOf (h5 : xi c 113 = nI nt) (h8 : nt ≤ 8) (s : Nat → Int32) {W : Nat → Int32} (hW : ∀ i, i < nt → xa c 88 i = W i) {set : Int32} : F_X5_worthOf G (encX G X c h0) nx (X + 51) set = some ((toA s W set nt).1, encX G X c h0, nx) := x_worthOf4 h5 h8 (s := s) hW nt 0 fuelL (by omega) (by unfold fuelL; omega)
set_option maxRecDepth 100000 in
set_option maxHeartbeats 1000000 in
theorem x_wayOf4 (h5 : xi c 113 = nI nt) (h8 : nt ≤ 8) {s W : Nat → Int32} (hW : ∀ i, i < nt → xa c 5 i = s (1018 + i)) {set : Int32} : ∀ (r t m : Nat), t + r = nt → r < m → F_X0_wayOf_4 G m (encX G X c h0) nx (X + 1) set (toA s W set t).2 (nI t) = some (nI 2 * (toA s W set nt).2, encX G X c h0, nx) := by
  intro r
  induction r with
  | zero =>
    intro t m ht hm
    obtain ⟨m, rfl⟩ : ∃ q, m = q + 1 := ⟨m - 1, by omega⟩
    obtain rfl : t = nt := by omega
    rw [F_X0_wayOf_4_s]
    simp (maxSteps := 3000000) (disch := omega) only [h5, xi_xsi_s, xi_xsi_n, xl_xsi, xa_xsi, xj_xsi, xr_xsi, xsi_xsi, xi_xsl, xl_xsl_s, xl_xsl_n, xa_xsl, xj_xsl, xr_xsl, xsl_xsl, xi_xsa, xl_xsa, xa_xsa_s, xa_xsa_n, xj_xsa, xr_xsa, xsa_xsa, xi_xsj, xl_xsj, xa_xsj, xj_xsj_s, xj_xsj_n, xr_xsj, xsj_xsj, xi_xsr, xl_xsr, xa_xsr, xj_xsr, xr_xsr_s, xr_xsr_n, xsr_xsr, xk_0, xg_0_0, xg_0_1, xg_0_2, xp_0_2, xg_0_3, xg_0_4, xg_0_5, xg_0_6, xk_1, xg_1_0, xg_1_1, xp_1_1, xg_1_2, xg_1_3, xp_1_3, xg_1_4, xg_1_5, xg_1_6, xg_1_7, xg_1_8, xg_1_9, xg_1_10, xg_1_11, xp_1_11, xg_1_12, xg_1_13, xg_1_14, xg_1_15, xp_1_15, xg_1_16, xp_1_16, xg_1_17, xp_1_17, xk_26, xg_26_0, xg_26_1, xp_26_1, xg_26_2, xg_26_3, xp_26_3, xg_26_4, xg_26_5, xg_26_6, xg_26_7, xg_26_8, xg_26_9, xg_26_10, xg_26_11, xp_26_11, xg_26_12, xg_26_13, xg_26_14, xg_26_15, xp_26_15, xg_26_16, xp_26_16, xg_26_17, xp_26_17, xk_51, xg_51_0, xg_51_1, xg_51_2, xg_51_3, xg_51_4, xg_51_5, xg_51_6, xg_51_7, xp_51_7, xg_51_8, xp_51_8, xk_90, xg_90_0, xg_90_1, xg_90_2, xg_90_3, xp_90_3, xg_90_4, xg_90_5, xp_90_5, xg_90_6, xg_90_7, xp_90_7, xg_90_8, xp_90_8, xg_90_9, xp_90_9, xg_90_10, xas_2, xal_2, xal_3, xas_4, xal_4, xln_4, xas_5, xal_5, xln_5, xas_6, xal_6, xln_6, xas_7, xal_7, xln_7, xas_8, xal_8, xln_8, xas_9, xal_9, xln_9, xas0_10, xas1_10, xasb_10, xal_10, xal_11, xas_12, xal_12, xln_12, xas_27, xal_27, xal_28, xas_29, xal_29, xln_29, xas_30, xal_30, xln_30, xas_31, xal_31, xln_31, xas_32, xal_32, xln_32, xas_33, xal_33, xln_33, xas_34, xal_34, xln_34, xas0_35, xas1_35, xasb_35, xal_35, xal_36, xas_37, xal_37, xln_37, xas_88, xal_88, xln_88, xal_89, xas_89, xln_89, xas_103, xal_103, xln_103, xas_104, xal_104, xln_104, xas_105, xal_105, xln_105, xas_106, xal_106, xln_106, xas_107, xal_107, xln_107, xal_13, xal_in14, xas_in14, xln_in14, xal_38, xal_in39, xas_in39, xln_in39, xal_52, xal_in53, xas_in53, xln_in53, xal_61, xal_in62, xas_in62, xln_in62, xal_70, xal_in71, xas_in71, xln_in71, xal_79, xal_in80, xas_in80, xln_in80, xal_91, xal_in92, xas_in92, xln_in92, cl_some, nm_b, nn_some, qn_some, qn_none, zk_0, zk_1, zk_n0, zk_n1, nI_add, pk_mul, pk_sub, nI_leE, nI_ltE, nI_eqE, nI_lt0, nI_ge0, nI_eq0, nI_gt0, nI_le0, ilt_t, ilt_f, ile_t, ile_f, ieq_t, ieq_f, if_tt, if_ff, Nat.add_sub_cancel]
  | succ r ih =>
    intro t m ht hm
    obtain ⟨m, rfl⟩ : ∃ q, m = q + 1 := ⟨m - 1, by omega⟩
    have fin := ih (t + 1) m (by omega) (by omega)
    have es : (toA s W set (t + 1)).2 = if bitI set t = nI 1 then mxI (toA s W set t).2 (s (1018 + t)) else (toA s W set t).2 := by
      show (if bitI set t = nI 1 then _ else _ : Int32 × Int32).2 = _
      by_cases cb : bitI set t = nI 1
      · rw [if_pos cb, if_pos cb, mxI_le]
      · rw [if_neg cb, if_neg cb]
    rw [es] at fin
    have hw := hW t (by omega)
    rw [F_X0_wayOf_4_s]
    unfold F_X0_wayOf_32
    simp (maxSteps := 3000000) (disch := omega) only [h5, hw, xi_xsi_s, xi_xsi_n, xl_xsi, xa_xsi, xj_xsi, xr_xsi, xsi_xsi, xi_xsl, xl_xsl_s, xl_xsl_n, xa_xsl, xj_xsl, xr_xsl, xsl_xsl, xi_xsa, xl_xsa, xa_xsa_s, xa_xsa_n, xj_xsa, xr_xsa, xsa_xsa, xi_xsj, xl_xsj, xa_xsj, xj_xsj_s, xj_xsj_n, xr_xsj, xsj_xsj, xi_xsr, xl_xsr, xa_xsr, xj_xsr, xr_xsr_s, xr_xsr_n, xsr_xsr, xk_0, xg_0_0, xg_0_1, xg_0_2, xp_0_2, xg_0_3, xg_0_4, xg_0_5, xg_0_6, xk_1, xg_1_0, xg_1_1, xp_1_1, xg_1_2, xg_1_3, xp_1_3, xg_1_4, xg_1_5, xg_1_6, xg_1_7, xg_1_8, xg_1_9, xg_1_10, xg_1_11, xp_1_11, xg_1_12, xg_1_13, xg_1_14, xg_1_15, xp_1_15, xg_1_16, xp_1_16, xg_1_17, xp_1_17, xk_26, xg_26_0, xg_26_1, xp_26_1, xg_26_2, xg_26_3, xp_26_3, xg_26_4, xg_26_5, xg_26_6, xg_26_7, xg_26_8, xg_26_9, xg_26_10, xg_26_11, xp_26_11, xg_26_12, xg_26_13, xg_26_14, xg_26_15, xp_26_15, xg_26_16, xp_26_16, xg_26_17, xp_26_17, xk_51, xg_51_0, xg_51_1, xg_51_2, xg_51_3, xg_51_4, xg_51_5, xg_51_6, xg_51_7, xp_51_7, xg_51_8, xp_51_8, xk_90, xg_90_0, xg_90_1, xg_90_2, xg_90_3, xp_90_3, xg_90_4, xg_90_5, xp_90_5, xg_90_6, xg_90_7, xp_90_7, xg_90_8, xp_90_8, xg_90_9, xp_90_9, xg_90_10, xas_2, xal_2, xal_3, xas_4, xal_4, xln_4, xas_5, xal_5, xln_5, xas_6, xal_6, xln_6, xas_7, xal_7, xln_7, xas_8, xal_8, xln_8, xas_9, xal_9, xln_9, xas0_10, xas1_10, xasb_10, xal_10, xal_11, xas_12, xal_12, xln_12, xas_27, xal_27, xal_28, xas_29, xal_29, xln_29, xas_30, xal_30, xln_30, xas_31, xal_31, xln_31, xas_32, xal_32, xln_32, xas_33, xal_33, xln_33, xas_34, xal_34, xln_34, xas0_35, xas1_35, xasb_35, xal_35, xal_36, xas_37, xal_37, xln_37, xas_88, xal_88, xln_88, xal_89, xas_89, xln_89, xas_103, xal_103, xln_103, xas_104, xal_104, xln_104, xas_105, xal_105, xln_105, xas_106, xal_106, xln_106, xas_107, xal_107, xln_107, xal_13, xal_in14, xas_in14, xln_in14, xal_38, xal_in39, xas_in39, xln_in39, xal_52, xal_in53, xas_in53, xln_in53, xal_61, xal_in62, xas_in62, xln_in62, xal_70, xal_in71, xas_in71, xln_in71, xal_79, xal_in80, xas_in80, xln_in80, xal_91, xal_in92, xas_in92, xln_in92, cl_some, nm_b, nn_some, qn_some, qn_none, zk_0, zk_1, zk_n0, zk_n1, nI_add, pk_mul, pk_sub, nI_leE, nI_ltE, nI_eqE, nI_lt0, nI_ge0, nI_eq0, nI_gt0, nI_le0, ilt_t, ilt_f, ile_t, ile_f, ieq_t, ieq_f, if_tt, if_ff, Nat.add_sub_cancel]
    by_cases cb : bitI set t = nI 1
    · rw [if_pos cb] at fin
      exact (if_pos cb).trans fin
    · rw [if_neg cb] at fin
      exact (if_neg cb).trans fin
theorem x_wayOf (h5 : xi c 113 = nI nt) (h8 : nt ≤ 8) {s : Nat → Int32} (W : Nat → Int32) (hW : ∀ i, i < nt → xa c 5 i = s (1018 + i)) {set : Int32} : F_X0_wayOf G (encX G X c h0) nx (X + 1) set = some (nI 2 * (toA s W set nt).2, encX G X c h0, nx) := x_wayOf4 h5 h8 (W := W) hW nt 0 fuelL (by omega) (by unfold fuelL; omega)
set_option maxRecDepth 100000 in
set_option maxHeartbeats 1000000 in
theorem x_tour48 (hC : XC G X lo h0 c (ma S 1) ns nt np lk td q) {n : Nat} {w : Int32} (hg : ∀ j, j < nt → xa c 88 j = toW S n j) : ∀ (r k m : Nat), k + 1 + r = 2 ^ nt → r < m → F_X11_tour_48 G m (encX G X c h0) nx X w (toB (ma S 1) (toW S n) nt w k).2 (toB (ma S 1) (toW S n) nt w k).1 (nI (k + 1)) = some ((toB (ma S 1) (toW S n) nt w (2 ^ nt - 1)).1, encX G X c h0, nx) := by
  have h5 := x_thC hC
  have h8 := x_nt8 hC
  have h2 := two_le h8
  have hs := shl_n h8
  have h116 : xi c 116 = ma S 1 4 := hC.2.1.1.2.2.2.2.2
  have hpl : ∀ i, i < nt → xa c 5 i = ma S 1 (1018 + i) := fun i hi => (hC.2.1.2.1 i hi).2.1
  intro r
  induction r with
  | zero =>
    intro k m hk hm
    obtain ⟨m, rfl⟩ : ∃ q, m = q + 1 := ⟨m - 1, by omega⟩
    have hk : k + 1 = 2 ^ nt := by omega
    rw [F_X11_tour_48_s, show 2 ^ nt - 1 = k by omega]
    simp (maxSteps := 3000000) (disch := omega) only [h5, hs, xi_xsi_s, xi_xsi_n, xl_xsi, xa_xsi, xj_xsi, xr_xsi, xsi_xsi, xi_xsl, xl_xsl_s, xl_xsl_n, xa_xsl, xj_xsl, xr_xsl, xsl_xsl, xi_xsa, xl_xsa, xa_xsa_s, xa_xsa_n, xj_xsa, xr_xsa, xsa_xsa, xi_xsj, xl_xsj, xa_xsj, xj_xsj_s, xj_xsj_n, xr_xsj, xsj_xsj, xi_xsr, xl_xsr, xa_xsr, xj_xsr, xr_xsr_s, xr_xsr_n, xsr_xsr, xk_0, xg_0_0, xg_0_1, xg_0_2, xp_0_2, xg_0_3, xg_0_4, xg_0_5, xg_0_6, xk_1, xg_1_0, xg_1_1, xp_1_1, xg_1_2, xg_1_3, xp_1_3, xg_1_4, xg_1_5, xg_1_6, xg_1_7, xg_1_8, xg_1_9, xg_1_10, xg_1_11, xp_1_11, xg_1_12, xg_1_13, xg_1_14, xg_1_15, xp_1_15, xg_1_16, xp_1_16, xg_1_17, xp_1_17, xk_26, xg_26_0, xg_26_1, xp_26_1, xg_26_2, xg_26_3, xp_26_3, xg_26_4, xg_26_5, xg_26_6, xg_26_7, xg_26_8, xg_26_9, xg_26_10, xg_26_11, xp_26_11, xg_26_12, xg_26_13, xg_26_14, xg_26_15, xp_26_15, xg_26_16, xp_26_16, xg_26_17, xp_26_17, xk_51, xg_51_0, xg_51_1, xg_51_2, xg_51_3, xg_51_4, xg_51_5, xg_51_6, xg_51_7, xp_51_7, xg_51_8, xp_51_8, xk_90, xg_90_0, xg_90_1, xg_90_2, xg_90_3, xp_90_3, xg_90_4, xg_90_5, xp_90_5, xg_90_6, xg_90_7, xp_90_7, xg_90_8, xp_90_8, xg_90_9, xp_90_9, xg_90_10, xas_2, xal_2, xal_3, xas_4, xal_4, xln_4, xas_5, xal_5, xln_5, xas_6, xal_6, xln_6, xas_7, xal_7, xln_7, xas_8, xal_8, xln_8, xas_9, xal_9, xln_9, xas0_10, xas1_10, xasb_10, xal_10, xal_11, xas_12, xal_12, xln_12, xas_27, xal_27, xal_28, xas_29, xal_29, xln_29, xas_30, xal_30, xln_30, xas_31, xal_31, xln_31, xas_32, xal_32, xln_32, xas_33, xal_33, xln_33, xas_34, xal_34, xln_34, xas0_35, xas1_35, xasb_35, xal_35, xal_36, xas_37, xal_37, xln_37, xas_88, xal_88, xln_88, xal_89, xas_89, xln_89, xas_103, xal_103, xln_103, xas_104, xal_104, xln_104, xas_105, xal_105, xln_105, xas_106, xal_106, xln_106, xas_107, xal_107, xln_107, xal_13, xal_in14, xas_in14, xln_in14, xal_38, xal_in39, xas_in39, xln_in39, xal_52, xal_in53, xas_in53, xln_in53, xal_61, xal_in62, xas_in62, xln_in62, xal_70, xal_in71, xas_in71, xln_in71, xal_79, xal_in80, xas_in80, xln_in80, xal_91, xal_in92, xas_in92, xln_in92, cl_some, nm_b, nn_some, qn_some, qn_none, zk_0, zk_1, zk_n0, zk_n1, nI_add, pk_mul, pk_sub, nI_leE, nI_ltE, nI_eqE, nI_lt0, nI_ge0, nI_eq0, nI_gt0, nI_le0, ilt_t, ilt_f, ile_t, ile_f, ieq_t, ieq_f, if_tt, if_ff, Nat.add_sub_cancel]
  | succ r ih =>
    intro k m hk hm
    obtain ⟨m, rfl⟩ : ∃ q, m = q + 1 := ⟨m - 1, by omega⟩
    have fin := ih (k + 1) m (by omega) (by omega)
    have es : toB (ma S 1) (toW S n) nt w (k + 1) = if ma S 1 4 < cnF (nI (k + 1)) 8 ∨ w < nI 2 * (toA (ma S 1) (toW S n) (nI (k + 1)) nt).2 ∨ (toA (ma S 1) (toW S n) (nI (k + 1)) nt).1 ≤ (toB (ma S 1) (toW S n) nt w k).2 then toB (ma S 1) (toW S n) nt w k else (nI (k + 1), (toA (ma S 1) (toW S n) (nI (k + 1)) nt).1) := rfl
    rw [es] at fin
    have eb : F_J6_bitCount_0f7a4 G (encX G X c h0) nx (nI (k + 1)) = some (cnF (nI (k + 1)) 8, encX G X c h0, nx) := by rw [x_bitCount, bc_cn ⟨k + 1, by omega⟩]
    have ew := x_wayOf (G := G) (X := X) (nx := nx) (h0 := h0) h5 h8 (toW S n) hpl (set := nI (k + 1))
    have eo := x_worthOf (G := G) (X := X) (nx := nx) (h0 := h0) h5 h8 (ma S 1) hg (set := nI (k + 1))
    rw [F_X11_tour_48_s]
    unfold F_X11_tour_114
    simp (maxSteps := 3000000) (disch := omega) only [h5, hs, eb, h116, ew, eo, xi_xsi_s, xi_xsi_n, xl_xsi, xa_xsi, xj_xsi, xr_xsi, xsi_xsi, xi_xsl, xl_xsl_s, xl_xsl_n, xa_xsl, xj_xsl, xr_xsl, xsl_xsl, xi_xsa, xl_xsa, xa_xsa_s, xa_xsa_n, xj_xsa, xr_xsa, xsa_xsa, xi_xsj, xl_xsj, xa_xsj, xj_xsj_s, xj_xsj_n, xr_xsj, xsj_xsj, xi_xsr, xl_xsr, xa_xsr, xj_xsr, xr_xsr_s, xr_xsr_n, xsr_xsr, xk_0, xg_0_0, xg_0_1, xg_0_2, xp_0_2, xg_0_3, xg_0_4, xg_0_5, xg_0_6, xk_1, xg_1_0, xg_1_1, xp_1_1, xg_1_2, xg_1_3, xp_1_3, xg_1_4, xg_1_5, xg_1_6, xg_1_7, xg_1_8, xg_1_9, xg_1_10, xg_1_11, xp_1_11, xg_1_12, xg_1_13, xg_1_14, xg_1_15, xp_1_15, xg_1_16, xp_1_16, xg_1_17, xp_1_17, xk_26, xg_26_0, xg_26_1, xp_26_1, xg_26_2, xg_26_3, xp_26_3, xg_26_4, xg_26_5, xg_26_6, xg_26_7, xg_26_8, xg_26_9, xg_26_10, xg_26_11, xp_26_11, xg_26_12, xg_26_13, xg_26_14, xg_26_15, xp_26_15, xg_26_16, xp_26_16, xg_26_17, xp_26_17, xk_51, xg_51_0, xg_51_1, xg_51_2, xg_51_3, xg_51_4, xg_51_5, xg_51_6, xg_51_7, xp_51_7, xg_51_8, xp_51_8, xk_90, xg_90_0, xg_90_1, xg_90_2, xg_90_3, xp_90_3, xg_90_4, xg_90_5, xp_90_5, xg_90_6, xg_90_7, xp_90_7, xg_90_8, xp_90_8, xg_90_9, xp_90_9, xg_90_10, xas_2, xal_2, xal_3, xas_4, xal_4, xln_4, xas_5, xal_5, xln_5, xas_6, xal_6, xln_6, xas_7, xal_7, xln_7, xas_8, xal_8, xln_8, xas_9, xal_9, xln_9, xas0_10, xas1_10, xasb_10, xal_10, xal_11, xas_12, xal_12, xln_12, xas_27, xal_27, xal_28, xas_29, xal_29, xln_29, xas_30, xal_30, xln_30, xas_31, xal_31, xln_31, xas_32, xal_32, xln_32, xas_33, xal_33, xln_33, xas_34, xal_34, xln_34, xas0_35, xas1_35, xasb_35, xal_35, xal_36, xas_37, xal_37, xln_37, xas_88, xal_88, xln_88, xal_89, xas_89, xln_89, xas_103, xal_103, xln_103, xas_104, xal_104, xln_104, xas_105, xal_105, xln_105, xas_106, xal_106, xln_106, xas_107, xal_107, xln_107, xal_13, xal_in14, xas_in14, xln_in14, xal_38, xal_in39, xas_in39, xln_in39, xal_52, xal_in53, xas_in53, xln_in53, xal_61, xal_in62, xas_in62, xln_in62, xal_70, xal_in71, xas_in71, xln_in71, xal_79, xal_in80, xas_in80, xln_in80, xal_91, xal_in92, xas_in92, xln_in92, cl_some, nm_b, nn_some, qn_some, qn_none, zk_0, zk_1, zk_n0, zk_n1, nI_add, pk_mul, pk_sub, nI_leE, nI_ltE, nI_eqE, nI_lt0, nI_ge0, nI_eq0, nI_gt0, nI_le0, ilt_t, ilt_f, ile_t, ile_f, ieq_t, ieq_f, if_tt, if_ff, Nat.add_sub_cancel]
    by_cases c1 : ma S 1 4 < cnF (nI (k + 1)) 8
    · rw [if_pos c1]
      rw [if_pos (Or.inl c1)] at fin
      exact fin
    · rw [if_neg c1]
      by_cases c2 : w < nI 2 * (toA (ma S 1) (toW S n) (nI (k + 1)) nt).2
      · rw [if_pos c2]
        rw [if_pos (Or.inr (Or.inl c2))] at fin
        exact fin
      · rw [if_neg c2]
        by_cases c3 : (toA (ma S 1) (toW S n) (nI (k + 1)) nt).1 ≤ (toB (ma S 1) (toW S n) nt w k).2
        · rw [if_pos c3]
          rw [if_pos (Or.inr (Or.inr c3))] at fin
          exact fin
        · rw [if_neg c3]
          rw [if_neg (fun z => by rcases z with z | z | z; exact c1 z; exact c2 z; exact c3 z)] at fin
          exact fin
set_option maxRecDepth 100000 in
set_option maxHeartbeats 1000000 in
theorem x_tour (hC : XC G X lo h0 c (ma S 1) ns nt np lk td q) (h10 : mi S 10 = -1) (w n : Int32) : ∃ c' : CS, F_X11_tour G (encX G X c h0) nx X w n = some (tourF S nt w n, encX G X c' h0, nx) ∧ FrX PO c c' := by
  have h8 := x_nt8 hC
  have h2 := two_le h8
  have hp := Nat.two_pow_pos nt
  unfold F_X11_tour F_X11_tour_21 tourF
  simp (maxSteps := 3000000) (disch := omega) only [x_within, xi_xsi_s, xi_xsi_n, xl_xsi, xa_xsi, xj_xsi, xr_xsi, xsi_xsi, xi_xsl, xl_xsl_s, xl_xsl_n, xa_xsl, xj_xsl, xr_xsl, xsl_xsl, xi_xsa, xl_xsa, xa_xsa_s, xa_xsa_n, xj_xsa, xr_xsa, xsa_xsa, xi_xsj, xl_xsj, xa_xsj, xj_xsj_s, xj_xsj_n, xr_xsj, xsj_xsj, xi_xsr, xl_xsr, xa_xsr, xj_xsr, xr_xsr_s, xr_xsr_n, xsr_xsr, xk_0, xg_0_0, xg_0_1, xg_0_2, xp_0_2, xg_0_3, xg_0_4, xg_0_5, xg_0_6, xk_1, xg_1_0, xg_1_1, xp_1_1, xg_1_2, xg_1_3, xp_1_3, xg_1_4, xg_1_5, xg_1_6, xg_1_7, xg_1_8, xg_1_9, xg_1_10, xg_1_11, xp_1_11, xg_1_12, xg_1_13, xg_1_14, xg_1_15, xp_1_15, xg_1_16, xp_1_16, xg_1_17, xp_1_17, xk_26, xg_26_0, xg_26_1, xp_26_1, xg_26_2, xg_26_3, xp_26_3, xg_26_4, xg_26_5, xg_26_6, xg_26_7, xg_26_8, xg_26_9, xg_26_10, xg_26_11, xp_26_11, xg_26_12, xg_26_13, xg_26_14, xg_26_15, xp_26_15, xg_26_16, xp_26_16, xg_26_17, xp_26_17, xk_51, xg_51_0, xg_51_1, xg_51_2, xg_51_3, xg_51_4, xg_51_5, xg_51_6, xg_51_7, xp_51_7, xg_51_8, xp_51_8, xk_90, xg_90_0, xg_90_1, xg_90_2, xg_90_3, xp_90_3, xg_90_4, xg_90_5, xp_90_5, xg_90_6, xg_90_7, xp_90_7, xg_90_8, xp_90_8, xg_90_9, xp_90_9, xg_90_10, xas_2, xal_2, xal_3, xas_4, xal_4, xln_4, xas_5, xal_5, xln_5, xas_6, xal_6, xln_6, xas_7, xal_7, xln_7, xas_8, xal_8, xln_8, xas_9, xal_9, xln_9, xas0_10, xas1_10, xasb_10, xal_10, xal_11, xas_12, xal_12, xln_12, xas_27, xal_27, xal_28, xas_29, xal_29, xln_29, xas_30, xal_30, xln_30, xas_31, xal_31, xln_31, xas_32, xal_32, xln_32, xas_33, xal_33, xln_33, xas_34, xal_34, xln_34, xas0_35, xas1_35, xasb_35, xal_35, xal_36, xas_37, xal_37, xln_37, xas_88, xal_88, xln_88, xal_89, xas_89, xln_89, xas_103, xal_103, xln_103, xas_104, xal_104, xln_104, xas_105, xal_105, xln_105, xas_106, xal_106, xln_106, xas_107, xal_107, xln_107, xal_13, xal_in14, xas_in14, xln_in14, xal_38, xal_in39, xas_in39, xln_in39, xal_52, xal_in53, xas_in53, xln_in53, xal_61, xal_in62, xas_in62, xln_in62, xal_70, xal_in71, xas_in71, xln_in71, xal_79, xal_in80, xas_in80, xln_in80, xal_91, xal_in92, xas_in92, xln_in92, cl_some, nm_b, nn_some, qn_some, qn_none, zk_0, zk_1, zk_n0, zk_n1, nI_add, pk_mul, pk_sub, nI_leE, nI_ltE, nI_eqE, nI_lt0, nI_ge0, nI_eq0, nI_gt0, nI_le0, ilt_t, ilt_f, ile_t, ile_f, ieq_t, ieq_f, if_tt, if_ff, Nat.add_sub_cancel]
  by_cases c1 : bIn w (nI 0) (nI 200) = 0
  · rw [if_pos c1, if_pos c1]
    exact ⟨c, rfl, FrX.rf⟩
  rw [if_neg c1, if_neg c1]
  by_cases c3 : bIn n (nI 1) (nI 8) = 0
  · rw [if_pos c3, if_pos c3]
    exact ⟨c, rfl, FrX.rf⟩
  rw [if_neg c3, if_neg c3]
  obtain ⟨n, hn1, hn, rfl⟩ := bIn_lh (by omega) (by omega) c3
  obtain ⟨c2, e2, f2, l2, w2⟩ := x_layAll (nx := nx) hC h10 (n := n) (by omega)
  obtain ⟨c3', e3, f3, w3⟩ := x_weighAll (nx := nx) (hC.po (f2.mono po_pua)) hn1 hn l2 (fun i hi => w2 i hi 0 (by omega))
  have f13 : FrX PO c c3' := f2.trans f3 po_pua po_pwa
  have e4 := x_tour48 (nx := nx) (hC.po f13) (w := w) w3 (2 ^ nt - 1) 0 fuelL (by omega) (by unfold fuelL; omega)
  refine ⟨c3', ?_, f13⟩
  rw [nI_clamp (by omega)]
  simp (maxSteps := 3000000) (disch := omega) only [e2, e3, xi_xsi_s, xi_xsi_n, xl_xsi, xa_xsi, xj_xsi, xr_xsi, xsi_xsi, xi_xsl, xl_xsl_s, xl_xsl_n, xa_xsl, xj_xsl, xr_xsl, xsl_xsl, xi_xsa, xl_xsa, xa_xsa_s, xa_xsa_n, xj_xsa, xr_xsa, xsa_xsa, xi_xsj, xl_xsj, xa_xsj, xj_xsj_s, xj_xsj_n, xr_xsj, xsj_xsj, xi_xsr, xl_xsr, xa_xsr, xj_xsr, xr_xsr_s, xr_xsr_n, xsr_xsr, xk_0, xg_0_0, xg_0_1, xg_0_2, xp_0_2, xg_0_3, xg_0_4, xg_0_5, xg_0_6, xk_1, xg_1_0, xg_1_1, xp_1_1, xg_1_2, xg_1_3, xp_1_3, xg_1_4, xg_1_5, xg_1_6, xg_1_7, xg_1_8, xg_1_9, xg_1_10, xg_1_11, xp_1_11, xg_1_12, xg_1_13, xg_1_14, xg_1_15, xp_1_15, xg_1_16, xp_1_16, xg_1_17, xp_1_17, xk_26, xg_26_0, xg_26_1, xp_26_1, xg_26_2, xg_26_3, xp_26_3, xg_26_4, xg_26_5, xg_26_6, xg_26_7, xg_26_8, xg_26_9, xg_26_10, xg_26_11, xp_26_11, xg_26_12, xg_26_13, xg_26_14, xg_26_15, xp_26_15, xg_26_16, xp_26_16, xg_26_17, xp_26_17, xk_51, xg_51_0, xg_51_1, xg_51_2, xg_51_3, xg_51_4, xg_51_5, xg_51_6, xg_51_7, xp_51_7, xg_51_8, xp_51_8, xk_90, xg_90_0, xg_90_1, xg_90_2, xg_90_3, xp_90_3, xg_90_4, xg_90_5, xp_90_5, xg_90_6, xg_90_7, xp_90_7, xg_90_8, xp_90_8, xg_90_9, xp_90_9, xg_90_10, xas_2, xal_2, xal_3, xas_4, xal_4, xln_4, xas_5, xal_5, xln_5, xas_6, xal_6, xln_6, xas_7, xal_7, xln_7, xas_8, xal_8, xln_8, xas_9, xal_9, xln_9, xas0_10, xas1_10, xasb_10, xal_10, xal_11, xas_12, xal_12, xln_12, xas_27, xal_27, xal_28, xas_29, xal_29, xln_29, xas_30, xal_30, xln_30, xas_31, xal_31, xln_31, xas_32, xal_32, xln_32, xas_33, xal_33, xln_33, xas_34, xal_34, xln_34, xas0_35, xas1_35, xasb_35, xal_35, xal_36, xas_37, xal_37, xln_37, xas_88, xal_88, xln_88, xal_89, xas_89, xln_89, xas_103, xal_103, xln_103, xas_104, xal_104, xln_104, xas_105, xal_105, xln_105, xas_106, xal_106, xln_106, xas_107, xal_107, xln_107, xal_13, xal_in14, xas_in14, xln_in14, xal_38, xal_in39, xas_in39, xln_in39, xal_52, xal_in53, xas_in53, xln_in53, xal_61, xal_in62, xas_in62, xln_in62, xal_70, xal_in71, xas_in71, xln_in71, xal_79, xal_in80, xas_in80, xln_in80, xal_91, xal_in92, xas_in92, xln_in92, cl_some, nm_b, nn_some, qn_some, qn_none, zk_0, zk_1, zk_n0, zk_n1, nI_add, pk_mul, pk_sub, nI_leE, nI_ltE, nI_eqE, nI_lt0, nI_ge0, nI_eq0, nI_gt0, nI_le0, ilt_t, ilt_f, ile_t, ile_f, ieq_t, ieq_f, if_tt, if_ff, Nat.add_sub_cancel]
  exact e4
/-! edge -/
set_option maxRecDepth 100000 in
set_option maxHeartbeats 1000000 in
theorem x_worthiest4 (h5 : xi c 113 = nI nt) (h8 : nt ≤ 8) {W : Nat → Int32} {who : Nat} {x : Int32} (hW : ∀ i, i < nt → xa c 88 i = foV W who x i) : ∀ (r t m : Nat), t + r = nt → 1 ≤ t → r < m → F_X5_worthiest_4 G m (encX G X c h0) nx (X + 51) (nI (foF W who x t)) (nI t) = some (nI (foF W who x nt), encX G X c h0, nx) := by
  intro r
  induction r with
  | zero =>
    intro t m ht h1 hm
    obtain ⟨m, rfl⟩ : ∃ q, m = q + 1 := ⟨m - 1, by omega⟩
    obtain rfl : t = nt := by omega
    rw [F_X5_worthiest_4_s]
    simp (maxSteps := 3000000) (disch := omega) only [h5, xi_xsi_s, xi_xsi_n, xl_xsi, xa_xsi, xj_xsi, xr_xsi, xsi_xsi, xi_xsl, xl_xsl_s, xl_xsl_n, xa_xsl, xj_xsl, xr_xsl, xsl_xsl, xi_xsa, xl_xsa, xa_xsa_s, xa_xsa_n, xj_xsa, xr_xsa, xsa_xsa, xi_xsj, xl_xsj, xa_xsj, xj_xsj_s, xj_xsj_n, xr_xsj, xsj_xsj, xi_xsr, xl_xsr, xa_xsr, xj_xsr, xr_xsr_s, xr_xsr_n, xsr_xsr, xk_0, xg_0_0, xg_0_1, xg_0_2, xp_0_2, xg_0_3, xg_0_4, xg_0_5, xg_0_6, xk_1, xg_1_0, xg_1_1, xp_1_1, xg_1_2, xg_1_3, xp_1_3, xg_1_4, xg_1_5, xg_1_6, xg_1_7, xg_1_8, xg_1_9, xg_1_10, xg_1_11, xp_1_11, xg_1_12, xg_1_13, xg_1_14, xg_1_15, xp_1_15, xg_1_16, xp_1_16, xg_1_17, xp_1_17, xk_26, xg_26_0, xg_26_1, xp_26_1, xg_26_2, xg_26_3, xp_26_3, xg_26_4, xg_26_5, xg_26_6, xg_26_7, xg_26_8, xg_26_9, xg_26_10, xg_26_11, xp_26_11, xg_26_12, xg_26_13, xg_26_14, xg_26_15, xp_26_15, xg_26_16, xp_26_16, xg_26_17, xp_26_17, xk_51, xg_51_0, xg_51_1, xg_51_2, xg_51_3, xg_51_4, xg_51_5, xg_51_6, xg_51_7, xp_51_7, xg_51_8, xp_51_8, xk_90, xg_90_0, xg_90_1, xg_90_2, xg_90_3, xp_90_3, xg_90_4, xg_90_5, xp_90_5, xg_90_6, xg_90_7, xp_90_7, xg_90_8, xp_90_8, xg_90_9, xp_90_9, xg_90_10, xas_2, xal_2, xal_3, xas_4, xal_4, xln_4, xas_5, xal_5, xln_5, xas_6, xal_6, xln_6, xas_7, xal_7, xln_7, xas_8, xal_8, xln_8, xas_9, xal_9, xln_9, xas0_10, xas1_10, xasb_10, xal_10, xal_11, xas_12, xal_12, xln_12, xas_27, xal_27, xal_28, xas_29, xal_29, xln_29, xas_30, xal_30, xln_30, xas_31, xal_31, xln_31, xas_32, xal_32, xln_32, xas_33, xal_33, xln_33, xas_34, xal_34, xln_34, xas0_35, xas1_35, xasb_35, xal_35, xal_36, xas_37, xal_37, xln_37, xas_88, xal_88, xln_88, xal_89, xas_89, xln_89, xas_103, xal_103, xln_103, xas_104, xal_104, xln_104, xas_105, xal_105, xln_105, xas_106, xal_106, xln_106, xas_107, xal_107, xln_107, xal_13, xal_in14, xas_in14, xln_in14, xal_38, xal_in39, xas_in39, xln_in39, xal_52, xal_in53, xas_in53, xln_in53, xal_61, xal_in62, xas_in62, xln_in62, xal_70, xal_in71, xas_in71, xln_in71, xal_79, xal_in80, xas_in80, xln_in80, xal_91, xal_in92, xas_in92, xln_in92, cl_some, nm_b, nn_some, qn_some, qn_none, zk_0, zk_1, zk_n0, zk_n1, nI_add, pk_mul, pk_sub, nI_leE, nI_ltE, nI_eqE, nI_lt0, nI_ge0, nI_eq0, nI_gt0, nI_le0, ilt_t, ilt_f, ile_t, ile_f, ieq_t, ieq_f, if_tt, if_ff, Nat.add_sub_cancel]
  | succ r ih =>
    intro t m ht h1 hm
    obtain ⟨m, rfl⟩ : ∃ q, m = q + 1 := ⟨m - 1, by omega⟩
    have fin := ih (t + 1) m (by omega) (by omega) (by omega)
    have es : foF W who x (t + 1) = if foV W who x t ≤ foV W who x (foF W who x t) then foF W who x t else t := rfl
    rw [es] at fin
    have hlt := fo_lt (W := W) (who := who) (x := x) (t := t)
    have w1 := hW t (by omega)
    have w2 := hW (foF W who x t) (by omega)
    rw [F_X5_worthiest_4_s]
    unfold F_X5_worthiest_32
    simp (maxSteps := 3000000) (disch := omega) only [h5, w1, w2, xi_xsi_s, xi_xsi_n, xl_xsi, xa_xsi, xj_xsi, xr_xsi, xsi_xsi, xi_xsl, xl_xsl_s, xl_xsl_n, xa_xsl, xj_xsl, xr_xsl, xsl_xsl, xi_xsa, xl_xsa, xa_xsa_s, xa_xsa_n, xj_xsa, xr_xsa, xsa_xsa, xi_xsj, xl_xsj, xa_xsj, xj_xsj_s, xj_xsj_n, xr_xsj, xsj_xsj, xi_xsr, xl_xsr, xa_xsr, xj_xsr, xr_xsr_s, xr_xsr_n, xsr_xsr, xk_0, xg_0_0, xg_0_1, xg_0_2, xp_0_2, xg_0_3, xg_0_4, xg_0_5, xg_0_6, xk_1, xg_1_0, xg_1_1, xp_1_1, xg_1_2, xg_1_3, xp_1_3, xg_1_4, xg_1_5, xg_1_6, xg_1_7, xg_1_8, xg_1_9, xg_1_10, xg_1_11, xp_1_11, xg_1_12, xg_1_13, xg_1_14, xg_1_15, xp_1_15, xg_1_16, xp_1_16, xg_1_17, xp_1_17, xk_26, xg_26_0, xg_26_1, xp_26_1, xg_26_2, xg_26_3, xp_26_3, xg_26_4, xg_26_5, xg_26_6, xg_26_7, xg_26_8, xg_26_9, xg_26_10, xg_26_11, xp_26_11, xg_26_12, xg_26_13, xg_26_14, xg_26_15, xp_26_15, xg_26_16, xp_26_16, xg_26_17, xp_26_17, xk_51, xg_51_0, xg_51_1, xg_51_2, xg_51_3, xg_51_4, xg_51_5, xg_51_6, xg_51_7, xp_51_7, xg_51_8, xp_51_8, xk_90, xg_90_0, xg_90_1, xg_90_2, xg_90_3, xp_90_3, xg_90_4, xg_90_5, xp_90_5, xg_90_6, xg_90_7, xp_90_7, xg_90_8, xp_90_8, xg_90_9, xp_90_9, xg_90_10, xas_2, xal_2, xal_3, xas_4, xal_4, xln_4, xas_5, xal_5, xln_5, xas_6, xal_6, xln_6, xas_7, xal_7, xln_7, xas_8, xal_8, xln_8, xas_9, xal_9, xln_9, xas0_10, xas1_10, xasb_10, xal_10, xal_11, xas_12, xal_12, xln_12, xas_27, xal_27, xal_28, xas_29, xal_29, xln_29, xas_30, xal_30, xln_30, xas_31, xal_31, xln_31, xas_32, xal_32, xln_32, xas_33, xal_33, xln_33, xas_34, xal_34, xln_34, xas0_35, xas1_35, xasb_35, xal_35, xal_36, xas_37, xal_37, xln_37, xas_88, xal_88, xln_88, xal_89, xas_89, xln_89, xas_103, xal_103, xln_103, xas_104, xal_104, xln_104, xas_105, xal_105, xln_105, xas_106, xal_106, xln_106, xas_107, xal_107, xln_107, xal_13, xal_in14, xas_in14, xln_in14, xal_38, xal_in39, xas_in39, xln_in39, xal_52, xal_in53, xas_in53, xln_in53, xal_61, xal_in62, xas_in62, xln_in62, xal_70, xal_in71, xas_in71, xln_in71, xal_79, xal_in80, xas_in80, xln_in80, xal_91, xal_in92, xas_in92, xln_in92, cl_some, nm_b, nn_some, qn_some, qn_none, zk_0, zk_1, zk_n0, zk_n1, nI_add, pk_mul, pk_sub, nI_leE, nI_ltE, nI_eqE, nI_lt0, nI_ge0, nI_eq0, nI_gt0, nI_le0, ilt_t, ilt_f, ile_t, ile_f, ieq_t, ieq_f, if_tt, if_ff, Nat.add_sub_cancel]
    by_cases cb : foV W who x t ≤ foV W who x (foF W who x t)
    · rw [if_pos cb] at fin ⊢
      exact fin
    · rw [if_neg cb] at fin ⊢
      exact fin
theorem x_worthiest (h5 : xi c 113 = nI nt) (h8 : nt ≤ 8) (h1 : 1 ≤ nt) {W : Nat → Int32} {who : Nat} {x : Int32} (hW : ∀ i, i < nt → xa c 88 i = foV W who x i) : F_X5_worthiest G (encX G X c h0) nx (X + 51) = some (nI (foF W who x nt), encX G X c h0, nx) := by
  have e := x_worthiest4 (G := G) (X := X) (nx := nx) (h0 := h0) h5 h8 hW (nt - 1) 1 fuelL (by omega) (by omega) (by unfold fuelL; omega)
  have e1 : foF W who x 1 = 0 := by
    show (if foV W who x 0 ≤ foV W who x 0 then 0 else 0) = 0
    split <;> rfl
  rw [e1] at e
  exact e
/-- others' worths stay -/
def EdW (c : CS) (S : MS) (n nt who : Nat) : Prop := ∀ i, i < nt → ¬ i = who → xa c 88 i = toW S n i
set_option maxRecDepth 100000 in
set_option maxHeartbeats 1000000 in
theorem x_withE (hC : XC G X lo h0 c (ma S 1) ns nt np lk td q) {n who : Nat} (hw : who < nt) (hn1 : 1 ≤ n) (hn : n ≤ 8) (hE : EdW c S n nt who) (x : Int32) : ∃ c' : CS, F_X5_worthiestWith G (encX G X c h0) nx (X + 51) (nI who) (nI n) x = some (nI (edG S n nt who x), encX G X c' h0, nx) ∧ FrX PO c c' ∧ EdW c' S n nt who := by
  have h8 := x_nt8 hC
  let S' : MS := msi (msi S 10 (nI who)) 11 x
  have s1 : ma S' 1 = ma S 1 := rfl
  obtain ⟨a, p, hX⟩ := hC.th hw
  have hy : (if nI who = mi S' 10 then mi S' 11 else nI 0) = x := by
    rw [show mi S' 10 = nI who from (mi_msi_n (st := msi S 10 (nI who)) (k := 11) (j := 10) (by decide)).trans mi_msi_s, show mi S' 11 = x from mi_msi_s, if_pos rfl]
  have hX' : XT G X lo h0 c (ma S' 1) who a p := hX
  obtain ⟨c2, e2, f2, l2, w2⟩ := x_lay (nx := nx) (S := S') (by omega) hX' hy (n := n) (by omega)
  obtain ⟨c3, e3, f3, u3⟩ := x_leastWage (nx := nx) (S := S') (by omega) (hX'.fr f2 (fun k z => by unfold PU at z; omega)) (n := n) (N := n) (kk := 0) (j0 := 0) hn1 hn (by decide) (by omega) (by omega) l2 (Or.inl (w2 0 (by omega)))
  have e3 : F_X5_leastWage G (encX G X c2 h0) nx (X + 51) (nI who) (nI 0) (nI n) = some (toW S' n who, encX G X c3 h0, nx) := by rw [to_lw hn]; exact e3
  have f13 : FrX PO c c3 := f2.trans f3 (po_pu (by omega)) (po_pv (by omega))
  let c4 : CS := xsa c3 88 (upK (xa c3 88) who (toW S' n who))
  have f14 : FrX PO c c4 := f13.trans (FrX.sa (P := fun k => k = 88) rfl) po_po (fun k z => by unfold PO; omega)
  have w88 : xa c3 88 = xa c 88 := by
    rw [f3.a 88 (by unfold PV PW; omega), f2.a 88 (by unfold PU; omega)]
  have h5 := x_thC (hC.po f14)
  have hW : ∀ i, i < nt → xa c4 88 i = foV (toW S n) who (toW S' n who) i := fun i hi => by
    show xa (xsa c3 88 _) 88 i = _
    rw [xa_xsa_s]
    unfold foV
    by_cases e : i = who
    · rw [if_pos e, e, upK_s]
    · rw [if_neg e, upK_n e, w88]
      exact hE i hi e
  have e4 := x_worthiest (G := G) (X := X) (nx := nx) (h0 := h0) h5 h8 (by omega) hW
  refine ⟨c4, ?_, f14, fun i hi hne => ?_⟩
  · unfold F_X5_worthiestWith
    simp (maxSteps := 3000000) (disch := omega) only [e2, e3, xi_xsi_s, xi_xsi_n, xl_xsi, xa_xsi, xj_xsi, xr_xsi, xsi_xsi, xi_xsl, xl_xsl_s, xl_xsl_n, xa_xsl, xj_xsl, xr_xsl, xsl_xsl, xi_xsa, xl_xsa, xa_xsa_s, xa_xsa_n, xj_xsa, xr_xsa, xsa_xsa, xi_xsj, xl_xsj, xa_xsj, xj_xsj_s, xj_xsj_n, xr_xsj, xsj_xsj, xi_xsr, xl_xsr, xa_xsr, xj_xsr, xr_xsr_s, xr_xsr_n, xsr_xsr, xk_0, xg_0_0, xg_0_1, xg_0_2, xp_0_2, xg_0_3, xg_0_4, xg_0_5, xg_0_6, xk_1, xg_1_0, xg_1_1, xp_1_1, xg_1_2, xg_1_3, xp_1_3, xg_1_4, xg_1_5, xg_1_6, xg_1_7, xg_1_8, xg_1_9, xg_1_10, xg_1_11, xp_1_11, xg_1_12, xg_1_13, xg_1_14, xg_1_15, xp_1_15, xg_1_16, xp_1_16, xg_1_17, xp_1_17, xk_26, xg_26_0, xg_26_1, xp_26_1, xg_26_2, xg_26_3, xp_26_3, xg_26_4, xg_26_5, xg_26_6, xg_26_7, xg_26_8, xg_26_9, xg_26_10, xg_26_11, xp_26_11, xg_26_12, xg_26_13, xg_26_14, xg_26_15, xp_26_15, xg_26_16, xp_26_16, xg_26_17, xp_26_17, xk_51, xg_51_0, xg_51_1, xg_51_2, xg_51_3, xg_51_4, xg_51_5, xg_51_6, xg_51_7, xp_51_7, xg_51_8, xp_51_8, xk_90, xg_90_0, xg_90_1, xg_90_2, xg_90_3, xp_90_3, xg_90_4, xg_90_5, xp_90_5, xg_90_6, xg_90_7, xp_90_7, xg_90_8, xp_90_8, xg_90_9, xp_90_9, xg_90_10, xas_2, xal_2, xal_3, xas_4, xal_4, xln_4, xas_5, xal_5, xln_5, xas_6, xal_6, xln_6, xas_7, xal_7, xln_7, xas_8, xal_8, xln_8, xas_9, xal_9, xln_9, xas0_10, xas1_10, xasb_10, xal_10, xal_11, xas_12, xal_12, xln_12, xas_27, xal_27, xal_28, xas_29, xal_29, xln_29, xas_30, xal_30, xln_30, xas_31, xal_31, xln_31, xas_32, xal_32, xln_32, xas_33, xal_33, xln_33, xas_34, xal_34, xln_34, xas0_35, xas1_35, xasb_35, xal_35, xal_36, xas_37, xal_37, xln_37, xas_88, xal_88, xln_88, xal_89, xas_89, xln_89, xas_103, xal_103, xln_103, xas_104, xal_104, xln_104, xas_105, xal_105, xln_105, xas_106, xal_106, xln_106, xas_107, xal_107, xln_107, xal_13, xal_in14, xas_in14, xln_in14, xal_38, xal_in39, xas_in39, xln_in39, xal_52, xal_in53, xas_in53, xln_in53, xal_61, xal_in62, xas_in62, xln_in62, xal_70, xal_in71, xas_in71, xln_in71, xal_79, xal_in80, xas_in80, xln_in80, xal_91, xal_in92, xas_in92, xln_in92, cl_some, nm_b, nn_some, qn_some, qn_none, zk_0, zk_1, zk_n0, zk_n1, nI_add, pk_mul, pk_sub, nI_leE, nI_ltE, nI_eqE, nI_lt0, nI_ge0, nI_eq0, nI_gt0, nI_le0, ilt_t, ilt_f, ile_t, ile_f, ieq_t, ieq_f, if_tt, if_ff, Nat.add_sub_cancel]
    rw [e4]
    rfl
  · rw [hW i hi]
    exact if_neg hne
set_option maxRecDepth 100000 in
set_option maxHeartbeats 1000000 in
theorem x_edge66 (hC : XC G X lo h0 c (ma S 1) ns nt np lk td q) {n who first : Nat} (hw : who < nt) (hn1 : 1 ≤ n) (hn : n ≤ 8) : ∀ (r l5 m : Nat) (c1 : CS), l5 + r = 31 → 1 ≤ l5 → r < m → FrX PO c c1 → EdW c1 S n nt who → ∃ c' : CS, F_X11_edge_66 G m (encX G X c1 h0) nx X (nI who) (nI n) (nI first) (nI l5) = some (edL S n nt who first r l5, encX G X c' h0, nx) ∧ FrX PO c c' := by
  intro r
  induction r with
  | zero =>
    intro l5 m c1 hl h1 hm hF hE
    obtain ⟨m, rfl⟩ : ∃ q, m = q + 1 := ⟨m - 1, by omega⟩
    obtain rfl : l5 = 31 := by omega
    refine ⟨c1, ?_, hF⟩
    rw [F_X11_edge_66_s, if_pos (by decide)]
    rfl
  | succ r ih =>
    intro l5 m c1 hl h1 hm hF hE
    obtain ⟨m, rfl⟩ : ∃ q, m = q + 1 := ⟨m - 1, by omega⟩
    obtain ⟨c2, e2, f2, E2⟩ := x_withE (nx := nx) (hC.po hF) hw hn1 hn hE (-(nI l5))
    obtain ⟨c3, e3, f3, E3⟩ := x_withE (nx := nx) (hC.po (hF.trans f2 po_po po_po)) hw hn1 hn E2 (nI l5)
    have eL : edL S n nt who first (r + 1) l5 = if edX S n nt who first l5 = 0 then edL S n nt who first r (l5 + 1) else edX S n nt who first l5 := rfl
    have hne : ¬ -(nI l5) = 0 := fun z => by
      have z := congrArg Int32.toInt z
      rw [fb_negI (by rw [nI_toInt (by omega)]; omega), nI_toInt (by omega), show ((0 : Int32)).toInt = 0 by decide] at z
      omega
    have hne2 : ¬ nI l5 = 0 := nI_ne0 (by omega) (by omega)
    have eX : edX S n nt who first l5 = if nI (edG S n nt who (-(nI l5))) = nI first then (if nI (edG S n nt who (nI l5)) = nI first then nI 0 else nI l5) else -(nI l5) := by
      unfold edX
      rw [neg_nI, Nat.one_mul]
      by_cases c1 : nI (edG S n nt who (-(nI l5))) = nI first
      · rw [if_pos c1, if_pos (show nI 0 = 0 from rfl), if_pos c1]
      · rw [if_neg c1, if_neg hne, if_neg c1]
    rw [eL, eX, F_X11_edge_66_s]
    simp (maxSteps := 3000000) (disch := omega) only [e2, e3, xi_xsi_s, xi_xsi_n, xl_xsi, xa_xsi, xj_xsi, xr_xsi, xsi_xsi, xi_xsl, xl_xsl_s, xl_xsl_n, xa_xsl, xj_xsl, xr_xsl, xsl_xsl, xi_xsa, xl_xsa, xa_xsa_s, xa_xsa_n, xj_xsa, xr_xsa, xsa_xsa, xi_xsj, xl_xsj, xa_xsj, xj_xsj_s, xj_xsj_n, xr_xsj, xsj_xsj, xi_xsr, xl_xsr, xa_xsr, xj_xsr, xr_xsr_s, xr_xsr_n, xsr_xsr, xk_0, xg_0_0, xg_0_1, xg_0_2, xp_0_2, xg_0_3, xg_0_4, xg_0_5, xg_0_6, xk_1, xg_1_0, xg_1_1, xp_1_1, xg_1_2, xg_1_3, xp_1_3, xg_1_4, xg_1_5, xg_1_6, xg_1_7, xg_1_8, xg_1_9, xg_1_10, xg_1_11, xp_1_11, xg_1_12, xg_1_13, xg_1_14, xg_1_15, xp_1_15, xg_1_16, xp_1_16, xg_1_17, xp_1_17, xk_26, xg_26_0, xg_26_1, xp_26_1, xg_26_2, xg_26_3, xp_26_3, xg_26_4, xg_26_5, xg_26_6, xg_26_7, xg_26_8, xg_26_9, xg_26_10, xg_26_11, xp_26_11, xg_26_12, xg_26_13, xg_26_14, xg_26_15, xp_26_15, xg_26_16, xp_26_16, xg_26_17, xp_26_17, xk_51, xg_51_0, xg_51_1, xg_51_2, xg_51_3, xg_51_4, xg_51_5, xg_51_6, xg_51_7, xp_51_7, xg_51_8, xp_51_8, xk_90, xg_90_0, xg_90_1, xg_90_2, xg_90_3, xp_90_3, xg_90_4, xg_90_5, xp_90_5, xg_90_6, xg_90_7, xp_90_7, xg_90_8, xp_90_8, xg_90_9, xp_90_9, xg_90_10, xas_2, xal_2, xal_3, xas_4, xal_4, xln_4, xas_5, xal_5, xln_5, xas_6, xal_6, xln_6, xas_7, xal_7, xln_7, xas_8, xal_8, xln_8, xas_9, xal_9, xln_9, xas0_10, xas1_10, xasb_10, xal_10, xal_11, xas_12, xal_12, xln_12, xas_27, xal_27, xal_28, xas_29, xal_29, xln_29, xas_30, xal_30, xln_30, xas_31, xal_31, xln_31, xas_32, xal_32, xln_32, xas_33, xal_33, xln_33, xas_34, xal_34, xln_34, xas0_35, xas1_35, xasb_35, xal_35, xal_36, xas_37, xal_37, xln_37, xas_88, xal_88, xln_88, xal_89, xas_89, xln_89, xas_103, xal_103, xln_103, xas_104, xal_104, xln_104, xas_105, xal_105, xln_105, xas_106, xal_106, xln_106, xas_107, xal_107, xln_107, xal_13, xal_in14, xas_in14, xln_in14, xal_38, xal_in39, xas_in39, xln_in39, xal_52, xal_in53, xas_in53, xln_in53, xal_61, xal_in62, xas_in62, xln_in62, xal_70, xal_in71, xas_in71, xln_in71, xal_79, xal_in80, xas_in80, xln_in80, xal_91, xal_in92, xas_in92, xln_in92, cl_some, nm_b, nn_some, qn_some, qn_none, zk_0, zk_1, zk_n0, zk_n1, nI_add, pk_mul, pk_sub, nI_leE, nI_ltE, nI_eqE, nI_lt0, nI_ge0, nI_eq0, nI_gt0, nI_le0, ilt_t, ilt_f, ile_t, ile_f, ieq_t, ieq_f, if_tt, if_ff, Nat.add_sub_cancel]
    by_cases c1 : nI (edG S n nt who (-(nI l5))) = nI first
    · rw [if_pos c1, if_pos c1]
      by_cases c2 : nI (edG S n nt who (nI l5)) = nI first
      · rw [if_pos c2, if_pos c2, if_pos (show nI 0 = 0 from rfl)]
        exact ih (l5 + 1) m c3 (by omega) (by omega) (by omega) ((hF.trans f2 po_po po_po).trans f3 po_po po_po) E3
      · rw [if_neg c2, if_neg c2, if_neg hne2]
        exact ⟨c3, rfl, (hF.trans f2 po_po po_po).trans f3 po_po po_po⟩
    · rw [if_neg c1, if_neg c1, if_neg hne]
      exact ⟨c2, rfl, hF.trans f2 po_po po_po⟩
set_option maxRecDepth 100000 in
set_option maxHeartbeats 1000000 in
theorem x_edge (hC : XC G X lo h0 c (ma S 1) ns nt np lk td q) (h10 : mi S 10 = -1) (t n : Int32) : ∃ c' : CS, F_X11_edge G (encX G X c h0) nx X t n = some (edgeF S nt t n, encX G X c' h0, nx) ∧ FrX PO c c' := by
  have h5 := x_thC hC
  have h8 := x_nt8 hC
  have h1 : ma S 1 1 = nI nt := hC.2.2.2.2.1
  have eh : F_X0_hasThing G (encX G X c h0) nx (X + 1) t = _ := x_hasThing h5 h8
  unfold F_X11_edge edgeF
  simp (maxSteps := 3000000) (disch := omega) only [eh, x_within, h5, xi_xsi_s, xi_xsi_n, xl_xsi, xa_xsi, xj_xsi, xr_xsi, xsi_xsi, xi_xsl, xl_xsl_s, xl_xsl_n, xa_xsl, xj_xsl, xr_xsl, xsl_xsl, xi_xsa, xl_xsa, xa_xsa_s, xa_xsa_n, xj_xsa, xr_xsa, xsa_xsa, xi_xsj, xl_xsj, xa_xsj, xj_xsj_s, xj_xsj_n, xr_xsj, xsj_xsj, xi_xsr, xl_xsr, xa_xsr, xj_xsr, xr_xsr_s, xr_xsr_n, xsr_xsr, xk_0, xg_0_0, xg_0_1, xg_0_2, xp_0_2, xg_0_3, xg_0_4, xg_0_5, xg_0_6, xk_1, xg_1_0, xg_1_1, xp_1_1, xg_1_2, xg_1_3, xp_1_3, xg_1_4, xg_1_5, xg_1_6, xg_1_7, xg_1_8, xg_1_9, xg_1_10, xg_1_11, xp_1_11, xg_1_12, xg_1_13, xg_1_14, xg_1_15, xp_1_15, xg_1_16, xp_1_16, xg_1_17, xp_1_17, xk_26, xg_26_0, xg_26_1, xp_26_1, xg_26_2, xg_26_3, xp_26_3, xg_26_4, xg_26_5, xg_26_6, xg_26_7, xg_26_8, xg_26_9, xg_26_10, xg_26_11, xp_26_11, xg_26_12, xg_26_13, xg_26_14, xg_26_15, xp_26_15, xg_26_16, xp_26_16, xg_26_17, xp_26_17, xk_51, xg_51_0, xg_51_1, xg_51_2, xg_51_3, xg_51_4, xg_51_5, xg_51_6, xg_51_7, xp_51_7, xg_51_8, xp_51_8, xk_90, xg_90_0, xg_90_1, xg_90_2, xg_90_3, xp_90_3, xg_90_4, xg_90_5, xp_90_5, xg_90_6, xg_90_7, xp_90_7, xg_90_8, xp_90_8, xg_90_9, xp_90_9, xg_90_10, xas_2, xal_2, xal_3, xas_4, xal_4, xln_4, xas_5, xal_5, xln_5, xas_6, xal_6, xln_6, xas_7, xal_7, xln_7, xas_8, xal_8, xln_8, xas_9, xal_9, xln_9, xas0_10, xas1_10, xasb_10, xal_10, xal_11, xas_12, xal_12, xln_12, xas_27, xal_27, xal_28, xas_29, xal_29, xln_29, xas_30, xal_30, xln_30, xas_31, xal_31, xln_31, xas_32, xal_32, xln_32, xas_33, xal_33, xln_33, xas_34, xal_34, xln_34, xas0_35, xas1_35, xasb_35, xal_35, xal_36, xas_37, xal_37, xln_37, xas_88, xal_88, xln_88, xal_89, xas_89, xln_89, xas_103, xal_103, xln_103, xas_104, xal_104, xln_104, xas_105, xal_105, xln_105, xas_106, xal_106, xln_106, xas_107, xal_107, xln_107, xal_13, xal_in14, xas_in14, xln_in14, xal_38, xal_in39, xas_in39, xln_in39, xal_52, xal_in53, xas_in53, xln_in53, xal_61, xal_in62, xas_in62, xln_in62, xal_70, xal_in71, xas_in71, xln_in71, xal_79, xal_in80, xas_in80, xln_in80, xal_91, xal_in92, xas_in92, xln_in92, cl_some, nm_b, nn_some, qn_some, qn_none, zk_0, zk_1, zk_n0, zk_n1, nI_add, pk_mul, pk_sub, nI_leE, nI_ltE, nI_eqE, nI_lt0, nI_ge0, nI_eq0, nI_gt0, nI_le0, ilt_t, ilt_f, ile_t, ile_f, ieq_t, ieq_f, if_tt, if_ff, Nat.add_sub_cancel]
  rw [h1]
  by_cases c1 : bIn t (nI 0) (nI nt - nI 1) = 0
  · rw [if_pos c1, if_pos c1]
    exact ⟨c, rfl, FrX.rf⟩
  rw [if_neg c1, if_neg c1]
  by_cases c3 : bIn n (nI 1) (nI 4) = 0
  · rw [if_pos c3, if_pos c3]
    exact ⟨c, rfl, FrX.rf⟩
  rw [if_neg c3, if_neg c3]
  by_cases c4 : nt = 1
  · rw [if_pos c4, if_pos c4]
    exact ⟨c, rfl, FrX.rf⟩
  rw [if_neg c4, if_neg c4]
  obtain ⟨t, ht, rfl⟩ := bIn_nI (by omega) c1
  obtain ⟨n, hn1, hn, rfl⟩ := bIn_lh (by omega) (by omega) c3
  obtain ⟨c2, e2, f2, l2, w2⟩ := x_layAll (nx := nx) hC h10 (n := n) (by omega)
  obtain ⟨c3', e3, f3, w3⟩ := x_weighAll (nx := nx) (hC.po (f2.mono po_pua)) hn1 (by omega) l2 (fun i hi => w2 i hi 0 (by omega))
  have f13 : FrX PO c c3' := f2.trans f3 po_pua po_pwa
  have hC3 := hC.po f13
  have e4 := x_worthiest (G := G) (X := X) (nx := nx) (h0 := h0) (x_thC hC3) h8 (by omega) (W := toW S n) (who := t) (x := toW S n t) (fun i hi => by
    unfold foV
    by_cases e : i = t
    · rw [if_pos e, e]; exact w3 t ht
    · rw [if_neg e]; exact w3 i hi)
  obtain ⟨c', r1, r2⟩ := x_edge66 (nx := nx) hC3 (n := n) (first := foF (toW S n) t (toW S n t) nt) ht hn1 (by omega) 30 1 fuelL c3' (by omega) (by omega) (by unfold fuelL; omega) FrX.rf (fun i hi _ => w3 i hi)
  refine ⟨c', ?_, f13.trans r2 po_po po_po⟩
  rw [nI_clamp (by omega), nI_clamp (by omega)]
  simp (maxSteps := 3000000) (disch := omega) only [e2, e3, e4, xi_xsi_s, xi_xsi_n, xl_xsi, xa_xsi, xj_xsi, xr_xsi, xsi_xsi, xi_xsl, xl_xsl_s, xl_xsl_n, xa_xsl, xj_xsl, xr_xsl, xsl_xsl, xi_xsa, xl_xsa, xa_xsa_s, xa_xsa_n, xj_xsa, xr_xsa, xsa_xsa, xi_xsj, xl_xsj, xa_xsj, xj_xsj_s, xj_xsj_n, xr_xsj, xsj_xsj, xi_xsr, xl_xsr, xa_xsr, xj_xsr, xr_xsr_s, xr_xsr_n, xsr_xsr, xk_0, xg_0_0, xg_0_1, xg_0_2, xp_0_2, xg_0_3, xg_0_4, xg_0_5, xg_0_6, xk_1, xg_1_0, xg_1_1, xp_1_1, xg_1_2, xg_1_3, xp_1_3, xg_1_4, xg_1_5, xg_1_6, xg_1_7, xg_1_8, xg_1_9, xg_1_10, xg_1_11, xp_1_11, xg_1_12, xg_1_13, xg_1_14, xg_1_15, xp_1_15, xg_1_16, xp_1_16, xg_1_17, xp_1_17, xk_26, xg_26_0, xg_26_1, xp_26_1, xg_26_2, xg_26_3, xp_26_3, xg_26_4, xg_26_5, xg_26_6, xg_26_7, xg_26_8, xg_26_9, xg_26_10, xg_26_11, xp_26_11, xg_26_12, xg_26_13, xg_26_14, xg_26_15, xp_26_15, xg_26_16, xp_26_16, xg_26_17, xp_26_17, xk_51, xg_51_0, xg_51_1, xg_51_2, xg_51_3, xg_51_4, xg_51_5, xg_51_6, xg_51_7, xp_51_7, xg_51_8, xp_51_8, xk_90, xg_90_0, xg_90_1, xg_90_2, xg_90_3, xp_90_3, xg_90_4, xg_90_5, xp_90_5, xg_90_6, xg_90_7, xp_90_7, xg_90_8, xp_90_8, xg_90_9, xp_90_9, xg_90_10, xas_2, xal_2, xal_3, xas_4, xal_4, xln_4, xas_5, xal_5, xln_5, xas_6, xal_6, xln_6, xas_7, xal_7, xln_7, xas_8, xal_8, xln_8, xas_9, xal_9, xln_9, xas0_10, xas1_10, xasb_10, xal_10, xal_11, xas_12, xal_12, xln_12, xas_27, xal_27, xal_28, xas_29, xal_29, xln_29, xas_30, xal_30, xln_30, xas_31, xal_31, xln_31, xas_32, xal_32, xln_32, xas_33, xal_33, xln_33, xas_34, xal_34, xln_34, xas0_35, xas1_35, xasb_35, xal_35, xal_36, xas_37, xal_37, xln_37, xas_88, xal_88, xln_88, xal_89, xas_89, xln_89, xas_103, xal_103, xln_103, xas_104, xal_104, xln_104, xas_105, xal_105, xln_105, xas_106, xal_106, xln_106, xas_107, xal_107, xln_107, xal_13, xal_in14, xas_in14, xln_in14, xal_38, xal_in39, xas_in39, xln_in39, xal_52, xal_in53, xas_in53, xln_in53, xal_61, xal_in62, xas_in62, xln_in62, xal_70, xal_in71, xas_in71, xln_in71, xal_79, xal_in80, xas_in80, xln_in80, xal_91, xal_in92, xas_in92, xln_in92, cl_some, nm_b, nn_some, qn_some, qn_none, zk_0, zk_1, zk_n0, zk_n1, nI_add, pk_mul, pk_sub, nI_leE, nI_ltE, nI_eqE, nI_lt0, nI_ge0, nI_eq0, nI_gt0, nI_le0, ilt_t, ilt_f, ile_t, ile_f, ieq_t, ieq_f, if_tt, if_ff, Nat.add_sub_cancel]
  exact r1
/-! bound -/
def saS (S : MS) (n w : Nat) : Nat → Int64
  | 0 => 0
  | t + 1 => saS S n w t + (vB S t (1000 * (nI w).toInt64) n (stZ (ma S 1) t 0)).1
theorem bdS_sa {S : MS} {nt lk n w : Nat} (hn : n ≤ 8) : ∀ t, bdS S nt lk n t w = saS S n w t + bdI nt lk n w := by
  intro t
  induction t with
  | zero => exact (Int64.zero_add _).symm
  | succ t ih =>
    show bdS S nt lk n t w + (bP (msi (rwS S t) 20 (nI w)) t n 0).1 = saS S n w t + (vB S t (1000 * (nI w).toInt64) n (stZ (ma S 1) t 0)).1 + bdI nt lk n w
    rw [bP0 hn, ih]
    grind
theorem bd_eq {S : MS} {nt lk n w : Nat} (hn : n ≤ 8) (t : Nat) : saS S n w t - (nI w).toInt64 * ((nI n).toInt64 * 1000 * (nI nt - nI lk).toInt64) = bdS S nt lk n t w := by
  rw [bdS_sa hn]
  unfold bdI
  grind
theorem bd_z {S : MS} {nt lk n : Nat} (hn : n ≤ 8) (t : Nat) : saS S n 0 t = bdS S nt lk n t 0 := by
  rw [← bd_eq hn t, show ((nI 0).toInt64 : Int64) = 0 by decide, Int64.zero_mul, Int64.sub_zero]
theorem mnJ_le {a b : Int64} : mnJ a b = if a ≤ b then a else b := by
  unfold mnJ
  by_cases c : b < a
  · rw [if_pos c, if_neg (Int64.not_le.mpr c)]
  · rw [if_neg c, if_pos (Int64.not_lt.mp c)]
set_option maxRecDepth 100000 in
set_option maxHeartbeats 1000000 in
theorem x_sa5 (hC : XC G X lo h0 c (ma S 1) ns nt np lk td q) {n w : Nat} (hn1 : 1 ≤ n) (hn : n ≤ 8) (hw : w ≤ 200) (hL : LdA c S nt n) : ∀ (r t m : Nat) (c1 : CS), t + r = nt → r < m → FrX PW c c1 → ∃ c' : CS, F_X5_sumAlone_5 G m (encX G X c1 h0) nx (X + 51) (nI w) (nI n) (saS S n w t) (nI t) = some (saS S n w nt, encX G X c' h0, nx) ∧ FrX PW c c' := by
  have h8 := x_nt8 hC
  intro r
  induction r with
  | zero =>
    intro t m c1 ht hm hF
    obtain ⟨m, rfl⟩ : ∃ q, m = q + 1 := ⟨m - 1, by omega⟩
    obtain rfl : t = nt := by omega
    have h5 := x_thC (hC.fr hF (fun k z => by unfold PW at z; omega))
    refine ⟨c1, ?_, hF⟩
    rw [F_X5_sumAlone_5_s]
    simp (maxSteps := 3000000) (disch := omega) only [h5, xi_xsi_s, xi_xsi_n, xl_xsi, xa_xsi, xj_xsi, xr_xsi, xsi_xsi, xi_xsl, xl_xsl_s, xl_xsl_n, xa_xsl, xj_xsl, xr_xsl, xsl_xsl, xi_xsa, xl_xsa, xa_xsa_s, xa_xsa_n, xj_xsa, xr_xsa, xsa_xsa, xi_xsj, xl_xsj, xa_xsj, xj_xsj_s, xj_xsj_n, xr_xsj, xsj_xsj, xi_xsr, xl_xsr, xa_xsr, xj_xsr, xr_xsr_s, xr_xsr_n, xsr_xsr, xk_0, xg_0_0, xg_0_1, xg_0_2, xp_0_2, xg_0_3, xg_0_4, xg_0_5, xg_0_6, xk_1, xg_1_0, xg_1_1, xp_1_1, xg_1_2, xg_1_3, xp_1_3, xg_1_4, xg_1_5, xg_1_6, xg_1_7, xg_1_8, xg_1_9, xg_1_10, xg_1_11, xp_1_11, xg_1_12, xg_1_13, xg_1_14, xg_1_15, xp_1_15, xg_1_16, xp_1_16, xg_1_17, xp_1_17, xk_26, xg_26_0, xg_26_1, xp_26_1, xg_26_2, xg_26_3, xp_26_3, xg_26_4, xg_26_5, xg_26_6, xg_26_7, xg_26_8, xg_26_9, xg_26_10, xg_26_11, xp_26_11, xg_26_12, xg_26_13, xg_26_14, xg_26_15, xp_26_15, xg_26_16, xp_26_16, xg_26_17, xp_26_17, xk_51, xg_51_0, xg_51_1, xg_51_2, xg_51_3, xg_51_4, xg_51_5, xg_51_6, xg_51_7, xp_51_7, xg_51_8, xp_51_8, xk_90, xg_90_0, xg_90_1, xg_90_2, xg_90_3, xp_90_3, xg_90_4, xg_90_5, xp_90_5, xg_90_6, xg_90_7, xp_90_7, xg_90_8, xp_90_8, xg_90_9, xp_90_9, xg_90_10, xas_2, xal_2, xal_3, xas_4, xal_4, xln_4, xas_5, xal_5, xln_5, xas_6, xal_6, xln_6, xas_7, xal_7, xln_7, xas_8, xal_8, xln_8, xas_9, xal_9, xln_9, xas0_10, xas1_10, xasb_10, xal_10, xal_11, xas_12, xal_12, xln_12, xas_27, xal_27, xal_28, xas_29, xal_29, xln_29, xas_30, xal_30, xln_30, xas_31, xal_31, xln_31, xas_32, xal_32, xln_32, xas_33, xal_33, xln_33, xas_34, xal_34, xln_34, xas0_35, xas1_35, xasb_35, xal_35, xal_36, xas_37, xal_37, xln_37, xas_88, xal_88, xln_88, xal_89, xas_89, xln_89, xas_103, xal_103, xln_103, xas_104, xal_104, xln_104, xas_105, xal_105, xln_105, xas_106, xal_106, xln_106, xas_107, xal_107, xln_107, xal_13, xal_in14, xas_in14, xln_in14, xal_38, xal_in39, xas_in39, xln_in39, xal_52, xal_in53, xas_in53, xln_in53, xal_61, xal_in62, xas_in62, xln_in62, xal_70, xal_in71, xas_in71, xln_in71, xal_79, xal_in80, xas_in80, xln_in80, xal_91, xal_in92, xas_in92, xln_in92, cl_some, nm_b, nn_some, qn_some, qn_none, zk_0, zk_1, zk_n0, zk_n1, nI_add, pk_mul, pk_sub, nI_leE, nI_ltE, nI_eqE, nI_lt0, nI_ge0, nI_eq0, nI_gt0, nI_le0, ilt_t, ilt_f, ile_t, ile_f, ieq_t, ieq_f, if_tt, if_ff, Nat.add_sub_cancel]
  | succ r ih =>
    intro t m c1 ht hm hF
    obtain ⟨m, rfl⟩ : ∃ q, m = q + 1 := ⟨m - 1, by omega⟩
    have hC1 := hC.fr hF (fun k z => by unfold PW at z; omega)
    have h5 := x_thC hC1
    obtain ⟨a, p, hX⟩ := hC1.th (t := t) (by omega)
    have ha : sN (ma S 1) (1010 + t) = a := hX.2.1
    have hLt := hL t (by omega)
    rw [ha] at hLt
    obtain ⟨c2, e2, f2, v2⟩ := x_weigh (nx := nx) (by omega) hX (n := n) (N := n) (kk := 0) (j0 := 0) hw hn (by decide) (by omega) (by omega) (hLt.fr hF (fun k z => by unfold PT at z; unfold PW; omega))
    obtain ⟨v3, v4⟩ := v2 hn1
    have v3 : xl c2 52 = (vB S t (1000 * (nI w).toInt64) n (stZ (ma S 1) t 0)).2.1 := v3
    have v4 : xl c2 61 = (vB S t (1000 * (nI w).toInt64) n (stZ (ma S 1) t 0)).2.2 := v4
    have e2 : F_X5_weigh G (encX G X c1 h0) nx (X + 51) (nI t) (nI 0) (nI w) (nI n) = some ((), encX G X c2 h0, nx) := e2
    obtain ⟨c', r1, r2⟩ := ih (t + 1) m c2 (by omega) (by omega) (hF.trans f2 (fun _ z => z) (fun _ z => z))
    have es : saS S n w (t + 1) = saS S n w t + (vB S t (1000 * (nI w).toInt64) n (stZ (ma S 1) t 0)).1 := rfl
    rw [es] at r1
    refine ⟨c', ?_, r2⟩
    rw [F_X5_sumAlone_5_s]
    simp (maxSteps := 3000000) (disch := omega) only [h5, e2, v3, v4, xi_xsi_s, xi_xsi_n, xl_xsi, xa_xsi, xj_xsi, xr_xsi, xsi_xsi, xi_xsl, xl_xsl_s, xl_xsl_n, xa_xsl, xj_xsl, xr_xsl, xsl_xsl, xi_xsa, xl_xsa, xa_xsa_s, xa_xsa_n, xj_xsa, xr_xsa, xsa_xsa, xi_xsj, xl_xsj, xa_xsj, xj_xsj_s, xj_xsj_n, xr_xsj, xsj_xsj, xi_xsr, xl_xsr, xa_xsr, xj_xsr, xr_xsr_s, xr_xsr_n, xsr_xsr, xk_0, xg_0_0, xg_0_1, xg_0_2, xp_0_2, xg_0_3, xg_0_4, xg_0_5, xg_0_6, xk_1, xg_1_0, xg_1_1, xp_1_1, xg_1_2, xg_1_3, xp_1_3, xg_1_4, xg_1_5, xg_1_6, xg_1_7, xg_1_8, xg_1_9, xg_1_10, xg_1_11, xp_1_11, xg_1_12, xg_1_13, xg_1_14, xg_1_15, xp_1_15, xg_1_16, xp_1_16, xg_1_17, xp_1_17, xk_26, xg_26_0, xg_26_1, xp_26_1, xg_26_2, xg_26_3, xp_26_3, xg_26_4, xg_26_5, xg_26_6, xg_26_7, xg_26_8, xg_26_9, xg_26_10, xg_26_11, xp_26_11, xg_26_12, xg_26_13, xg_26_14, xg_26_15, xp_26_15, xg_26_16, xp_26_16, xg_26_17, xp_26_17, xk_51, xg_51_0, xg_51_1, xg_51_2, xg_51_3, xg_51_4, xg_51_5, xg_51_6, xg_51_7, xp_51_7, xg_51_8, xp_51_8, xk_90, xg_90_0, xg_90_1, xg_90_2, xg_90_3, xp_90_3, xg_90_4, xg_90_5, xp_90_5, xg_90_6, xg_90_7, xp_90_7, xg_90_8, xp_90_8, xg_90_9, xp_90_9, xg_90_10, xas_2, xal_2, xal_3, xas_4, xal_4, xln_4, xas_5, xal_5, xln_5, xas_6, xal_6, xln_6, xas_7, xal_7, xln_7, xas_8, xal_8, xln_8, xas_9, xal_9, xln_9, xas0_10, xas1_10, xasb_10, xal_10, xal_11, xas_12, xal_12, xln_12, xas_27, xal_27, xal_28, xas_29, xal_29, xln_29, xas_30, xal_30, xln_30, xas_31, xal_31, xln_31, xas_32, xal_32, xln_32, xas_33, xal_33, xln_33, xas_34, xal_34, xln_34, xas0_35, xas1_35, xasb_35, xal_35, xal_36, xas_37, xal_37, xln_37, xas_88, xal_88, xln_88, xal_89, xas_89, xln_89, xas_103, xal_103, xln_103, xas_104, xal_104, xln_104, xas_105, xal_105, xln_105, xas_106, xal_106, xln_106, xas_107, xal_107, xln_107, xal_13, xal_in14, xas_in14, xln_in14, xal_38, xal_in39, xas_in39, xln_in39, xal_52, xal_in53, xas_in53, xln_in53, xal_61, xal_in62, xas_in62, xln_in62, xal_70, xal_in71, xas_in71, xln_in71, xal_79, xal_in80, xas_in80, xln_in80, xal_91, xal_in92, xas_in92, xln_in92, cl_some, nm_b, nn_some, qn_some, qn_none, zk_0, zk_1, zk_n0, zk_n1, nI_add, pk_mul, pk_sub, nI_leE, nI_ltE, nI_eqE, nI_lt0, nI_ge0, nI_eq0, nI_gt0, nI_le0, ilt_t, ilt_f, ile_t, ile_f, ieq_t, ieq_f, if_tt, if_ff, Nat.add_sub_cancel]
    rw [vB_mx hn1]
    exact r1
theorem x_sumAlone (hC : XC G X lo h0 c (ma S 1) ns nt np lk td q) {n w : Nat} (hn1 : 1 ≤ n) (hn : n ≤ 8) (hw : w ≤ 200) (hL : LdA c S nt n) : ∃ c' : CS, F_X5_sumAlone G (encX G X c h0) nx (X + 51) (nI w) (nI n) = some (saS S n w nt, encX G X c' h0, nx) ∧ FrX PW c c' := x_sa5 (nx := nx) hC hn1 hn hw hL nt 0 fuelL c (by omega) (by have := x_nt8 hC; unfold fuelL; omega) FrX.rf
set_option maxRecDepth 100000 in
set_option maxHeartbeats 1000000 in
theorem x_bd60 (hC : XC G X lo h0 c (ma S 1) ns nt np lk td q) {n : Nat} (hn1 : 1 ≤ n) (hn : n ≤ 8) (hL : LdA c S nt n) : ∀ (r w m : Nat) (c1 : CS), w + r = 200 → r < m → FrX PW c c1 → ∃ c' : CS, F_X11_bound_60 G m (encX G X c1 h0) nx X (nI n) ((nI n).toInt64 * 1000 * (nI nt - nI lk).toInt64) (bdM (bdS S nt lk n nt) w) (nI (w + 1)) = some (bdM (bdS S nt lk n nt) 200, encX G X c' h0, nx) ∧ FrX PW c c' := by
  have h8 := x_nt8 hC
  intro r
  induction r with
  | zero =>
    intro w m c1 hw hm hF
    obtain ⟨m, rfl⟩ : ∃ q, m = q + 1 := ⟨m - 1, by omega⟩
    obtain rfl : w = 200 := by omega
    refine ⟨c1, ?_, hF⟩
    rw [F_X11_bound_60_s, if_pos (by decide)]
  | succ r ih =>
    intro w m c1 hw hm hF
    obtain ⟨m, rfl⟩ : ∃ q, m = q + 1 := ⟨m - 1, by omega⟩
    have hC1 := hC.fr hF (fun k z => by unfold PW at z; omega)
    obtain ⟨c2, e2, f2⟩ := x_sumAlone (nx := nx) hC1 hn1 hn (w := w + 1) (by omega) (hL.fr hF (fun t k ht z1 z => by unfold PT at z1; unfold PW at z; omega) h8)
    obtain ⟨c', r1, r2⟩ := ih (w + 1) m c2 (by omega) (by omega) (hF.trans f2 (fun _ z => z) (fun _ z => z))
    refine ⟨c', ?_, r2⟩
    have es : bdM (bdS S nt lk n nt) (w + 1) = if bdM (bdS S nt lk n nt) w ≤ bdS S nt lk n nt (w + 1) then bdM (bdS S nt lk n nt) w else bdS S nt lk n nt (w + 1) := rfl
    rw [es] at r1
    rw [F_X11_bound_60_s, if_neg (by rw [nI_ltE (by omega) (by omega)]; omega), xg_0_3, nn_some, xk_51, e2, cl_some, bd_eq hn, mnJ_le, nm_b, nm_b, nI_add]
    exact r1
end XY
