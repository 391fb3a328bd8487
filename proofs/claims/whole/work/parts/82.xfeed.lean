/-! THE CLASS: feed -/
theorem bv_255 : ∀ i, i < 8 → (255#64).getLsbD i = true := by decide
theorem bv_fe (b : BitVec 64) {k : Nat} (hk : k + 8 ≤ 64) : (((b >>> k).signExtend 32).signExtend 8) = (((b.sshiftRight k &&& 255#64).signExtend 32).signExtend 8) := by
  apply BitVec.eq_of_getLsbD_eq
  intro i hi
  have h1 : i < 32 := by omega
  have h2 : i < 64 := by omega
  rw [BitVec.getLsbD_signExtend, BitVec.getLsbD_signExtend, BitVec.getLsbD_signExtend, BitVec.getLsbD_signExtend, BitVec.getLsbD_and, bv_255 i hi, BitVec.getLsbD_ushiftRight, BitVec.getLsbD_sshiftRight]
  simp [hi, h1, h2, show k + i < 64 by omega]
theorem fe_k (x : Int64) {k : Nat} (hk : k + 8 ≤ 64) (u : UInt64) (s : Int64) (hu : (u.toBitVec % 64#64).toNat = k) (hs : (s.toBitVec.smod 64#64).toNat = k) : ((x.toUInt64 >>> u).toInt64).toInt32.toInt8 = (((x >>> s) &&& (255 : Int64)).toInt32).toInt8 := by
  apply Int8.toBitVec_inj.1
  have e := bv_fe x.toBitVec hk
  rw [Int32.toBitVec_toInt8, Int32.toBitVec_toInt8, Int64.toBitVec_toInt32, Int64.toBitVec_toInt32, Int64.toBitVec_and, Int64.toBitVec_shiftRight, UInt64.toBitVec_toInt64, UInt64.toBitVec_shiftRight, BitVec.ushiftRight_eq', BitVec.sshiftRight_eq']
  have e1 : (u.toBitVec % 64).toNat = k := hu
  have e2 : (s.toBitVec.smod 64).toNat = k := hs
  rw [e1, e2]
  exact e
theorem fe_byte (x : Int64) {l : Nat} (hl : l < 8) : ((((x.toUInt64 >>> ((nI (8 * l)).toInt64.toUInt64 &&& Int64.toUInt64 63)).toInt64).toInt32).toInt8.toInt32) = sxB (by8 x l) := by
  unfold sxB by8
  rcases (show l = 0 ∨ l = 1 ∨ l = 2 ∨ l = 3 ∨ l = 4 ∨ l = 5 ∨ l = 6 ∨ l = 7 by omega) with rfl | rfl | rfl | rfl | rfl | rfl | rfl | rfl
  · rw [fe_k x (k := 0) (by omega) _ ((nI 0).toInt64 &&& 63) (by decide) (by decide)]
  · rw [fe_k x (k := 8) (by omega) _ ((nI 8).toInt64 &&& 63) (by decide) (by decide)]
  · rw [fe_k x (k := 16) (by omega) _ ((nI 16).toInt64 &&& 63) (by decide) (by decide)]
  · rw [fe_k x (k := 24) (by omega) _ ((nI 24).toInt64 &&& 63) (by decide) (by decide)]
  · rw [fe_k x (k := 32) (by omega) _ ((nI 32).toInt64 &&& 63) (by decide) (by decide)]
  · rw [fe_k x (k := 40) (by omega) _ ((nI 40).toInt64 &&& 63) (by decide) (by decide)]
  · rw [fe_k x (k := 48) (by omega) _ ((nI 48).toInt64 &&& 63) (by decide) (by decide)]
  · rw [fe_k x (k := 56) (by omega) _ ((nI 56).toInt64 &&& 63) (by decide) (by decide)]
theorem by8_m (x : Int64) (l : Nat) : ∃ m, m < 256 ∧ by8 x l = nI m := by
  unfold by8
  generalize (x >>> ((nI (8 * l)).toInt64 &&& 63)) = y
  refine ⟨(y.toBitVec &&& 255#64).toNat, ?_, ?_⟩
  · rw [BitVec.toNat_and]
    have : y.toBitVec.toNat &&& (255#64).toNat ≤ (255#64).toNat := Nat.and_le_right
    have e : (255#64).toNat = 255 := rfl
    omega
  · apply Int32.toBitVec_inj.1
    rw [Int64.toBitVec_toInt32, Int64.toBitVec_and, BitVec.signExtend_eq_setWidth_of_le _ (by omega)]
    show _ = BitVec.ofNat 32 _
    rw [BitVec.ofNat_toNat]
    rfl
theorem fits_sx (y : Int32) : fits .byte (.int (sxB y)) = true := by
  unfold sxB
  have h1 : (y.toInt8.toInt32).toInt = y.toInt8.toInt := Int8.toInt_toInt32 _
  have h2 := y.toInt8.toInt_lt
  have h3 := y.toInt8.le_toInt
  have e1 : (-128 : Int32).toInt = -128 := by decide
  have e2 : (127 : Int32).toInt = 127 := by decide
  simp only [fits, Bool.and_eq_true, decide_eq_true_eq]
  rw [Int32.le_iff_toInt_le, Int32.le_iff_toInt_le, h1, e1, e2]
  omega
theorem sx_sx (y : Int32) : vp_nar .byte (sxB y) = sxB y := by
  unfold sxB
  rw [vp_nar_byte]
  apply congrArg
  apply Int8.toInt_inj.1
  rw [Int32.toInt_toInt8, Int8.toInt_toInt32]
  have h2 := y.toInt8.toInt_lt
  have h3 := y.toInt8.le_toInt
  have e : (2 : Nat) ^ 8 = 256 := by decide
  rw [e]
  simp only [Int.bmod]
  split <;> omega
/-- the tape another -/
theorem XC.fed {G : Gx} {X lo : Nat} {h0 : Hp} {c c' : CS} {s s' : Nat → Int32} {ns nt np lk td q q' : Nat} (h : XC G X lo h0 c s ns nt np lk td q) (g5 : s' 5 = nI q') (hq : q' ≤ 120) (g : ∀ k, k ≠ 5 → (k < 10 ∨ 130 ≤ k) → s' k = s k) (ea : ∀ k, k ≠ 2 → xa c' k = xa c k) (er : xr c' = xr c) (e111 : xi c' 111 = nI q') (ei : ∀ k, k ≠ 111 → xi c' k = xi c k) (tp : ∀ j, j < q' → xa c' 2 j = sxB (s' (10 + j))) (tv : ∀ j, j < q' → ∃ m, m < 256 ∧ s' (10 + j) = nI m) : XC G X lo h0 c' s' ns nt np lk td q' := by
  obtain ⟨h1, ⟨⟨i1, i2, i3, i4, i5, i6⟩, t, so, pl, ta⟩, ⟨w1, w2, w3, w4, w5, w6, w7, w8, w9, w10, w11, w12, w13, w14, w15⟩⟩ := h
  have gh : ∀ k, 130 ≤ k → s' k = s k := fun k z1 => g k (by omega) (by omega)
  have gN : ∀ k, 130 ≤ k → sN s' k = sN s k := fun k hk => by unfold sN; rw [gh k hk]
  refine ⟨h1, ⟨⟨?_, ?_, ?_, ?_, ?_, ?_⟩, ?_, ?_, ?_, tp⟩, ⟨(g 0 (by omega) (by omega)).trans w1, w2, (g 1 (by omega) (by omega)).trans w3, w4, (g 2 (by omega) (by omega)).trans w5, w6, (g 3 (by omega) (by omega)).trans w7, w8, by rw [g 4 (by omega) (by omega)]; exact w9, g5, hq, ?_, ?_, fun b hb => CodeOk_cg (by omega) (fun k z1 z2 => gh k z1) (w14 b hb), tv⟩⟩
  · rw [e111, g5]
  · rw [ei 112 (by omega), g 0 (by omega) (by omega)]; exact i2
  · rw [ei 113 (by omega), g 1 (by omega) (by omega)]; exact i3
  · rw [ei 114 (by omega), g 2 (by omega) (by omega)]; exact i4
  · rw [ei 115 (by omega), g 3 (by omega) (by omega)]; exact i5
  · rw [ei 116 (by omega), g 4 (by omega) (by omega)]; exact i6
  · intro j hj
    rw [ea 4 (by omega), ea 5 (by omega), ea 6 (by omega), ea 7 (by omega), ea 8 (by omega), ea 9 (by omega), ea 10 (by omega), gh (1010 + j) (by omega), gh (1018 + j) (by omega), gh (1034 + j) (by omega), gh (1042 + j) (by omega), gh (1050 + j) (by omega), gh (1058 + j) (by omega), gh (1026 + j) (by omega)]
    exact t j hj
  · intro b hb
    rw [er]
    obtain ⟨p, ep, sp⟩ := so b hb
    exact ⟨p, ep, sp.cg (by omega) (fun k z1 z2 => gh k z1) (w14 b hb).2.1⟩
  · intro j hj
    rw [ea 12 (by omega), ea (14 + j) (by omega), er, gN (1070 + j) (by omega), gN (1094 + j) (by omega), gh (1082 + j) (by omega), gh (1094 + j) (by omega)]
    obtain ⟨q', e1, e2, e3, e4, e5⟩ := pl j hj
    exact ⟨q', e1, e2, e3, e4, fun i hi => by rw [gh (1110 + 10 * j + i) (by omega)]; exact e5 i hi⟩
  · intro j hj
    unfold ThV
    rw [gh (1010 + j) (by omega), gh (1018 + j) (by omega), gh (1034 + j) (by omega), gh (1042 + j) (by omega), gh (1026 + j) (by omega)]
    exact w12 j hj
  · intro j hj
    obtain ⟨u1, u2, r, u3, u4, u5⟩ := w13 j hj
    exact ⟨by rw [gh (1070 + j) (by omega)]; exact u1, by rw [gh (1082 + j) (by omega)]; exact u2, r, u3, by rw [gh (1094 + j) (by omega)]; exact u4, fun i hi => by rw [gh (1110 + 10 * j + i) (by omega)]; exact u5 i hi⟩
def PFe (k : Nat) : Prop := k = 111 ∨ k = 2
section XFE
variable {G : Gx} {X lo nx : Nat} {h0 : Hp} {c : CS} {S : MS} {ns nt np lk td q : Nat}
set_option maxRecDepth 100000 in
set_option maxHeartbeats 1000000 in
theorem x_feed36 {x : Int64} : ∀ (r q m : Nat) (c : CS) (s : Nat → Int32), XC G X lo h0 c s ns nt np lk td q → TyR (xa c) → q + r ≤ 120 → r ≤ 8 → r < m → ∃ c' : CS, F_X11_feed_36 G m (encX G X c h0) nx X x (nI r - nI 1) = some (nI (q + r), encX G X c' h0, nx) ∧ FrX PFe c c' ∧ TyR (xa c') ∧ xr c' = xr c ∧ XC G X lo h0 c' (feR x r q s) ns nt np lk td (q + r) := by
  intro r
  induction r with
  | zero =>
    intro q m c s hC hb hq h8 hm
    obtain ⟨m, rfl⟩ : ∃ q, m = q + 1 := ⟨m - 1, by omega⟩
    have e111 : xi c 111 = nI q := hC.2.1.1.1.trans hC.2.2.2.2.2.2.2.2.2.2.2.1
    rw [F_X11_feed_36_s, if_pos (show nI 0 - nI 1 < 0 by decide)]
    simp (maxSteps := 3000000) (disch := omega) only [e111, xi_xsi_s, xi_xsi_n, xl_xsi, xa_xsi, xj_xsi, xr_xsi, xsi_xsi, xi_xsl, xl_xsl_s, xl_xsl_n, xa_xsl, xj_xsl, xr_xsl, xsl_xsl, xi_xsa, xl_xsa, xa_xsa_s, xa_xsa_n, xj_xsa, xr_xsa, xsa_xsa, xi_xsj, xl_xsj, xa_xsj, xj_xsj_s, xj_xsj_n, xr_xsj, xsj_xsj, xi_xsr, xl_xsr, xa_xsr, xj_xsr, xr_xsr_s, xr_xsr_n, xsr_xsr, xk_0, xg_0_0, xg_0_1, xg_0_2, xp_0_2, xg_0_3, xg_0_4, xg_0_5, xg_0_6, xk_1, xg_1_0, xg_1_1, xp_1_1, xg_1_2, xg_1_3, xp_1_3, xg_1_4, xg_1_5, xg_1_6, xg_1_7, xg_1_8, xg_1_9, xg_1_10, xg_1_11, xp_1_11, xg_1_12, xg_1_13, xg_1_14, xg_1_15, xp_1_15, xg_1_16, xp_1_16, xg_1_17, xp_1_17, xk_26, xg_26_0, xg_26_1, xp_26_1, xg_26_2, xg_26_3, xp_26_3, xg_26_4, xg_26_5, xg_26_6, xg_26_7, xg_26_8, xg_26_9, xg_26_10, xg_26_11, xp_26_11, xg_26_12, xg_26_13, xg_26_14, xg_26_15, xp_26_15, xg_26_16, xp_26_16, xg_26_17, xp_26_17, xk_51, xg_51_0, xg_51_1, xg_51_2, xg_51_3, xg_51_4, xg_51_5, xg_51_6, xg_51_7, xp_51_7, xg_51_8, xp_51_8, xk_90, xg_90_0, xg_90_1, xg_90_2, xg_90_3, xp_90_3, xg_90_4, xg_90_5, xp_90_5, xg_90_6, xg_90_7, xp_90_7, xg_90_8, xp_90_8, xg_90_9, xp_90_9, xg_90_10, xas_2, xal_2, xal_3, xas_4, xal_4, xln_4, xas_5, xal_5, xln_5, xas_6, xal_6, xln_6, xas_7, xal_7, xln_7, xas_8, xal_8, xln_8, xas_9, xal_9, xln_9, xas0_10, xas1_10, xasb_10, xal_10, xal_11, xas_12, xal_12, xln_12, xas_27, xal_27, xal_28, xas_29, xal_29, xln_29, xas_30, xal_30, xln_30, xas_31, xal_31, xln_31, xas_32, xal_32, xln_32, xas_33, xal_33, xln_33, xas_34, xal_34, xln_34, xas0_35, xas1_35, xasb_35, xal_35, xal_36, xas_37, xal_37, xln_37, xas_88, xal_88, xln_88, xal_89, xas_89, xln_89, xas_103, xal_103, xln_103, xas_104, xal_104, xln_104, xas_105, xal_105, xln_105, xas_106, xal_106, xln_106, xas_107, xal_107, xln_107, xal_13, xal_in14, xas_in14, xln_in14, xal_38, xal_in39, xas_in39, xln_in39, xal_52, xal_in53, xas_in53, xln_in53, xal_61, xal_in62, xas_in62, xln_in62, xal_70, xal_in71, xas_in71, xln_in71, xal_79, xal_in80, xas_in80, xln_in80, xal_91, xal_in92, xas_in92, xln_in92, cl_some, nm_b, nn_some, qn_some, qn_none, zk_0, zk_1, zk_n0, zk_n1, nI_add, pk_mul, pk_sub, nI_leE, nI_ltE, nI_eqE, nI_lt0, nI_ge0, nI_eq0, nI_gt0, nI_le0, ilt_t, ilt_f, ile_t, ile_f, ieq_t, ieq_f, if_tt, if_ff, Nat.add_sub_cancel]
    exact ⟨c, rfl, FrX.rf, hb, rfl, hC⟩
  | succ r ih =>
    intro q m c s hC hb hq h8 hm
    obtain ⟨m, rfl⟩ : ∃ q, m = q + 1 := ⟨m - 1, by omega⟩
    have e111 : xi c 111 = nI q := hC.2.1.1.1.trans hC.2.2.2.2.2.2.2.2.2.2.2.1
    have key : XC G X lo h0 (xsi (xsa c 2 (upK (xa c 2) q (sxB (by8 x r)))) 111 (nI (q + 1))) (upK (upK s (10 + q) (by8 x r)) 5 (nI (q + 1))) ns nt np lk td (q + 1) := hC.fed upK_s (by omega) (fun k z1 z2 => by rw [upK_n z1, upK_n (by omega)]) (fun k z => xa_xsa_n z) rfl xi_xsi_s (fun k z => xi_xsi_n z) (fun j hj => by
      rw [xa_xsi, xa_xsa_s, upK_n (show 10 + j ≠ 5 by omega)]
      by_cases e : j = q
      · subst e; rw [upK_s, upK_s]
      · rw [upK_n e, upK_n (by omega)]
        exact hC.2.1.2.2.2.2 j (by omega)) (fun j hj => by
      rw [upK_n (show 10 + j ≠ 5 by omega)]
      by_cases e : j = q
      · subst e; rw [upK_s]; exact by8_m x r
      · rw [upK_n (by omega)]
        exact hC.2.2.2.2.2.2.2.2.2.2.2.2.2.2.2.2 j (by omega))
    have hb' : TyR (xa (xsi (xsa c 2 (upK (xa c 2) q (sxB (by8 x r)))) 111 (nI (q + 1)))) := fun j hj => by
      rw [xa_xsi, xa_xsa_s]
      by_cases e : j = q
      · subst e; rw [upK_s]; exact fits_sx _
      · rw [upK_n e]; exact hb j hj
    obtain ⟨c', r1, r2, r3, r4, r5⟩ := ih (q + 1) m _ _ key hb' (by omega) (by omega) (by omega)
    have e8 : nI 8 * nI r = nI (8 * r) := (Int32.ofNat_mul 8 r).symm
    have efb := fe_byte x (show r < 8 by omega)
    rw [pk_sub (show 1 ≤ r + 1 by omega), Nat.add_sub_cancel, F_X11_feed_36_s, if_neg (nI_pos (show r < 2 ^ 31 by omega)), e8, efb]
    simp (maxSteps := 3000000) (disch := omega) only [e111, sx_sx, xi_xsi_s, xi_xsi_n, xl_xsi, xa_xsi, xj_xsi, xr_xsi, xsi_xsi, xi_xsl, xl_xsl_s, xl_xsl_n, xa_xsl, xj_xsl, xr_xsl, xsl_xsl, xi_xsa, xl_xsa, xa_xsa_s, xa_xsa_n, xj_xsa, xr_xsa, xsa_xsa, xi_xsj, xl_xsj, xa_xsj, xj_xsj_s, xj_xsj_n, xr_xsj, xsj_xsj, xi_xsr, xl_xsr, xa_xsr, xj_xsr, xr_xsr_s, xr_xsr_n, xsr_xsr, xk_0, xg_0_0, xg_0_1, xg_0_2, xp_0_2, xg_0_3, xg_0_4, xg_0_5, xg_0_6, xk_1, xg_1_0, xg_1_1, xp_1_1, xg_1_2, xg_1_3, xp_1_3, xg_1_4, xg_1_5, xg_1_6, xg_1_7, xg_1_8, xg_1_9, xg_1_10, xg_1_11, xp_1_11, xg_1_12, xg_1_13, xg_1_14, xg_1_15, xp_1_15, xg_1_16, xp_1_16, xg_1_17, xp_1_17, xk_26, xg_26_0, xg_26_1, xp_26_1, xg_26_2, xg_26_3, xp_26_3, xg_26_4, xg_26_5, xg_26_6, xg_26_7, xg_26_8, xg_26_9, xg_26_10, xg_26_11, xp_26_11, xg_26_12, xg_26_13, xg_26_14, xg_26_15, xp_26_15, xg_26_16, xp_26_16, xg_26_17, xp_26_17, xk_51, xg_51_0, xg_51_1, xg_51_2, xg_51_3, xg_51_4, xg_51_5, xg_51_6, xg_51_7, xp_51_7, xg_51_8, xp_51_8, xk_90, xg_90_0, xg_90_1, xg_90_2, xg_90_3, xp_90_3, xg_90_4, xg_90_5, xp_90_5, xg_90_6, xg_90_7, xp_90_7, xg_90_8, xp_90_8, xg_90_9, xp_90_9, xg_90_10, xas_2, xal_2, xal_3, xas_4, xal_4, xln_4, xas_5, xal_5, xln_5, xas_6, xal_6, xln_6, xas_7, xal_7, xln_7, xas_8, xal_8, xln_8, xas_9, xal_9, xln_9, xas0_10, xas1_10, xasb_10, xal_10, xal_11, xas_12, xal_12, xln_12, xas_27, xal_27, xal_28, xas_29, xal_29, xln_29, xas_30, xal_30, xln_30, xas_31, xal_31, xln_31, xas_32, xal_32, xln_32, xas_33, xal_33, xln_33, xas_34, xal_34, xln_34, xas0_35, xas1_35, xasb_35, xal_35, xal_36, xas_37, xal_37, xln_37, xas_88, xal_88, xln_88, xal_89, xas_89, xln_89, xas_103, xal_103, xln_103, xas_104, xal_104, xln_104, xas_105, xal_105, xln_105, xas_106, xal_106, xln_106, xas_107, xal_107, xln_107, xal_13, xal_in14, xas_in14, xln_in14, xal_38, xal_in39, xas_in39, xln_in39, xal_52, xal_in53, xas_in53, xln_in53, xal_61, xal_in62, xas_in62, xln_in62, xal_70, xal_in71, xas_in71, xln_in71, xal_79, xal_in80, xas_in80, xln_in80, xal_91, xal_in92, xas_in92, xln_in92, cl_some, nm_b, nn_some, qn_some, qn_none, zk_0, zk_1, zk_n0, zk_n1, nI_add, pk_mul, pk_sub, nI_leE, nI_ltE, nI_eqE, nI_lt0, nI_ge0, nI_eq0, nI_gt0, nI_le0, ilt_t, ilt_f, ile_t, ile_f, ieq_t, ieq_f, if_tt, if_ff, Nat.add_sub_cancel]
    rw [show nI r + -1 = nI r - nI 1 from (Int32.sub_eq_add_neg (nI r) (nI 1)).symm, show q + (r + 1) = q + 1 + r by omega]
    exact ⟨c', r1, ((FrX.sa (P := PFe) (Or.inr rfl)).trans (FrX.si (P := PFe) (Or.inl rfl)) (fun _ z => z) (fun _ z => z)).trans r2 (fun _ z => z) (fun _ z => z), r3, r4, r5⟩
set_option maxRecDepth 100000 in
set_option maxHeartbeats 1000000 in
theorem x_feed (hC : XC G X lo h0 c (ma S 1) ns nt np lk td q) (hb : TyR (xa c)) (x : Int64) (n : Int32) : ∃ (c' : CS) (q' : Nat), F_X11_feed G (encX G X c h0) nx X x n = some ((feedF S q x n).1, encX G X c' h0, nx) ∧ FrX PFe c c' ∧ TyR (xa c') ∧ xr c' = xr c ∧ XC G X lo h0 c' (feedF S q x n).2 ns nt np lk td q' := by
  have e111 : xi c 111 = nI q := hC.2.1.1.1.trans hC.2.2.2.2.2.2.2.2.2.2.2.1
  have hq : q ≤ 120 := hC.2.2.2.2.2.2.2.2.2.2.2.2.1
  have sf : ∀ y : Int32, ∃ (c' : CS) (q' : Nat), some (y, encX G X c h0, nx) = some ((y, ma S 1).1, encX G X c' h0, nx) ∧ FrX PFe c c' ∧ TyR (xa c') ∧ xr c' = xr c ∧ XC G X lo h0 c' (y, ma S 1).2 ns nt np lk td q' := fun y => ⟨c, q, rfl, FrX.rf, hb, rfl, hC⟩
  unfold F_X11_feed F_X11_feed_11 feedF
  by_cases c1 : n < nI 1
  · rw [if_pos c1, if_pos (bIn_0l c1)]
    exact sf _
  · rw [if_neg c1]
    by_cases c2 : n ≤ nI 8
    · have cz : ¬ bIn n (nI 1) (nI 8) = 0 := fun z => absurd (z.symm.trans (bIn_1 (Int32.not_lt.mp c1) c2)) (by decide)
      rw [if_pos c2, if_neg cz]
      obtain ⟨n, hn1, hn8, rfl⟩ := bIn_lh (by omega) (by omega) cz
      rw [nI_clamp (by omega)]
      simp (maxSteps := 3000000) (disch := omega) only [e111, xi_xsi_s, xi_xsi_n, xl_xsi, xa_xsi, xj_xsi, xr_xsi, xsi_xsi, xi_xsl, xl_xsl_s, xl_xsl_n, xa_xsl, xj_xsl, xr_xsl, xsl_xsl, xi_xsa, xl_xsa, xa_xsa_s, xa_xsa_n, xj_xsa, xr_xsa, xsa_xsa, xi_xsj, xl_xsj, xa_xsj, xj_xsj_s, xj_xsj_n, xr_xsj, xsj_xsj, xi_xsr, xl_xsr, xa_xsr, xj_xsr, xr_xsr_s, xr_xsr_n, xsr_xsr, xk_0, xg_0_0, xg_0_1, xg_0_2, xp_0_2, xg_0_3, xg_0_4, xg_0_5, xg_0_6, xk_1, xg_1_0, xg_1_1, xp_1_1, xg_1_2, xg_1_3, xp_1_3, xg_1_4, xg_1_5, xg_1_6, xg_1_7, xg_1_8, xg_1_9, xg_1_10, xg_1_11, xp_1_11, xg_1_12, xg_1_13, xg_1_14, xg_1_15, xp_1_15, xg_1_16, xp_1_16, xg_1_17, xp_1_17, xk_26, xg_26_0, xg_26_1, xp_26_1, xg_26_2, xg_26_3, xp_26_3, xg_26_4, xg_26_5, xg_26_6, xg_26_7, xg_26_8, xg_26_9, xg_26_10, xg_26_11, xp_26_11, xg_26_12, xg_26_13, xg_26_14, xg_26_15, xp_26_15, xg_26_16, xp_26_16, xg_26_17, xp_26_17, xk_51, xg_51_0, xg_51_1, xg_51_2, xg_51_3, xg_51_4, xg_51_5, xg_51_6, xg_51_7, xp_51_7, xg_51_8, xp_51_8, xk_90, xg_90_0, xg_90_1, xg_90_2, xg_90_3, xp_90_3, xg_90_4, xg_90_5, xp_90_5, xg_90_6, xg_90_7, xp_90_7, xg_90_8, xp_90_8, xg_90_9, xp_90_9, xg_90_10, xas_2, xal_2, xal_3, xas_4, xal_4, xln_4, xas_5, xal_5, xln_5, xas_6, xal_6, xln_6, xas_7, xal_7, xln_7, xas_8, xal_8, xln_8, xas_9, xal_9, xln_9, xas0_10, xas1_10, xasb_10, xal_10, xal_11, xas_12, xal_12, xln_12, xas_27, xal_27, xal_28, xas_29, xal_29, xln_29, xas_30, xal_30, xln_30, xas_31, xal_31, xln_31, xas_32, xal_32, xln_32, xas_33, xal_33, xln_33, xas_34, xal_34, xln_34, xas0_35, xas1_35, xasb_35, xal_35, xal_36, xas_37, xal_37, xln_37, xas_88, xal_88, xln_88, xal_89, xas_89, xln_89, xas_103, xal_103, xln_103, xas_104, xal_104, xln_104, xas_105, xal_105, xln_105, xas_106, xal_106, xln_106, xas_107, xal_107, xln_107, xal_13, xal_in14, xas_in14, xln_in14, xal_38, xal_in39, xas_in39, xln_in39, xal_52, xal_in53, xas_in53, xln_in53, xal_61, xal_in62, xas_in62, xln_in62, xal_70, xal_in71, xas_in71, xln_in71, xal_79, xal_in80, xas_in80, xln_in80, xal_91, xal_in92, xas_in92, xln_in92, cl_some, nm_b, nn_some, qn_some, qn_none, zk_0, zk_1, zk_n0, zk_n1, nI_add, pk_mul, pk_sub, nI_leE, nI_ltE, nI_eqE, nI_lt0, nI_ge0, nI_eq0, nI_gt0, nI_le0, ilt_t, ilt_f, ile_t, ile_f, ieq_t, ieq_f, if_tt, if_ff, Nat.add_sub_cancel]
      by_cases c3 : q + n ≤ 120
      · rw [if_pos c3, if_pos c3]
        obtain ⟨c', r1, r2, r3, r4, r5⟩ := x_feed36 (x := x) (nx := nx) n q fuelL c (ma S 1) hC hb c3 (by omega) (by unfold fuelL; omega)
        rw [pk_sub hn1] at r1
        exact ⟨c', q + n, r1, r2, r3, r4, r5⟩
      · rw [if_neg c3, if_neg c3]
        exact sf _
    · rw [if_neg c2, if_pos (bIn_0r (Int32.not_le.mp c2))]
      exact sf _
end XFE
