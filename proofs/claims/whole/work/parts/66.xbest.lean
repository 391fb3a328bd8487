/-! THE CLASS: the best of all sets -/
def cntS (lk : Nat) : Nat → Nat
  | 0 => 0
  | n + 1 => cntS lk n + if cnT n = lk then 1 else 0
theorem cntS_1 {lk n : Nat} (h : cnT n = lk) : cntS lk (n + 1) = cntS lk n + 1 := by
  show cntS lk n + (if cnT n = lk then 1 else 0) = _
  rw [if_pos h]
theorem cntS_0 {lk n : Nat} (h : ¬ cnT n = lk) : cntS lk (n + 1) = cntS lk n := by
  show cntS lk n + (if cnT n = lk then 1 else 0) = _
  rw [if_neg h]
  rfl
theorem cntS_mono {lk a : Nat} : ∀ {b : Nat}, a ≤ b → cntS lk a ≤ cntS lk b
  | 0, h => by
    obtain rfl : a = 0 := by omega
    exact Nat.le_refl _
  | b + 1, h => by
    by_cases c : a = b + 1
    · subst c; exact Nat.le_refl _
    · exact Nat.le_trans (cntS_mono (by omega)) (Nat.le_add_right _ _)
theorem cntS_lt {lk a b : Nat} (h : a < b) (hc : cnT a = lk) : cntS lk a < cntS lk b := by
  have := cntS_mono (lk := lk) (a := a + 1) (b := b) h
  rw [cntS_1 hc] at this
  omega
set_option maxRecDepth 100000 in
theorem cnt_56a : ∀ lk : Fin 4, cntS lk.val 256 ≤ 56 := by decide +kernel
theorem cnt_56 {lk n : Nat} (h3 : lk ≤ 3) (hn : n ≤ 256) : cntS lk n ≤ 56 := Nat.le_trans (cntS_mono hn) (cnt_56a ⟨lk, by omega⟩)
theorem cnT_le {n : Nat} : cnT n ≤ 8 := by unfold cnT; omega
theorem cnt_pos {lk nt : Nat} (h : lk ≤ nt) (h3 : lk ≤ 3) : 0 < cntS lk (2 ^ nt) := by
  have h1 : cnT (2 ^ lk - 1) = lk := by
    rcases (show lk = 0 ∨ lk = 1 ∨ lk = 2 ∨ lk = 3 by omega) with rfl | rfl | rfl | rfl <;> decide
  have h2 : 2 ^ lk - 1 < 2 ^ nt := Nat.lt_of_lt_of_le (Nat.sub_lt (Nat.two_pow_pos _) (by decide)) (Nat.pow_le_pow_right (by decide) h)
  exact Nat.lt_of_le_of_lt (Nat.zero_le _) (cntS_lt h2 h1)
theorem cn_T {n lk : Nat} (hn : n < 256) (h3 : lk ≤ 3) : cnF (nI n) 8 = nI lk ↔ cnT n = lk := by
  have e1 := bc_cn ⟨n, hn⟩
  have e2 := bc_nat ⟨n, hn⟩
  have e : cnF (nI n) 8 = nI (cnT n) := e1.symm.trans e2
  have := cnT_le (n := n)
  rw [e]
  exact nI_eq (by omega) (by omega)
theorem bs_has {f : Int32 → Int64} {lk : Nat} (h3 : lk ≤ 3) : ∀ n, n ≤ 256 → 0 < cntS lk n → (bsS f lk n).1 = nI 1
  | 0, _, h => absurd h (by show ¬ 0 < 0; omega)
  | n + 1, hn, h => by
    unfold bsS
    by_cases c : cnT n = lk
    · rw [if_pos ((cn_T (by omega) h3).mpr c)]
      by_cases c2 : (bsS f lk n).1 = 0 ∨ (bsS f lk n).2.1 < f (nI n)
      · rw [if_pos c2]
      · rw [if_neg c2]
        rcases bsS_1 (f := f) (lk := lk) n with q | q
        · exact absurd (Or.inl q) c2
        · exact q
    · rw [if_neg (fun q => c ((cn_T (by omega) h3).mp q))]
      rw [cntS_0 c] at h
      exact bs_has h3 n (by omega) h
def PGs (k : Nat) : Prop := k = 70 ∨ k = 104
section XGA
variable {G : Gx} {X lo nx : Nat} {h0 : Hp} {c : CS} {S : MS} {ns nt np lk td q : Nat}
set_option maxRecDepth 100000 in
set_option maxHeartbeats 1000000 in
theorem x_gather15 (hC : XC G X lo h0 c (ma S 1) ns nt np lk td q) : ∀ (r n m : Nat) (c1 : CS), n + r = 2 ^ nt → r < m → FrX PGs c c1 → xi c1 70 = nI (cntS lk n) → (∀ k, k < n → cnT k = lk → xa c1 104 (cntS lk k) = nI k) → ∃ c' : CS, F_X9_gatherSets_15 G m (encX G X c1 h0) nx (X + 90) (nI lk) (nI n) = some ((), encX G X c' h0, nx) ∧ FrX PGs c c' ∧ xi c' 70 = nI (cntS lk (2 ^ nt)) ∧ ∀ k, k < 2 ^ nt → cnT k = lk → xa c' 104 (cntS lk k) = nI k := by
  have h8 := x_nt8 hC
  have h256 := two_le h8
  have hlk := lk_le hC
  have esh : nI 1 <<< (nI nt &&& 31) = nI (2 ^ nt) := shl_n h8
  intro r
  induction r with
  | zero =>
    intro n m c1 hn hm f1 h70 h104
    obtain ⟨m, rfl⟩ : ∃ q, m = q + 1 := ⟨m - 1, by omega⟩
    obtain rfl : n = 2 ^ nt := by omega
    have h5 : xi c1 113 = nI nt := (f1.i 113 (by unfold PGs; omega)).trans (x_thC hC)
    refine ⟨c1, ?_, f1, h70, h104⟩
    rw [F_X9_gatherSets_15_s]
    simp (maxSteps := 3000000) (disch := omega) only [h5, esh, xi_xsi_s, xi_xsi_n, xl_xsi, xa_xsi, xj_xsi, xr_xsi, xsi_xsi, xi_xsl, xl_xsl_s, xl_xsl_n, xa_xsl, xj_xsl, xr_xsl, xsl_xsl, xi_xsa, xl_xsa, xa_xsa_s, xa_xsa_n, xj_xsa, xr_xsa, xsa_xsa, xi_xsj, xl_xsj, xa_xsj, xj_xsj_s, xj_xsj_n, xr_xsj, xsj_xsj, xi_xsr, xl_xsr, xa_xsr, xj_xsr, xr_xsr_s, xr_xsr_n, xsr_xsr, xk_0, xg_0_0, xg_0_1, xg_0_2, xp_0_2, xg_0_3, xg_0_4, xg_0_5, xg_0_6, xk_1, xg_1_0, xg_1_1, xp_1_1, xg_1_2, xg_1_3, xp_1_3, xg_1_4, xg_1_5, xg_1_6, xg_1_7, xg_1_8, xg_1_9, xg_1_10, xg_1_11, xp_1_11, xg_1_12, xg_1_13, xg_1_14, xg_1_15, xp_1_15, xg_1_16, xp_1_16, xg_1_17, xp_1_17, xk_26, xg_26_0, xg_26_1, xp_26_1, xg_26_2, xg_26_3, xp_26_3, xg_26_4, xg_26_5, xg_26_6, xg_26_7, xg_26_8, xg_26_9, xg_26_10, xg_26_11, xp_26_11, xg_26_12, xg_26_13, xg_26_14, xg_26_15, xp_26_15, xg_26_16, xp_26_16, xg_26_17, xp_26_17, xk_51, xg_51_0, xg_51_1, xg_51_2, xg_51_3, xg_51_4, xg_51_5, xg_51_6, xg_51_7, xp_51_7, xg_51_8, xp_51_8, xk_90, xg_90_0, xg_90_1, xg_90_2, xg_90_3, xp_90_3, xg_90_4, xg_90_5, xp_90_5, xg_90_6, xg_90_7, xp_90_7, xg_90_8, xp_90_8, xg_90_9, xp_90_9, xg_90_10, xas_2, xal_2, xal_3, xas_4, xal_4, xln_4, xas_5, xal_5, xln_5, xas_6, xal_6, xln_6, xas_7, xal_7, xln_7, xas_8, xal_8, xln_8, xas_9, xal_9, xln_9, xas0_10, xas1_10, xasb_10, xal_10, xal_11, xas_12, xal_12, xln_12, xas_27, xal_27, xal_28, xas_29, xal_29, xln_29, xas_30, xal_30, xln_30, xas_31, xal_31, xln_31, xas_32, xal_32, xln_32, xas_33, xal_33, xln_33, xas_34, xal_34, xln_34, xas0_35, xas1_35, xasb_35, xal_35, xal_36, xas_37, xal_37, xln_37, xas_88, xal_88, xln_88, xal_89, xas_89, xln_89, xas_103, xal_103, xln_103, xas_104, xal_104, xln_104, xas_105, xal_105, xln_105, xas_106, xal_106, xln_106, xas_107, xal_107, xln_107, xal_13, xal_in14, xas_in14, xln_in14, xal_38, xal_in39, xas_in39, xln_in39, xal_52, xal_in53, xas_in53, xln_in53, xal_61, xal_in62, xas_in62, xln_in62, xal_70, xal_in71, xas_in71, xln_in71, xal_79, xal_in80, xas_in80, xln_in80, xal_91, xal_in92, xas_in92, xln_in92, cl_some, nm_b, nn_some, qn_some, qn_none, zk_0, zk_1, zk_n0, zk_n1, nI_add, pk_mul, pk_sub, nI_leE, nI_ltE, nI_eqE, nI_lt0, nI_ge0, nI_eq0, nI_gt0, nI_le0, ilt_t, ilt_f, ile_t, ile_f, ieq_t, ieq_f, if_tt, if_ff, Nat.add_sub_cancel]
  | succ r ih =>
    intro n m c1 hn hm f1 h70 h104
    obtain ⟨m, rfl⟩ : ∃ q, m = q + 1 := ⟨m - 1, by omega⟩
    have h5 : xi c1 113 = nI nt := (f1.i 113 (by unfold PGs; omega)).trans (x_thC hC)
    have ebc : ∀ h : Hp, F_J6_bitCount_0f7a4 G h nx (nI n) = some (nI (cnT n), h, nx) := fun h => by
      rw [x_bitCount]
      exact congrArg (fun z => some (z, h, nx)) (bc_nat ⟨n, by omega⟩)
    have hcn := cnT_le (n := n)
    have e56 := cnt_56 (lk := lk) (n := n) hlk.2 (by omega)
    rw [F_X9_gatherSets_15_s]
    unfold F_X9_gatherSets_65
    by_cases c1' : cnT n = lk
    · have e1 := cntS_1 c1'
      have e57 := cnt_56 (lk := lk) (n := n + 1) hlk.2 (by omega)
      obtain ⟨c', r1, r2⟩ := ih (n + 1) m (xsi (xsa c1 104 (upK (xa c1 104) (cntS lk n) (nI n))) 70 (nI (cntS lk n + 1))) (by omega) (by omega) ((f1.trans (FrX.sa (P := PGs) (Or.inr rfl)) (fun _ z => z) (fun _ z => z)).trans (FrX.si (P := PGs) (Or.inl rfl)) (fun _ z => z) (fun _ z => z)) (by rw [xi_xsi_s, e1]) (fun k hk hc => by
        rw [xa_xsi, xa_xsa_s]
        by_cases e : k = n
        · subst e; exact upK_s
        · have := cntS_lt (lk := lk) (a := k) (b := n) (by omega) hc
          rw [upK_n (by omega)]
          exact h104 k (by omega) hc)
      refine ⟨c', ?_, r2⟩
      simp (maxSteps := 3000000) (disch := omega) only [h5, esh, ebc, h70, xi_xsi_s, xi_xsi_n, xl_xsi, xa_xsi, xj_xsi, xr_xsi, xsi_xsi, xi_xsl, xl_xsl_s, xl_xsl_n, xa_xsl, xj_xsl, xr_xsl, xsl_xsl, xi_xsa, xl_xsa, xa_xsa_s, xa_xsa_n, xj_xsa, xr_xsa, xsa_xsa, xi_xsj, xl_xsj, xa_xsj, xj_xsj_s, xj_xsj_n, xr_xsj, xsj_xsj, xi_xsr, xl_xsr, xa_xsr, xj_xsr, xr_xsr_s, xr_xsr_n, xsr_xsr, xk_0, xg_0_0, xg_0_1, xg_0_2, xp_0_2, xg_0_3, xg_0_4, xg_0_5, xg_0_6, xk_1, xg_1_0, xg_1_1, xp_1_1, xg_1_2, xg_1_3, xp_1_3, xg_1_4, xg_1_5, xg_1_6, xg_1_7, xg_1_8, xg_1_9, xg_1_10, xg_1_11, xp_1_11, xg_1_12, xg_1_13, xg_1_14, xg_1_15, xp_1_15, xg_1_16, xp_1_16, xg_1_17, xp_1_17, xk_26, xg_26_0, xg_26_1, xp_26_1, xg_26_2, xg_26_3, xp_26_3, xg_26_4, xg_26_5, xg_26_6, xg_26_7, xg_26_8, xg_26_9, xg_26_10, xg_26_11, xp_26_11, xg_26_12, xg_26_13, xg_26_14, xg_26_15, xp_26_15, xg_26_16, xp_26_16, xg_26_17, xp_26_17, xk_51, xg_51_0, xg_51_1, xg_51_2, xg_51_3, xg_51_4, xg_51_5, xg_51_6, xg_51_7, xp_51_7, xg_51_8, xp_51_8, xk_90, xg_90_0, xg_90_1, xg_90_2, xg_90_3, xp_90_3, xg_90_4, xg_90_5, xp_90_5, xg_90_6, xg_90_7, xp_90_7, xg_90_8, xp_90_8, xg_90_9, xp_90_9, xg_90_10, xas_2, xal_2, xal_3, xas_4, xal_4, xln_4, xas_5, xal_5, xln_5, xas_6, xal_6, xln_6, xas_7, xal_7, xln_7, xas_8, xal_8, xln_8, xas_9, xal_9, xln_9, xas0_10, xas1_10, xasb_10, xal_10, xal_11, xas_12, xal_12, xln_12, xas_27, xal_27, xal_28, xas_29, xal_29, xln_29, xas_30, xal_30, xln_30, xas_31, xal_31, xln_31, xas_32, xal_32, xln_32, xas_33, xal_33, xln_33, xas_34, xal_34, xln_34, xas0_35, xas1_35, xasb_35, xal_35, xal_36, xas_37, xal_37, xln_37, xas_88, xal_88, xln_88, xal_89, xas_89, xln_89, xas_103, xal_103, xln_103, xas_104, xal_104, xln_104, xas_105, xal_105, xln_105, xas_106, xal_106, xln_106, xas_107, xal_107, xln_107, xal_13, xal_in14, xas_in14, xln_in14, xal_38, xal_in39, xas_in39, xln_in39, xal_52, xal_in53, xas_in53, xln_in53, xal_61, xal_in62, xas_in62, xln_in62, xal_70, xal_in71, xas_in71, xln_in71, xal_79, xal_in80, xas_in80, xln_in80, xal_91, xal_in92, xas_in92, xln_in92, cl_some, nm_b, nn_some, qn_some, qn_none, zk_0, zk_1, zk_n0, zk_n1, nI_add, pk_mul, pk_sub, nI_leE, nI_ltE, nI_eqE, nI_lt0, nI_ge0, nI_eq0, nI_gt0, nI_le0, ilt_t, ilt_f, ile_t, ile_f, ieq_t, ieq_f, if_tt, if_ff, Nat.add_sub_cancel]
      exact r1
    · have e1 := cntS_0 c1'
      obtain ⟨c', r1, r2⟩ := ih (n + 1) m c1 (by omega) (by omega) f1 (by rw [e1]; exact h70) (fun k hk hc => by
        by_cases e : k = n
        · subst e; exact absurd hc c1'
        · exact h104 k (by omega) hc)
      refine ⟨c', ?_, r2⟩
      simp (maxSteps := 3000000) (disch := omega) only [h5, esh, ebc, h70, xi_xsi_s, xi_xsi_n, xl_xsi, xa_xsi, xj_xsi, xr_xsi, xsi_xsi, xi_xsl, xl_xsl_s, xl_xsl_n, xa_xsl, xj_xsl, xr_xsl, xsl_xsl, xi_xsa, xl_xsa, xa_xsa_s, xa_xsa_n, xj_xsa, xr_xsa, xsa_xsa, xi_xsj, xl_xsj, xa_xsj, xj_xsj_s, xj_xsj_n, xr_xsj, xsj_xsj, xi_xsr, xl_xsr, xa_xsr, xj_xsr, xr_xsr_s, xr_xsr_n, xsr_xsr, xk_0, xg_0_0, xg_0_1, xg_0_2, xp_0_2, xg_0_3, xg_0_4, xg_0_5, xg_0_6, xk_1, xg_1_0, xg_1_1, xp_1_1, xg_1_2, xg_1_3, xp_1_3, xg_1_4, xg_1_5, xg_1_6, xg_1_7, xg_1_8, xg_1_9, xg_1_10, xg_1_11, xp_1_11, xg_1_12, xg_1_13, xg_1_14, xg_1_15, xp_1_15, xg_1_16, xp_1_16, xg_1_17, xp_1_17, xk_26, xg_26_0, xg_26_1, xp_26_1, xg_26_2, xg_26_3, xp_26_3, xg_26_4, xg_26_5, xg_26_6, xg_26_7, xg_26_8, xg_26_9, xg_26_10, xg_26_11, xp_26_11, xg_26_12, xg_26_13, xg_26_14, xg_26_15, xp_26_15, xg_26_16, xp_26_16, xg_26_17, xp_26_17, xk_51, xg_51_0, xg_51_1, xg_51_2, xg_51_3, xg_51_4, xg_51_5, xg_51_6, xg_51_7, xp_51_7, xg_51_8, xp_51_8, xk_90, xg_90_0, xg_90_1, xg_90_2, xg_90_3, xp_90_3, xg_90_4, xg_90_5, xp_90_5, xg_90_6, xg_90_7, xp_90_7, xg_90_8, xp_90_8, xg_90_9, xp_90_9, xg_90_10, xas_2, xal_2, xal_3, xas_4, xal_4, xln_4, xas_5, xal_5, xln_5, xas_6, xal_6, xln_6, xas_7, xal_7, xln_7, xas_8, xal_8, xln_8, xas_9, xal_9, xln_9, xas0_10, xas1_10, xasb_10, xal_10, xal_11, xas_12, xal_12, xln_12, xas_27, xal_27, xal_28, xas_29, xal_29, xln_29, xas_30, xal_30, xln_30, xas_31, xal_31, xln_31, xas_32, xal_32, xln_32, xas_33, xal_33, xln_33, xas_34, xal_34, xln_34, xas0_35, xas1_35, xasb_35, xal_35, xal_36, xas_37, xal_37, xln_37, xas_88, xal_88, xln_88, xal_89, xas_89, xln_89, xas_103, xal_103, xln_103, xas_104, xal_104, xln_104, xas_105, xal_105, xln_105, xas_106, xal_106, xln_106, xas_107, xal_107, xln_107, xal_13, xal_in14, xas_in14, xln_in14, xal_38, xal_in39, xas_in39, xln_in39, xal_52, xal_in53, xas_in53, xln_in53, xal_61, xal_in62, xas_in62, xln_in62, xal_70, xal_in71, xas_in71, xln_in71, xal_79, xal_in80, xas_in80, xln_in80, xal_91, xal_in92, xas_in92, xln_in92, cl_some, nm_b, nn_some, qn_some, qn_none, zk_0, zk_1, zk_n0, zk_n1, nI_add, pk_mul, pk_sub, nI_leE, nI_ltE, nI_eqE, nI_lt0, nI_ge0, nI_eq0, nI_gt0, nI_le0, ilt_t, ilt_f, ile_t, ile_f, ieq_t, ieq_f, if_tt, if_ff, Nat.add_sub_cancel]
      exact r1
theorem x_gather (hC : XC G X lo h0 c (ma S 1) ns nt np lk td q) : ∃ c' : CS, F_X9_gatherSets G (encX G X c h0) nx (X + 90) = some ((), encX G X c' h0, nx) ∧ FrX PGs c c' ∧ xi c' 70 = nI (cntS lk (2 ^ nt)) ∧ ∀ k, k < 2 ^ nt → cnT k = lk → xa c' 104 (cntS lk k) = nI k := by
  have el := x_looksOrAll (nx := nx) hC
  have h256 := two_le (x_nt8 hC)
  have f1 : FrX PGs c (xsi c 70 (nI 0)) := FrX.si (P := PGs) (Or.inl rfl)
  obtain ⟨c', r1, f2, r2⟩ := x_gather15 (nx := nx) (hC.fr f1 (fun k z => by unfold PGs at z; omega)) (2 ^ nt) 0 fuelL (xsi c 70 (nI 0)) (by omega) (by unfold fuelL; omega) FrX.rf xi_xsi_s (fun k hk => absurd hk (by omega))
  refine ⟨c', ?_, f1.trans f2 (fun _ z => z) (fun _ z => z), r2⟩
  unfold F_X9_gatherSets
  simp (maxSteps := 3000000) (disch := omega) only [el, xi_xsi_s, xi_xsi_n, xl_xsi, xa_xsi, xj_xsi, xr_xsi, xsi_xsi, xi_xsl, xl_xsl_s, xl_xsl_n, xa_xsl, xj_xsl, xr_xsl, xsl_xsl, xi_xsa, xl_xsa, xa_xsa_s, xa_xsa_n, xj_xsa, xr_xsa, xsa_xsa, xi_xsj, xl_xsj, xa_xsj, xj_xsj_s, xj_xsj_n, xr_xsj, xsj_xsj, xi_xsr, xl_xsr, xa_xsr, xj_xsr, xr_xsr_s, xr_xsr_n, xsr_xsr, xk_0, xg_0_0, xg_0_1, xg_0_2, xp_0_2, xg_0_3, xg_0_4, xg_0_5, xg_0_6, xk_1, xg_1_0, xg_1_1, xp_1_1, xg_1_2, xg_1_3, xp_1_3, xg_1_4, xg_1_5, xg_1_6, xg_1_7, xg_1_8, xg_1_9, xg_1_10, xg_1_11, xp_1_11, xg_1_12, xg_1_13, xg_1_14, xg_1_15, xp_1_15, xg_1_16, xp_1_16, xg_1_17, xp_1_17, xk_26, xg_26_0, xg_26_1, xp_26_1, xg_26_2, xg_26_3, xp_26_3, xg_26_4, xg_26_5, xg_26_6, xg_26_7, xg_26_8, xg_26_9, xg_26_10, xg_26_11, xp_26_11, xg_26_12, xg_26_13, xg_26_14, xg_26_15, xp_26_15, xg_26_16, xp_26_16, xg_26_17, xp_26_17, xk_51, xg_51_0, xg_51_1, xg_51_2, xg_51_3, xg_51_4, xg_51_5, xg_51_6, xg_51_7, xp_51_7, xg_51_8, xp_51_8, xk_90, xg_90_0, xg_90_1, xg_90_2, xg_90_3, xp_90_3, xg_90_4, xg_90_5, xp_90_5, xg_90_6, xg_90_7, xp_90_7, xg_90_8, xp_90_8, xg_90_9, xp_90_9, xg_90_10, xas_2, xal_2, xal_3, xas_4, xal_4, xln_4, xas_5, xal_5, xln_5, xas_6, xal_6, xln_6, xas_7, xal_7, xln_7, xas_8, xal_8, xln_8, xas_9, xal_9, xln_9, xas0_10, xas1_10, xasb_10, xal_10, xal_11, xas_12, xal_12, xln_12, xas_27, xal_27, xal_28, xas_29, xal_29, xln_29, xas_30, xal_30, xln_30, xas_31, xal_31, xln_31, xas_32, xal_32, xln_32, xas_33, xal_33, xln_33, xas_34, xal_34, xln_34, xas0_35, xas1_35, xasb_35, xal_35, xal_36, xas_37, xal_37, xln_37, xas_88, xal_88, xln_88, xal_89, xas_89, xln_89, xas_103, xal_103, xln_103, xas_104, xal_104, xln_104, xas_105, xal_105, xln_105, xas_106, xal_106, xln_106, xas_107, xal_107, xln_107, xal_13, xal_in14, xas_in14, xln_in14, xal_38, xal_in39, xas_in39, xln_in39, xal_52, xal_in53, xas_in53, xln_in53, xal_61, xal_in62, xas_in62, xln_in62, xal_70, xal_in71, xas_in71, xln_in71, xal_79, xal_in80, xas_in80, xln_in80, xal_91, xal_in92, xas_in92, xln_in92, cl_some, nm_b, nn_some, qn_some, qn_none, zk_0, zk_1, zk_n0, zk_n1, nI_add, pk_mul, pk_sub, nI_leE, nI_ltE, nI_eqE, nI_lt0, nI_ge0, nI_eq0, nI_gt0, nI_le0, ilt_t, ilt_f, ile_t, ile_f, ieq_t, ieq_f, if_tt, if_ff, Nat.add_sub_cancel]
  exact r1
end XGA
/-- at best -/
def MdB (lk nt : Nat) (c : CS) : Prop := xr c 91 0 = none ∧ xi c 51 = nI 0 ∧ xi c 70 = nI (cntS lk (2 ^ nt)) ∧ ∀ k, k < 2 ^ nt → cnT k = lk → xa c 104 (cntS lk k) = nI k
theorem MdB.ok {lk nt : Nat} : MdOk (MdB lk nt) := fun c c' f h => ⟨by rw [f.r 91 (by unfold PA PWA PW; omega)]; exact h.1, by rw [f.i 51 (by unfold PA PWA PW; omega)]; exact h.2.1, by rw [f.i 70 (by unfold PA PWA PW; omega)]; exact h.2.2.1, by rw [f.a 104 (by unfold PA PWA PW; omega)]; exact h.2.2.2⟩
def PB (day k : Nat) : Prop := PL day k ∨ (day = 0 ∧ k = 90)
theorem PB.pa {day : Nat} : ∀ k, PB day k → PA k := fun k z => by
  rcases z with z | ⟨_, z⟩
  · exact pl_pa k z
  · exact Or.inr (Or.inr z)
theorem lt_min {x : Int64} {B : Nat} (h : Bd x B) (hB : B < 2 ^ 62) : ¬ x ≤ -9223372036854775808 := by
  rw [fa_le64]
  have e : (-9223372036854775808 : Int64).toInt = -9223372036854775808 := by decide
  have := h.1
  omega
section XBB
variable {G : Gx} {X lo nx : Nat} {h0 : Hp} {S : MS} {ns nt np lk td q N dd days : Nat}
def gVb (f : Int32 → Int64) (lk n : Nat) (mn : Int64) : Int64 := if (bsS f lk n).1 = 0 then mn else (bsS f lk n).2.1
theorem gVb_le {f : Int32 → Int64} {lk n B : Nat} (hf : ∀ x, Bd (f x) B) (hB : B < 2 ^ 62) : f (nI n) ≤ gVb f lk n (-9223372036854775808) ↔ ¬ ((bsS f lk n).1 = 0 ∨ (bsS f lk n).2.1 < f (nI n)) := by
  unfold gVb
  by_cases c : (bsS f lk n).1 = 0
  · rw [if_pos c]
    exact ⟨fun z => absurd z (lt_min (hf _) hB), fun z => absurd (Or.inl c) z⟩
  · rw [if_neg c]
    exact ⟨fun z w => w.elim c (fun w => absurd z (Int64.not_le.mpr w)), fun z => Int64.not_lt.mp (fun w => z (Or.inr w))⟩
set_option maxRecDepth 100000 in
set_option maxHeartbeats 1000000 in
theorem x_bb7 {m0 day left f B : Nat} {V : (Nat → Int32) → Int64} (hl1 : 1 ≤ left) (hdl : day + left = days) (hd10 : days ≤ 10) (hN : dd + days ≤ N) (hN10 : N ≤ 10) (hV : 2 ≤ left → ∀ m', m0 ≤ m' → FdP G X lo nx h0 S ns nt np lk td q N dd days (MdB lk nt) m' (day + 1) (left - 1) V) (hf : m0 + 2 + nt ≤ f) {c : CS} {s : Nat → Int32} {Q : Nat → Nat × Nat} (hT : TI G X lo h0 S ns nt np lk td q N dd days (MdB lk nt) c s Q day left) {g : Int32 → Int64} (hg : ∀ set, g set = loG nt set (ovC S nt left V) nt s) (hB : B < 2 ^ 62) (hb : ∀ x, Bd (g x) B) : ∀ (r n m : Nat) (c1 : CS), n + r = 2 ^ nt → r < m → FrX (PB day) c c1 → xa c1 (92 + day) = xa c (92 + day) → MemoA c1 S nt N dd → (day = 0 → ¬ (bsS g lk n).1 = 0 → xi c1 90 = (bsS g lk n).2.2) → ∃ c' : CS, F_X9_behindBestLooks_7 G (F_X9_behindBestLooks G f) (F_X9_behindDay G f) (F_X9_behindLooks G f) (F_X9_fromDay G f) m (encX G X c1 h0) nx (X + 90) (nI day) (gVb g lk n (-9223372036854775808)) (nI (cntS lk n)) = some ((bsS g lk (2 ^ nt)).2.1, encX G X c' h0, nx) ∧ FrX (PB day) c c' ∧ xa c' (92 + day) = xa c (92 + day) ∧ MemoA c' S nt N dd ∧ (day = 0 → xi c' 90 = (bsS g lk (2 ^ nt)).2.2) := by
  have hC := hT.1.1
  have h8 := x_nt8 hC
  have h256 := two_le h8
  have hlk := lk_le hC
  intro r
  induction r with
  | zero =>
    intro n m c1 hn hm f1 s1 m1 h90
    obtain ⟨m, rfl⟩ : ∃ q, m = q + 1 := ⟨m - 1, by omega⟩
    obtain rfl : n = 2 ^ nt := by omega
    have hT1 := hT.go MdB.ok f1 PB.pa s1 m1
    have h70 : xi c1 70 = nI (cntS lk (2 ^ nt)) := hT1.1.2.2.2.2.2.1
    have has := bs_has (f := g) hlk.2 (2 ^ nt) h256 (cnt_pos hlk.1 hlk.2)
    have hno : ¬ (bsS g lk (2 ^ nt)).1 = 0 := by rw [has]; decide
    have e56 := cnt_56 (lk := lk) (n := 2 ^ nt) hlk.2 (by omega)
    refine ⟨c1, ?_, f1, s1, m1, fun z => h90 z hno⟩
    rw [F_X9_behindBestLooks_7_s]
    unfold gVb
    rw [if_neg hno]
    simp (maxSteps := 3000000) (disch := omega) only [h70, xi_xsi_s, xi_xsi_n, xl_xsi, xa_xsi, xj_xsi, xr_xsi, xsi_xsi, xi_xsl, xl_xsl_s, xl_xsl_n, xa_xsl, xj_xsl, xr_xsl, xsl_xsl, xi_xsa, xl_xsa, xa_xsa_s, xa_xsa_n, xj_xsa, xr_xsa, xsa_xsa, xi_xsj, xl_xsj, xa_xsj, xj_xsj_s, xj_xsj_n, xr_xsj, xsj_xsj, xi_xsr, xl_xsr, xa_xsr, xj_xsr, xr_xsr_s, xr_xsr_n, xsr_xsr, xk_0, xg_0_0, xg_0_1, xg_0_2, xp_0_2, xg_0_3, xg_0_4, xg_0_5, xg_0_6, xk_1, xg_1_0, xg_1_1, xp_1_1, xg_1_2, xg_1_3, xp_1_3, xg_1_4, xg_1_5, xg_1_6, xg_1_7, xg_1_8, xg_1_9, xg_1_10, xg_1_11, xp_1_11, xg_1_12, xg_1_13, xg_1_14, xg_1_15, xp_1_15, xg_1_16, xp_1_16, xg_1_17, xp_1_17, xk_26, xg_26_0, xg_26_1, xp_26_1, xg_26_2, xg_26_3, xp_26_3, xg_26_4, xg_26_5, xg_26_6, xg_26_7, xg_26_8, xg_26_9, xg_26_10, xg_26_11, xp_26_11, xg_26_12, xg_26_13, xg_26_14, xg_26_15, xp_26_15, xg_26_16, xp_26_16, xg_26_17, xp_26_17, xk_51, xg_51_0, xg_51_1, xg_51_2, xg_51_3, xg_51_4, xg_51_5, xg_51_6, xg_51_7, xp_51_7, xg_51_8, xp_51_8, xk_90, xg_90_0, xg_90_1, xg_90_2, xg_90_3, xp_90_3, xg_90_4, xg_90_5, xp_90_5, xg_90_6, xg_90_7, xp_90_7, xg_90_8, xp_90_8, xg_90_9, xp_90_9, xg_90_10, xas_2, xal_2, xal_3, xas_4, xal_4, xln_4, xas_5, xal_5, xln_5, xas_6, xal_6, xln_6, xas_7, xal_7, xln_7, xas_8, xal_8, xln_8, xas_9, xal_9, xln_9, xas0_10, xas1_10, xasb_10, xal_10, xal_11, xas_12, xal_12, xln_12, xas_27, xal_27, xal_28, xas_29, xal_29, xln_29, xas_30, xal_30, xln_30, xas_31, xal_31, xln_31, xas_32, xal_32, xln_32, xas_33, xal_33, xln_33, xas_34, xal_34, xln_34, xas0_35, xas1_35, xasb_35, xal_35, xal_36, xas_37, xal_37, xln_37, xas_88, xal_88, xln_88, xal_89, xas_89, xln_89, xas_103, xal_103, xln_103, xas_104, xal_104, xln_104, xas_105, xal_105, xln_105, xas_106, xal_106, xln_106, xas_107, xal_107, xln_107, xal_13, xal_in14, xas_in14, xln_in14, xal_38, xal_in39, xas_in39, xln_in39, xal_52, xal_in53, xas_in53, xln_in53, xal_61, xal_in62, xas_in62, xln_in62, xal_70, xal_in71, xas_in71, xln_in71, xal_79, xal_in80, xas_in80, xln_in80, xal_91, xal_in92, xas_in92, xln_in92, cl_some, nm_b, nn_some, qn_some, qn_none, zk_0, zk_1, zk_n0, zk_n1, nI_add, pk_mul, pk_sub, nI_leE, nI_ltE, nI_eqE, nI_lt0, nI_ge0, nI_eq0, nI_gt0, nI_le0, ilt_t, ilt_f, ile_t, ile_f, ieq_t, ieq_f, if_tt, if_ff, Nat.add_sub_cancel]
  | succ r ih =>
    intro n m c1 hn hm f1 s1 m1 h90
    by_cases cn : cnT n = lk
    · obtain ⟨m, rfl⟩ : ∃ q, m = q + 1 := ⟨m - 1, by omega⟩
      have hT1 := hT.go MdB.ok f1 PB.pa s1 m1
      have h70 : xi c1 70 = nI (cntS lk (2 ^ nt)) := hT1.1.2.2.2.2.2.1
      have h104 : xa c1 104 (cntS lk n) = nI n := hT1.1.2.2.2.2.2.2 n (by omega) cn
      have e1 := cntS_1 cn
      have elt := cntS_lt (lk := lk) (a := n) (b := 2 ^ nt) (by omega) cn
      have e56 := cnt_56 (lk := lk) (n := 2 ^ nt) hlk.2 (by omega)
      obtain ⟨c2, e2, f2, s2, m2⟩ := x_go (nx := nx) MdB.ok (m := m0) (f := f) (set := n) (V := V) hl1 hdl hd10 hN hN10 hV hf (by omega) hT1
      rw [← hg] at e2
      have f12 : FrX (PB day) c c2 := f1.trans f2 (fun _ z => z) (fun k z => Or.inl z)
      have s12 := s2.trans s1
      have hT2 := hT.go MdB.ok f12 PB.pa s12 m2
      have h104' : xa c2 104 (cntS lk n) = nI n := hT2.1.2.2.2.2.2.2 n (by omega) cn
      have es : bsS g lk (n + 1) = if (bsS g lk n).1 = 0 ∨ (bsS g lk n).2.1 < g (nI n) then (nI 1, g (nI n), nI n) else bsS g lk n := by
        show (if cnF (nI n) 8 = nI lk then _ else _) = _
        rw [if_pos ((cn_T (by omega) hlk.2).mpr cn)]
      have hle := gVb_le (lk := lk) (n := n) hb hB
      rw [F_X9_behindBestLooks_7_s]
      unfold F_X9_behindBestLooks_62 F_X9_behindBestLooks_59 F_X9_behindBestLooks_62
      by_cases cb : (bsS g lk n).1 = 0 ∨ (bsS g lk n).2.1 < g (nI n)
      · rw [if_pos cb] at es
        have hnle : ¬ lg_cmp (g (nI n)) (gVb g lk n (-9223372036854775808)) ≤ 0 := fun z => hle.mp ((lg_cmp_le _ _).mp z) cb
        have eV : gVb g lk (n + 1) (-9223372036854775808) = g (nI n) := by
          unfold gVb
          rw [es]
          exact if_neg (show ¬ nI 1 = 0 by decide)
        by_cases cd : day = 0
        · subst cd
          obtain ⟨c', r1, r2⟩ := ih (n + 1) m (xsi c2 90 (nI n)) (by omega) (by omega) (f12.trans (FrX.si (P := PB 0) (Or.inr ⟨rfl, rfl⟩)) (fun _ z => z) (fun _ z => z)) s12 (m2.fr (FrX.si (P := fun k => k = 90) rfl) (fun k h1 h2 z => by omega)) (fun _ _ => by rw [es]; exact xi_xsi_s)
          refine ⟨c', ?_, r2⟩
          rw [eV, e1] at r1
          simp (maxSteps := 3000000) (disch := omega) only [h70, h104, e2, h104', xi_xsi_s, xi_xsi_n, xl_xsi, xa_xsi, xj_xsi, xr_xsi, xsi_xsi, xi_xsl, xl_xsl_s, xl_xsl_n, xa_xsl, xj_xsl, xr_xsl, xsl_xsl, xi_xsa, xl_xsa, xa_xsa_s, xa_xsa_n, xj_xsa, xr_xsa, xsa_xsa, xi_xsj, xl_xsj, xa_xsj, xj_xsj_s, xj_xsj_n, xr_xsj, xsj_xsj, xi_xsr, xl_xsr, xa_xsr, xj_xsr, xr_xsr_s, xr_xsr_n, xsr_xsr, xk_0, xg_0_0, xg_0_1, xg_0_2, xp_0_2, xg_0_3, xg_0_4, xg_0_5, xg_0_6, xk_1, xg_1_0, xg_1_1, xp_1_1, xg_1_2, xg_1_3, xp_1_3, xg_1_4, xg_1_5, xg_1_6, xg_1_7, xg_1_8, xg_1_9, xg_1_10, xg_1_11, xp_1_11, xg_1_12, xg_1_13, xg_1_14, xg_1_15, xp_1_15, xg_1_16, xp_1_16, xg_1_17, xp_1_17, xk_26, xg_26_0, xg_26_1, xp_26_1, xg_26_2, xg_26_3, xp_26_3, xg_26_4, xg_26_5, xg_26_6, xg_26_7, xg_26_8, xg_26_9, xg_26_10, xg_26_11, xp_26_11, xg_26_12, xg_26_13, xg_26_14, xg_26_15, xp_26_15, xg_26_16, xp_26_16, xg_26_17, xp_26_17, xk_51, xg_51_0, xg_51_1, xg_51_2, xg_51_3, xg_51_4, xg_51_5, xg_51_6, xg_51_7, xp_51_7, xg_51_8, xp_51_8, xk_90, xg_90_0, xg_90_1, xg_90_2, xg_90_3, xp_90_3, xg_90_4, xg_90_5, xp_90_5, xg_90_6, xg_90_7, xp_90_7, xg_90_8, xp_90_8, xg_90_9, xp_90_9, xg_90_10, xas_2, xal_2, xal_3, xas_4, xal_4, xln_4, xas_5, xal_5, xln_5, xas_6, xal_6, xln_6, xas_7, xal_7, xln_7, xas_8, xal_8, xln_8, xas_9, xal_9, xln_9, xas0_10, xas1_10, xasb_10, xal_10, xal_11, xas_12, xal_12, xln_12, xas_27, xal_27, xal_28, xas_29, xal_29, xln_29, xas_30, xal_30, xln_30, xas_31, xal_31, xln_31, xas_32, xal_32, xln_32, xas_33, xal_33, xln_33, xas_34, xal_34, xln_34, xas0_35, xas1_35, xasb_35, xal_35, xal_36, xas_37, xal_37, xln_37, xas_88, xal_88, xln_88, xal_89, xas_89, xln_89, xas_103, xal_103, xln_103, xas_104, xal_104, xln_104, xas_105, xal_105, xln_105, xas_106, xal_106, xln_106, xas_107, xal_107, xln_107, xal_13, xal_in14, xas_in14, xln_in14, xal_38, xal_in39, xas_in39, xln_in39, xal_52, xal_in53, xas_in53, xln_in53, xal_61, xal_in62, xas_in62, xln_in62, xal_70, xal_in71, xas_in71, xln_in71, xal_79, xal_in80, xas_in80, xln_in80, xal_91, xal_in92, xas_in92, xln_in92, cl_some, nm_b, nn_some, qn_some, qn_none, zk_0, zk_1, zk_n0, zk_n1, nI_add, pk_mul, pk_sub, nI_leE, nI_ltE, nI_eqE, nI_lt0, nI_ge0, nI_eq0, nI_gt0, nI_le0, ilt_t, ilt_f, ile_t, ile_f, ieq_t, ieq_f, if_tt, if_ff, Nat.add_sub_cancel]
          rw [if_neg hnle]
          exact r1
        · obtain ⟨c', r1, r2⟩ := ih (n + 1) m c2 (by omega) (by omega) f12 s12 m2 (fun z => absurd z cd)
          refine ⟨c', ?_, r2⟩
          rw [eV, e1] at r1
          simp (maxSteps := 3000000) (disch := omega) only [h70, h104, e2, h104', xsi_self, xi_xsi_s, xi_xsi_n, xl_xsi, xa_xsi, xj_xsi, xr_xsi, xsi_xsi, xi_xsl, xl_xsl_s, xl_xsl_n, xa_xsl, xj_xsl, xr_xsl, xsl_xsl, xi_xsa, xl_xsa, xa_xsa_s, xa_xsa_n, xj_xsa, xr_xsa, xsa_xsa, xi_xsj, xl_xsj, xa_xsj, xj_xsj_s, xj_xsj_n, xr_xsj, xsj_xsj, xi_xsr, xl_xsr, xa_xsr, xj_xsr, xr_xsr_s, xr_xsr_n, xsr_xsr, xk_0, xg_0_0, xg_0_1, xg_0_2, xp_0_2, xg_0_3, xg_0_4, xg_0_5, xg_0_6, xk_1, xg_1_0, xg_1_1, xp_1_1, xg_1_2, xg_1_3, xp_1_3, xg_1_4, xg_1_5, xg_1_6, xg_1_7, xg_1_8, xg_1_9, xg_1_10, xg_1_11, xp_1_11, xg_1_12, xg_1_13, xg_1_14, xg_1_15, xp_1_15, xg_1_16, xp_1_16, xg_1_17, xp_1_17, xk_26, xg_26_0, xg_26_1, xp_26_1, xg_26_2, xg_26_3, xp_26_3, xg_26_4, xg_26_5, xg_26_6, xg_26_7, xg_26_8, xg_26_9, xg_26_10, xg_26_11, xp_26_11, xg_26_12, xg_26_13, xg_26_14, xg_26_15, xp_26_15, xg_26_16, xp_26_16, xg_26_17, xp_26_17, xk_51, xg_51_0, xg_51_1, xg_51_2, xg_51_3, xg_51_4, xg_51_5, xg_51_6, xg_51_7, xp_51_7, xg_51_8, xp_51_8, xk_90, xg_90_0, xg_90_1, xg_90_2, xg_90_3, xp_90_3, xg_90_4, xg_90_5, xp_90_5, xg_90_6, xg_90_7, xp_90_7, xg_90_8, xp_90_8, xg_90_9, xp_90_9, xg_90_10, xas_2, xal_2, xal_3, xas_4, xal_4, xln_4, xas_5, xal_5, xln_5, xas_6, xal_6, xln_6, xas_7, xal_7, xln_7, xas_8, xal_8, xln_8, xas_9, xal_9, xln_9, xas0_10, xas1_10, xasb_10, xal_10, xal_11, xas_12, xal_12, xln_12, xas_27, xal_27, xal_28, xas_29, xal_29, xln_29, xas_30, xal_30, xln_30, xas_31, xal_31, xln_31, xas_32, xal_32, xln_32, xas_33, xal_33, xln_33, xas_34, xal_34, xln_34, xas0_35, xas1_35, xasb_35, xal_35, xal_36, xas_37, xal_37, xln_37, xas_88, xal_88, xln_88, xal_89, xas_89, xln_89, xas_103, xal_103, xln_103, xas_104, xal_104, xln_104, xas_105, xal_105, xln_105, xas_106, xal_106, xln_106, xas_107, xal_107, xln_107, xal_13, xal_in14, xas_in14, xln_in14, xal_38, xal_in39, xas_in39, xln_in39, xal_52, xal_in53, xas_in53, xln_in53, xal_61, xal_in62, xas_in62, xln_in62, xal_70, xal_in71, xas_in71, xln_in71, xal_79, xal_in80, xas_in80, xln_in80, xal_91, xal_in92, xas_in92, xln_in92, cl_some, nm_b, nn_some, qn_some, qn_none, zk_0, zk_1, zk_n0, zk_n1, nI_add, pk_mul, pk_sub, nI_leE, nI_ltE, nI_eqE, nI_lt0, nI_ge0, nI_eq0, nI_gt0, nI_le0, ilt_t, ilt_f, ile_t, ile_f, ieq_t, ieq_f, if_tt, if_ff, Nat.add_sub_cancel]
          rw [if_neg hnle]
          exact r1
      · rw [if_neg cb] at es
        have hle : lg_cmp (g (nI n)) (gVb g lk n (-9223372036854775808)) ≤ 0 := (lg_cmp_le _ _).mpr (hle.mpr cb)
        have eV : gVb g lk (n + 1) (-9223372036854775808) = gVb g lk n (-9223372036854775808) := by
          unfold gVb
          rw [es]
        obtain ⟨c', r1, r2⟩ := ih (n + 1) m c2 (by omega) (by omega) f12 s12 m2 (fun z h => by
          rw [es] at h ⊢
          subst z
          rw [f2.i 90 (by unfold PL PWA PW; omega)]
          exact h90 rfl h)
        refine ⟨c', ?_, r2⟩
        rw [eV, e1] at r1
        simp (maxSteps := 3000000) (disch := omega) only [h70, h104, e2, h104', xi_xsi_s, xi_xsi_n, xl_xsi, xa_xsi, xj_xsi, xr_xsi, xsi_xsi, xi_xsl, xl_xsl_s, xl_xsl_n, xa_xsl, xj_xsl, xr_xsl, xsl_xsl, xi_xsa, xl_xsa, xa_xsa_s, xa_xsa_n, xj_xsa, xr_xsa, xsa_xsa, xi_xsj, xl_xsj, xa_xsj, xj_xsj_s, xj_xsj_n, xr_xsj, xsj_xsj, xi_xsr, xl_xsr, xa_xsr, xj_xsr, xr_xsr_s, xr_xsr_n, xsr_xsr, xk_0, xg_0_0, xg_0_1, xg_0_2, xp_0_2, xg_0_3, xg_0_4, xg_0_5, xg_0_6, xk_1, xg_1_0, xg_1_1, xp_1_1, xg_1_2, xg_1_3, xp_1_3, xg_1_4, xg_1_5, xg_1_6, xg_1_7, xg_1_8, xg_1_9, xg_1_10, xg_1_11, xp_1_11, xg_1_12, xg_1_13, xg_1_14, xg_1_15, xp_1_15, xg_1_16, xp_1_16, xg_1_17, xp_1_17, xk_26, xg_26_0, xg_26_1, xp_26_1, xg_26_2, xg_26_3, xp_26_3, xg_26_4, xg_26_5, xg_26_6, xg_26_7, xg_26_8, xg_26_9, xg_26_10, xg_26_11, xp_26_11, xg_26_12, xg_26_13, xg_26_14, xg_26_15, xp_26_15, xg_26_16, xp_26_16, xg_26_17, xp_26_17, xk_51, xg_51_0, xg_51_1, xg_51_2, xg_51_3, xg_51_4, xg_51_5, xg_51_6, xg_51_7, xp_51_7, xg_51_8, xp_51_8, xk_90, xg_90_0, xg_90_1, xg_90_2, xg_90_3, xp_90_3, xg_90_4, xg_90_5, xp_90_5, xg_90_6, xg_90_7, xp_90_7, xg_90_8, xp_90_8, xg_90_9, xp_90_9, xg_90_10, xas_2, xal_2, xal_3, xas_4, xal_4, xln_4, xas_5, xal_5, xln_5, xas_6, xal_6, xln_6, xas_7, xal_7, xln_7, xas_8, xal_8, xln_8, xas_9, xal_9, xln_9, xas0_10, xas1_10, xasb_10, xal_10, xal_11, xas_12, xal_12, xln_12, xas_27, xal_27, xal_28, xas_29, xal_29, xln_29, xas_30, xal_30, xln_30, xas_31, xal_31, xln_31, xas_32, xal_32, xln_32, xas_33, xal_33, xln_33, xas_34, xal_34, xln_34, xas0_35, xas1_35, xasb_35, xal_35, xal_36, xas_37, xal_37, xln_37, xas_88, xal_88, xln_88, xal_89, xas_89, xln_89, xas_103, xal_103, xln_103, xas_104, xal_104, xln_104, xas_105, xal_105, xln_105, xas_106, xal_106, xln_106, xas_107, xal_107, xln_107, xal_13, xal_in14, xas_in14, xln_in14, xal_38, xal_in39, xas_in39, xln_in39, xal_52, xal_in53, xas_in53, xln_in53, xal_61, xal_in62, xas_in62, xln_in62, xal_70, xal_in71, xas_in71, xln_in71, xal_79, xal_in80, xas_in80, xln_in80, xal_91, xal_in92, xas_in92, xln_in92, cl_some, nm_b, nn_some, qn_some, qn_none, zk_0, zk_1, zk_n0, zk_n1, nI_add, pk_mul, pk_sub, nI_leE, nI_ltE, nI_eqE, nI_lt0, nI_ge0, nI_eq0, nI_gt0, nI_le0, ilt_t, ilt_f, ile_t, ile_f, ieq_t, ieq_f, if_tt, if_ff, Nat.add_sub_cancel]
        rw [if_pos hle]
        exact r1
    · have e1 := cntS_0 cn
      have es : bsS g lk (n + 1) = bsS g lk n := by
        show (if cnF (nI n) 8 = nI lk then _ else _) = _
        rw [if_neg (fun z => cn ((cn_T (by omega) hlk.2).mp z))]
      have := ih (n + 1) m c1 (by omega) (by omega) f1 s1 m1 (by rw [es]; exact h90)
      unfold gVb at this ⊢
      rw [e1, es] at this
      exact this
theorem be_s {l : Nat} {s : Nat → Int32} : beG S nt lk (l + 1) s = baF s nt + (bsS (fun set => loG nt set (fun s' => beG S nt lk l (ovP S s' nt)) nt s) lk (2 ^ nt)).2.1 := rfl
set_option maxRecDepth 100000 in
set_option maxHeartbeats 1000000 in
theorem x_fdB (hd10 : days ≤ 10) (hN : dd + days ≤ N) (hN10 : N ≤ 10) : ∀ (left : Nat), 1 ≤ left → ∀ (day m : Nat), day + left = days → MFX nt left ≤ m → ∀ (c : CS) (s : Nat → Int32) (Q : Nat → Nat × Nat), TI G X lo h0 S ns nt np lk td q N dd days (MdB lk nt) c s Q day left → ∃ c' : CS, F_X9_fromDay G m (encX G X c h0) nx (X + 90) (nI day) = some (beG S nt lk left s, encX G X c' h0, nx) ∧ FrX (PB day) c c' ∧ xa c' (92 + day) = xa c (92 + day) ∧ MemoA c' S nt N dd ∧ (day = 0 → xi c' 90 = (bsS (fun set => loG nt set (fun s' => beG S nt lk (left - 1) (ovP S s' nt)) nt s) lk (2 ^ nt)).2.2) := by
  intro left
  induction left with
  | zero => intro h; exact absurd h (by omega)
  | succ l ih =>
    intro _ day m hdl hm c s Q hT
    obtain ⟨f, rfl⟩ : ∃ z, m = z + 1 := ⟨m - 1, by unfold MFX at hm; omega⟩
    have hm : MFX nt l + nt + 4 ≤ f + 1 := hm
    obtain ⟨f, rfl⟩ : ∃ z, f = z + 1 := ⟨f - 1, by omega⟩
    obtain ⟨⟨hC, hL, h79, h91, h51, h70, h104⟩, hMm, hA, hS⟩ := id hT
    have h8 := x_nt8 hC
    have h5 := x_thC hC
    obtain ⟨m', e1⟩ := x_fdGo (nx := nx) (f := f + 1) (by omega) hdl hd10 (by omega) hN10 hT
    have hb : ∀ x, Bd ((fun set => loG nt set (fun s' => beG S nt lk l (ovP S s' nt)) nt s) x) (24000000 * l + 16000000) := fun x => day_bd (set := x) hC (B := 24000000 * l) (by omega) (fun s' a2 k2 => be_bd hC l s' (by omega) a2 k2) hA hT.kn
    obtain ⟨c', e2, f2, s2, m2, h90⟩ := x_bb7 (nx := nx) (m0 := MFX nt l) (f := f) (V := beG S nt lk l) (by omega) hdl hd10 hN hN10 (fun h2 m' hm' c s Q hT => by
      obtain ⟨c', e, fr, sr, mr, _⟩ := ih (by omega) (day + 1) m' (by omega) hm' c s Q hT
      refine ⟨c', e, fr.mono (fun k z => ?_), sr, mr⟩
      rcases z with z | ⟨z, _⟩
      · exact z
      · exact absurd z (by omega)) (by omega) hT (g := fun set => loG nt set (fun s' => beG S nt lk l (ovP S s' nt)) nt s) (fun set => by rw [ovC_be]) (by omega) hb (2 ^ nt) 0 fuelL c (by omega) (by have := two_le h8; unfold fuelL; omega) FrX.rf rfl hMm (fun _ z => absurd rfl z)
    refine ⟨c', ?_, f2, s2, m2, h90⟩
    have e2 : F_X9_behindBestLooks_7 G (F_X9_behindBestLooks G f) (F_X9_behindDay G f) (F_X9_behindLooks G f) (F_X9_fromDay G f) fuelL (encX G X c h0) nx (X + 90) (nI day) (-9223372036854775808) (nI 0) = _ := e2
    have e3 : F_X9_behindBestLooks G (f + 1) (encX G X c h0) nx (X + 90) (nI day) = some ((bsS (fun set => loG nt set (fun s' => beG S nt lk l (ovP S s' nt)) nt s) lk (2 ^ nt)).2.1, encX G X c' h0, nx) := by
      rw [F_X9_behindBestLooks_s]
      unfold B_X9_behindBestLooks
      exact e2
    rw [e1, be_s, F_X9_fromDay_15_s]
    simp (maxSteps := 3000000) (disch := omega) only [h5, h91, h51, e3, xi_xsi_s, xi_xsi_n, xl_xsi, xa_xsi, xj_xsi, xr_xsi, xsi_xsi, xi_xsl, xl_xsl_s, xl_xsl_n, xa_xsl, xj_xsl, xr_xsl, xsl_xsl, xi_xsa, xl_xsa, xa_xsa_s, xa_xsa_n, xj_xsa, xr_xsa, xsa_xsa, xi_xsj, xl_xsj, xa_xsj, xj_xsj_s, xj_xsj_n, xr_xsj, xsj_xsj, xi_xsr, xl_xsr, xa_xsr, xj_xsr, xr_xsr_s, xr_xsr_n, xsr_xsr, xk_0, xg_0_0, xg_0_1, xg_0_2, xp_0_2, xg_0_3, xg_0_4, xg_0_5, xg_0_6, xk_1, xg_1_0, xg_1_1, xp_1_1, xg_1_2, xg_1_3, xp_1_3, xg_1_4, xg_1_5, xg_1_6, xg_1_7, xg_1_8, xg_1_9, xg_1_10, xg_1_11, xp_1_11, xg_1_12, xg_1_13, xg_1_14, xg_1_15, xp_1_15, xg_1_16, xp_1_16, xg_1_17, xp_1_17, xk_26, xg_26_0, xg_26_1, xp_26_1, xg_26_2, xg_26_3, xp_26_3, xg_26_4, xg_26_5, xg_26_6, xg_26_7, xg_26_8, xg_26_9, xg_26_10, xg_26_11, xp_26_11, xg_26_12, xg_26_13, xg_26_14, xg_26_15, xp_26_15, xg_26_16, xp_26_16, xg_26_17, xp_26_17, xk_51, xg_51_0, xg_51_1, xg_51_2, xg_51_3, xg_51_4, xg_51_5, xg_51_6, xg_51_7, xp_51_7, xg_51_8, xp_51_8, xk_90, xg_90_0, xg_90_1, xg_90_2, xg_90_3, xp_90_3, xg_90_4, xg_90_5, xp_90_5, xg_90_6, xg_90_7, xp_90_7, xg_90_8, xp_90_8, xg_90_9, xp_90_9, xg_90_10, xas_2, xal_2, xal_3, xas_4, xal_4, xln_4, xas_5, xal_5, xln_5, xas_6, xal_6, xln_6, xas_7, xal_7, xln_7, xas_8, xal_8, xln_8, xas_9, xal_9, xln_9, xas0_10, xas1_10, xasb_10, xal_10, xal_11, xas_12, xal_12, xln_12, xas_27, xal_27, xal_28, xas_29, xal_29, xln_29, xas_30, xal_30, xln_30, xas_31, xal_31, xln_31, xas_32, xal_32, xln_32, xas_33, xal_33, xln_33, xas_34, xal_34, xln_34, xas0_35, xas1_35, xasb_35, xal_35, xal_36, xas_37, xal_37, xln_37, xas_88, xal_88, xln_88, xal_89, xas_89, xln_89, xas_103, xal_103, xln_103, xas_104, xal_104, xln_104, xas_105, xal_105, xln_105, xas_106, xal_106, xln_106, xas_107, xal_107, xln_107, xal_13, xal_in14, xas_in14, xln_in14, xal_38, xal_in39, xas_in39, xln_in39, xal_52, xal_in53, xas_in53, xln_in53, xal_61, xal_in62, xas_in62, xln_in62, xal_70, xal_in71, xas_in71, xln_in71, xal_79, xal_in80, xas_in80, xln_in80, xal_91, xal_in92, xas_in92, xln_in92, cl_some, nm_b, nn_some, qn_some, qn_none, zk_0, zk_1, zk_n0, zk_n1, nI_add, pk_mul, pk_sub, nI_leE, nI_ltE, nI_eqE, nI_lt0, nI_ge0, nI_eq0, nI_gt0, nI_le0, ilt_t, ilt_f, ile_t, ile_f, ieq_t, ieq_f, if_tt, if_ff, Nat.add_sub_cancel]
end XBB
