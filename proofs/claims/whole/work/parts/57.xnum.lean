/-! THE CLASS: the least wage -/
def nwV (S : MS) (t n : Nat) (z : Int32 × Int32) (w : Nat) : Bool := decide ((vB S t (1000 * (nI w).toInt64) n z).2.2 ≤ (vB S t (1000 * (nI w).toInt64) n z).2.1)
def lwF (S : MS) (t n : Nat) (z : Int32 × Int32) : Int32 := wgF (srch (nwV S t n z) 0 201)
theorem nm_vB {S : MS} {t n : Nat} (hn : n ≤ 8) : (fun w => nwF (rwS S t) t n (nI w)) = nwV S t n (stZ (ma S 1) t 0) := by
  funext w
  unfold nwF nwV
  have e := bP_vB (S := S) (t := t) (w0 := nI w) n 0 0 (by decide) (by omega) hn
  have ez : rowK S t 0 0 = stZ (ma S 1) t 0 := by
    show rowSt S t 0 = _
    unfold rowSt stZ
    rw [if_pos (show (0 : Nat) = 0 from rfl), if_pos (show (0 : Nat) = 0 from rfl)]
  rw [show 9 * 0 + 0 = 0 from rfl, ez] at e
  rw [e]
theorem nm_lw {S : MS} {t n : Nat} (hn : n ≤ 8) : nmF S t n = srch (nwV S t n (stZ (ma S 1) t 0)) 0 201 := by
  unfold nmF
  rw [nm_vB hn]
theorem to_lw {S : MS} {t n : Nat} (hn : n ≤ 8) : toW S n t = lwF S t n (stZ (ma S 1) t 0) := by
  unfold toW lwF
  rw [nm_lw hn]
theorem wg_nI {w : Nat} (h : w < 2 ^ 31) : wgF (nI w) = nI w := by
  unfold wgF
  rw [if_neg (fun q => nI_pos h (by rw [q]; decide))]
theorem srch_le {f : Nat → Bool} : ∀ (r w : Nat), w + r = 201 → ∃ k, k ≤ 201 ∧ wgF (srch f w r) = nI k
  | 0, _, _ => ⟨201, by omega, rfl⟩
  | r + 1, w, h => by
    unfold srch
    split
    · exact ⟨w, by omega, wg_nI (by omega)⟩
    · exact srch_le r (w + 1) (by omega)
theorem lw_le {S : MS} {t n : Nat} {z : Int32 × Int32} : ∃ k, k ≤ 201 ∧ lwF S t n z = nI k := srch_le 201 0 (by omega)
/-- the same but at one place -/
def UpA (f f' : Nat → Int32) (k : Nat) (x : Int32) : Prop := f' k = x ∧ ∀ i, i ≠ k → f' i = f i
def PV (t k : Nat) : Prop := PW k ∨ k = 80 + t
theorem Laid.fr {c c' : CS} {S : MS} {t a n : Nat} {P : Nat → Prop} (h : Laid c S t a n) (f : FrX P c c') (hP : ∀ k, PT t k → ¬ P k) : Laid c' S t a n := fun kk hk i hi => by
  rw [f.a (53 + t) (hP _ (Or.inl rfl)), f.a (62 + t) (hP _ (Or.inr (Or.inl rfl))), f.a (71 + t) (hP _ (Or.inr (Or.inr rfl)))]
  exact h kk hk i hi
section XN
variable {G : Gx} {X lo nx : Nat} {h0 : Hp} {c : CS} {S : MS} {t a p : Nat}
set_option maxRecDepth 100000 in
set_option maxHeartbeats 1000000 in
theorem x_lw18 (ht : t < 8) (hX : XT G X lo h0 c (ma S 1) t a p) {n N kk j0 : Nat} (hn1 : 1 ≤ n) (hn : n ≤ 8) (hkk : kk < 3) (hN : j0 + n ≤ N) (hN10 : N ≤ 10) (hLd : Laid c S t a N) : ∀ (r w m : Nat) (c1 : CS), w + r = 201 → r + 1 < m → FrX PW c c1 → lwF S t n (paK S t (stZ (ma S 1) t kk) j0) = wgF (srch (nwV S t n (paK S t (stZ (ma S 1) t kk) j0)) w r) → ∃ c' : CS, F_X5_leastWage_18 G m (encX G X c1 h0) nx (X + 51) (nI t) (nI (11 * kk + j0)) (nI n) (nI w) (nI 0) = some (lwF S t n (paK S t (stZ (ma S 1) t kk) j0), encX G X c' h0, nx) ∧ FrX (PV t) c c' ∧ UpA (xa c (80 + t)) (xa c' (80 + t)) (11 * kk + j0) (lwF S t n (paK S t (stZ (ma S 1) t kk) j0)) := by
  have hp : ¬ PW (80 + t) := by unfold PW; omega
  have end1 : ∀ (w : Nat) (c1 : CS), FrX PW c c1 → ∃ c' : CS, F_X5_leastWage_77 G (encX G X c1 h0) nx (X + 51) (nI t) (nI (11 * kk + j0)) (nI w) = some (nI w, encX G X c' h0, nx) ∧ FrX (PV t) c c' ∧ UpA (xa c (80 + t)) (xa c' (80 + t)) (11 * kk + j0) (nI w) := by
    intro w c1 hF
    refine ⟨xsa c1 (80 + t) (upK (xa c1 (80 + t)) (11 * kk + j0) (nI w)), ?_, (hF.trans (FrX.sa (P := fun k => k = 80 + t) rfl) (fun _ z => Or.inl z) (fun _ z => Or.inr z)), ?_, fun i hi => ?_⟩
    · unfold F_X5_leastWage_77 F_X5_leastWage_87
      simp (maxSteps := 3000000) (disch := omega) only [upK_s, xi_xsi_s, xi_xsi_n, xl_xsi, xa_xsi, xj_xsi, xr_xsi, xsi_xsi, xi_xsl, xl_xsl_s, xl_xsl_n, xa_xsl, xj_xsl, xr_xsl, xsl_xsl, xi_xsa, xl_xsa, xa_xsa_s, xa_xsa_n, xj_xsa, xr_xsa, xsa_xsa, xi_xsj, xl_xsj, xa_xsj, xj_xsj_s, xj_xsj_n, xr_xsj, xsj_xsj, xi_xsr, xl_xsr, xa_xsr, xj_xsr, xr_xsr_s, xr_xsr_n, xsr_xsr, xk_0, xg_0_0, xg_0_1, xg_0_2, xp_0_2, xg_0_3, xg_0_4, xg_0_5, xg_0_6, xk_1, xg_1_0, xg_1_1, xp_1_1, xg_1_2, xg_1_3, xp_1_3, xg_1_4, xg_1_5, xg_1_6, xg_1_7, xg_1_8, xg_1_9, xg_1_10, xg_1_11, xp_1_11, xg_1_12, xg_1_13, xg_1_14, xg_1_15, xp_1_15, xg_1_16, xp_1_16, xg_1_17, xp_1_17, xk_26, xg_26_0, xg_26_1, xp_26_1, xg_26_2, xg_26_3, xp_26_3, xg_26_4, xg_26_5, xg_26_6, xg_26_7, xg_26_8, xg_26_9, xg_26_10, xg_26_11, xp_26_11, xg_26_12, xg_26_13, xg_26_14, xg_26_15, xp_26_15, xg_26_16, xp_26_16, xg_26_17, xp_26_17, xk_51, xg_51_0, xg_51_1, xg_51_2, xg_51_3, xg_51_4, xg_51_5, xg_51_6, xg_51_7, xp_51_7, xg_51_8, xp_51_8, xk_90, xg_90_0, xg_90_1, xg_90_2, xg_90_3, xp_90_3, xg_90_4, xg_90_5, xp_90_5, xg_90_6, xg_90_7, xp_90_7, xg_90_8, xp_90_8, xg_90_9, xp_90_9, xg_90_10, xas_2, xal_2, xal_3, xas_4, xal_4, xln_4, xas_5, xal_5, xln_5, xas_6, xal_6, xln_6, xas_7, xal_7, xln_7, xas_8, xal_8, xln_8, xas_9, xal_9, xln_9, xas0_10, xas1_10, xasb_10, xal_10, xal_11, xas_12, xal_12, xln_12, xas_27, xal_27, xal_28, xas_29, xal_29, xln_29, xas_30, xal_30, xln_30, xas_31, xal_31, xln_31, xas_32, xal_32, xln_32, xas_33, xal_33, xln_33, xas_34, xal_34, xln_34, xas0_35, xas1_35, xasb_35, xal_35, xal_36, xas_37, xal_37, xln_37, xas_88, xal_88, xln_88, xal_89, xas_89, xln_89, xas_103, xal_103, xln_103, xas_104, xal_104, xln_104, xas_105, xal_105, xln_105, xas_106, xal_106, xln_106, xas_107, xal_107, xln_107, xal_13, xal_in14, xas_in14, xln_in14, xal_38, xal_in39, xas_in39, xln_in39, xal_52, xal_in53, xas_in53, xln_in53, xal_61, xal_in62, xas_in62, xln_in62, xal_70, xal_in71, xas_in71, xln_in71, xal_79, xal_in80, xas_in80, xln_in80, xal_91, xal_in92, xas_in92, xln_in92, cl_some, nm_b, nn_some, qn_some, qn_none, zk_0, zk_1, zk_n0, zk_n1, nI_add, pk_mul, pk_sub, nI_leE, nI_ltE, nI_eqE, nI_lt0, nI_ge0, nI_eq0, nI_gt0, nI_le0, ilt_t, ilt_f, ile_t, ile_f, ieq_t, ieq_f, if_tt, if_ff, Nat.add_sub_cancel]
    · rw [xa_xsa_s, upK_s]
    · rw [xa_xsa_s, upK_n hi, hF.a _ hp]
  intro r
  induction r with
  | zero =>
    intro w m c1 hw hm hF he
    obtain ⟨m, rfl⟩ : ∃ q, m = q + 1 := ⟨m - 1, by omega⟩
    obtain rfl : w = 201 := by omega
    obtain ⟨c', r1, r2⟩ := end1 201 c1 hF
    have he : lwF S t n (paK S t (stZ (ma S 1) t kk) j0) = nI 201 := he
    rw [he]
    refine ⟨c', ?_, r2⟩
    rw [F_X5_leastWage_18_s, if_pos (by decide)]
    exact r1
  | succ r ih =>
    intro w m c1 hw hm hF he
    obtain ⟨m, rfl⟩ : ∃ q, m = q + 1 := ⟨m - 1, by omega⟩
    have pw : ∀ k, PW k → 26 ≤ k ∧ k < 111 := fun k z => by unfold PW at z; omega
    obtain ⟨c2, e2, f2, v2⟩ := x_weigh (nx := nx) ht (hX.fr hF pw) (n := n) (N := N) (kk := kk) (j0 := j0) (w := w) (by omega) hn hkk hN hN10 (hLd.fr hF (fun k z => by unfold PT at z; unfold PW; omega))
    obtain ⟨v3, v4⟩ := v2 hn1
    have f12 : FrX PW c c2 := hF.trans f2 (fun _ z => z) (fun _ z => z)
    have es : srch (nwV S t n (paK S t (stZ (ma S 1) t kk) j0)) w (r + 1) = if nwV S t n (paK S t (stZ (ma S 1) t kk) j0) w = true then nI w else srch (nwV S t n (paK S t (stZ (ma S 1) t kk) j0)) (w + 1) r := rfl
    rw [es] at he
    rw [F_X5_leastWage_18_s]
    unfold F_X5_leastWage_57 F_X5_leastWage_71
    by_cases cb : nwV S t n (paK S t (stZ (ma S 1) t kk) j0) w = true
    · rw [if_pos cb, wg_nI (by omega)] at he
      obtain ⟨c', r1, r2⟩ := end1 w c2 f12
      rw [he]
      refine ⟨c', ?_, r2⟩
      have cb := of_decide_eq_true cb
      obtain ⟨m, rfl⟩ : ∃ q, m = q + 1 := ⟨m - 1, by omega⟩
      simp (maxSteps := 3000000) (disch := omega) only [e2, v3, v4, xi_xsi_s, xi_xsi_n, xl_xsi, xa_xsi, xj_xsi, xr_xsi, xsi_xsi, xi_xsl, xl_xsl_s, xl_xsl_n, xa_xsl, xj_xsl, xr_xsl, xsl_xsl, xi_xsa, xl_xsa, xa_xsa_s, xa_xsa_n, xj_xsa, xr_xsa, xsa_xsa, xi_xsj, xl_xsj, xa_xsj, xj_xsj_s, xj_xsj_n, xr_xsj, xsj_xsj, xi_xsr, xl_xsr, xa_xsr, xj_xsr, xr_xsr_s, xr_xsr_n, xsr_xsr, xk_0, xg_0_0, xg_0_1, xg_0_2, xp_0_2, xg_0_3, xg_0_4, xg_0_5, xg_0_6, xk_1, xg_1_0, xg_1_1, xp_1_1, xg_1_2, xg_1_3, xp_1_3, xg_1_4, xg_1_5, xg_1_6, xg_1_7, xg_1_8, xg_1_9, xg_1_10, xg_1_11, xp_1_11, xg_1_12, xg_1_13, xg_1_14, xg_1_15, xp_1_15, xg_1_16, xp_1_16, xg_1_17, xp_1_17, xk_26, xg_26_0, xg_26_1, xp_26_1, xg_26_2, xg_26_3, xp_26_3, xg_26_4, xg_26_5, xg_26_6, xg_26_7, xg_26_8, xg_26_9, xg_26_10, xg_26_11, xp_26_11, xg_26_12, xg_26_13, xg_26_14, xg_26_15, xp_26_15, xg_26_16, xp_26_16, xg_26_17, xp_26_17, xk_51, xg_51_0, xg_51_1, xg_51_2, xg_51_3, xg_51_4, xg_51_5, xg_51_6, xg_51_7, xp_51_7, xg_51_8, xp_51_8, xk_90, xg_90_0, xg_90_1, xg_90_2, xg_90_3, xp_90_3, xg_90_4, xg_90_5, xp_90_5, xg_90_6, xg_90_7, xp_90_7, xg_90_8, xp_90_8, xg_90_9, xp_90_9, xg_90_10, xas_2, xal_2, xal_3, xas_4, xal_4, xln_4, xas_5, xal_5, xln_5, xas_6, xal_6, xln_6, xas_7, xal_7, xln_7, xas_8, xal_8, xln_8, xas_9, xal_9, xln_9, xas0_10, xas1_10, xasb_10, xal_10, xal_11, xas_12, xal_12, xln_12, xas_27, xal_27, xal_28, xas_29, xal_29, xln_29, xas_30, xal_30, xln_30, xas_31, xal_31, xln_31, xas_32, xal_32, xln_32, xas_33, xal_33, xln_33, xas_34, xal_34, xln_34, xas0_35, xas1_35, xasb_35, xal_35, xal_36, xas_37, xal_37, xln_37, xas_88, xal_88, xln_88, xal_89, xas_89, xln_89, xas_103, xal_103, xln_103, xas_104, xal_104, xln_104, xas_105, xal_105, xln_105, xas_106, xal_106, xln_106, xas_107, xal_107, xln_107, xal_13, xal_in14, xas_in14, xln_in14, xal_38, xal_in39, xas_in39, xln_in39, xal_52, xal_in53, xas_in53, xln_in53, xal_61, xal_in62, xas_in62, xln_in62, xal_70, xal_in71, xas_in71, xln_in71, xal_79, xal_in80, xas_in80, xln_in80, xal_91, xal_in92, xas_in92, xln_in92, cl_some, nm_b, nn_some, qn_some, qn_none, zk_0, zk_1, zk_n0, zk_n1, nI_add, pk_mul, pk_sub, nI_leE, nI_ltE, nI_eqE, nI_lt0, nI_ge0, nI_eq0, nI_gt0, nI_le0, ilt_t, ilt_f, ile_t, ile_f, ieq_t, ieq_f, if_tt, if_ff, Nat.add_sub_cancel]
      rw [if_neg (fun q => absurd cb (Int64.not_le.mpr ((lg_cmp_lt _ _).mp q))), F_X5_leastWage_18_s]
      simp (maxSteps := 3000000) (disch := omega) only [xi_xsi_s, xi_xsi_n, xl_xsi, xa_xsi, xj_xsi, xr_xsi, xsi_xsi, xi_xsl, xl_xsl_s, xl_xsl_n, xa_xsl, xj_xsl, xr_xsl, xsl_xsl, xi_xsa, xl_xsa, xa_xsa_s, xa_xsa_n, xj_xsa, xr_xsa, xsa_xsa, xi_xsj, xl_xsj, xa_xsj, xj_xsj_s, xj_xsj_n, xr_xsj, xsj_xsj, xi_xsr, xl_xsr, xa_xsr, xj_xsr, xr_xsr_s, xr_xsr_n, xsr_xsr, xk_0, xg_0_0, xg_0_1, xg_0_2, xp_0_2, xg_0_3, xg_0_4, xg_0_5, xg_0_6, xk_1, xg_1_0, xg_1_1, xp_1_1, xg_1_2, xg_1_3, xp_1_3, xg_1_4, xg_1_5, xg_1_6, xg_1_7, xg_1_8, xg_1_9, xg_1_10, xg_1_11, xp_1_11, xg_1_12, xg_1_13, xg_1_14, xg_1_15, xp_1_15, xg_1_16, xp_1_16, xg_1_17, xp_1_17, xk_26, xg_26_0, xg_26_1, xp_26_1, xg_26_2, xg_26_3, xp_26_3, xg_26_4, xg_26_5, xg_26_6, xg_26_7, xg_26_8, xg_26_9, xg_26_10, xg_26_11, xp_26_11, xg_26_12, xg_26_13, xg_26_14, xg_26_15, xp_26_15, xg_26_16, xp_26_16, xg_26_17, xp_26_17, xk_51, xg_51_0, xg_51_1, xg_51_2, xg_51_3, xg_51_4, xg_51_5, xg_51_6, xg_51_7, xp_51_7, xg_51_8, xp_51_8, xk_90, xg_90_0, xg_90_1, xg_90_2, xg_90_3, xp_90_3, xg_90_4, xg_90_5, xp_90_5, xg_90_6, xg_90_7, xp_90_7, xg_90_8, xp_90_8, xg_90_9, xp_90_9, xg_90_10, xas_2, xal_2, xal_3, xas_4, xal_4, xln_4, xas_5, xal_5, xln_5, xas_6, xal_6, xln_6, xas_7, xal_7, xln_7, xas_8, xal_8, xln_8, xas_9, xal_9, xln_9, xas0_10, xas1_10, xasb_10, xal_10, xal_11, xas_12, xal_12, xln_12, xas_27, xal_27, xal_28, xas_29, xal_29, xln_29, xas_30, xal_30, xln_30, xas_31, xal_31, xln_31, xas_32, xal_32, xln_32, xas_33, xal_33, xln_33, xas_34, xal_34, xln_34, xas0_35, xas1_35, xasb_35, xal_35, xal_36, xas_37, xal_37, xln_37, xas_88, xal_88, xln_88, xal_89, xas_89, xln_89, xas_103, xal_103, xln_103, xas_104, xal_104, xln_104, xas_105, xal_105, xln_105, xas_106, xal_106, xln_106, xas_107, xal_107, xln_107, xal_13, xal_in14, xas_in14, xln_in14, xal_38, xal_in39, xas_in39, xln_in39, xal_52, xal_in53, xas_in53, xln_in53, xal_61, xal_in62, xas_in62, xln_in62, xal_70, xal_in71, xas_in71, xln_in71, xal_79, xal_in80, xas_in80, xln_in80, xal_91, xal_in92, xas_in92, xln_in92, cl_some, nm_b, nn_some, qn_some, qn_none, zk_0, zk_1, zk_n0, zk_n1, nI_add, pk_mul, pk_sub, nI_leE, nI_ltE, nI_eqE, nI_lt0, nI_ge0, nI_eq0, nI_gt0, nI_le0, ilt_t, ilt_f, ile_t, ile_f, ieq_t, ieq_f, if_tt, if_ff, Nat.add_sub_cancel]
      exact r1
    · rw [if_neg cb] at he
      obtain ⟨c', r1, r2⟩ := ih (w + 1) m c2 (by omega) (by omega) f12 he
      refine ⟨c', ?_, r2⟩
      have cb : ¬ _ := fun q => cb (decide_eq_true q)
      simp (maxSteps := 3000000) (disch := omega) only [e2, v3, v4, xi_xsi_s, xi_xsi_n, xl_xsi, xa_xsi, xj_xsi, xr_xsi, xsi_xsi, xi_xsl, xl_xsl_s, xl_xsl_n, xa_xsl, xj_xsl, xr_xsl, xsl_xsl, xi_xsa, xl_xsa, xa_xsa_s, xa_xsa_n, xj_xsa, xr_xsa, xsa_xsa, xi_xsj, xl_xsj, xa_xsj, xj_xsj_s, xj_xsj_n, xr_xsj, xsj_xsj, xi_xsr, xl_xsr, xa_xsr, xj_xsr, xr_xsr_s, xr_xsr_n, xsr_xsr, xk_0, xg_0_0, xg_0_1, xg_0_2, xp_0_2, xg_0_3, xg_0_4, xg_0_5, xg_0_6, xk_1, xg_1_0, xg_1_1, xp_1_1, xg_1_2, xg_1_3, xp_1_3, xg_1_4, xg_1_5, xg_1_6, xg_1_7, xg_1_8, xg_1_9, xg_1_10, xg_1_11, xp_1_11, xg_1_12, xg_1_13, xg_1_14, xg_1_15, xp_1_15, xg_1_16, xp_1_16, xg_1_17, xp_1_17, xk_26, xg_26_0, xg_26_1, xp_26_1, xg_26_2, xg_26_3, xp_26_3, xg_26_4, xg_26_5, xg_26_6, xg_26_7, xg_26_8, xg_26_9, xg_26_10, xg_26_11, xp_26_11, xg_26_12, xg_26_13, xg_26_14, xg_26_15, xp_26_15, xg_26_16, xp_26_16, xg_26_17, xp_26_17, xk_51, xg_51_0, xg_51_1, xg_51_2, xg_51_3, xg_51_4, xg_51_5, xg_51_6, xg_51_7, xp_51_7, xg_51_8, xp_51_8, xk_90, xg_90_0, xg_90_1, xg_90_2, xg_90_3, xp_90_3, xg_90_4, xg_90_5, xp_90_5, xg_90_6, xg_90_7, xp_90_7, xg_90_8, xp_90_8, xg_90_9, xp_90_9, xg_90_10, xas_2, xal_2, xal_3, xas_4, xal_4, xln_4, xas_5, xal_5, xln_5, xas_6, xal_6, xln_6, xas_7, xal_7, xln_7, xas_8, xal_8, xln_8, xas_9, xal_9, xln_9, xas0_10, xas1_10, xasb_10, xal_10, xal_11, xas_12, xal_12, xln_12, xas_27, xal_27, xal_28, xas_29, xal_29, xln_29, xas_30, xal_30, xln_30, xas_31, xal_31, xln_31, xas_32, xal_32, xln_32, xas_33, xal_33, xln_33, xas_34, xal_34, xln_34, xas0_35, xas1_35, xasb_35, xal_35, xal_36, xas_37, xal_37, xln_37, xas_88, xal_88, xln_88, xal_89, xas_89, xln_89, xas_103, xal_103, xln_103, xas_104, xal_104, xln_104, xas_105, xal_105, xln_105, xas_106, xal_106, xln_106, xas_107, xal_107, xln_107, xal_13, xal_in14, xas_in14, xln_in14, xal_38, xal_in39, xas_in39, xln_in39, xal_52, xal_in53, xas_in53, xln_in53, xal_61, xal_in62, xas_in62, xln_in62, xal_70, xal_in71, xas_in71, xln_in71, xal_79, xal_in80, xas_in80, xln_in80, xal_91, xal_in92, xas_in92, xln_in92, cl_some, nm_b, nn_some, qn_some, qn_none, zk_0, zk_1, zk_n0, zk_n1, nI_add, pk_mul, pk_sub, nI_leE, nI_ltE, nI_eqE, nI_lt0, nI_ge0, nI_eq0, nI_gt0, nI_le0, ilt_t, ilt_f, ile_t, ile_f, ieq_t, ieq_f, if_tt, if_ff, Nat.add_sub_cancel]
      rw [if_pos ((lg_cmp_lt _ _).mpr (Int64.not_le.mp cb))]
      exact r1
set_option maxRecDepth 100000 in
set_option maxHeartbeats 1000000 in
theorem x_leastWage (ht : t < 8) (hX : XT G X lo h0 c (ma S 1) t a p) {n N kk j0 : Nat} (hn1 : 1 ≤ n) (hn : n ≤ 8) (hkk : kk < 3) (hN : j0 + n ≤ N) (hN10 : N ≤ 10) (hLd : Laid c S t a N) (hM : xa c (80 + t) (11 * kk + j0) = -1 ∨ xa c (80 + t) (11 * kk + j0) = lwF S t n (paK S t (stZ (ma S 1) t kk) j0)) : ∃ c' : CS, F_X5_leastWage G (encX G X c h0) nx (X + 51) (nI t) (nI (11 * kk + j0)) (nI n) = some (lwF S t n (paK S t (stZ (ma S 1) t kk) j0), encX G X c' h0, nx) ∧ FrX (PV t) c c' ∧ UpA (xa c (80 + t)) (xa c' (80 + t)) (11 * kk + j0) (lwF S t n (paK S t (stZ (ma S 1) t kk) j0)) := by
  unfold F_X5_leastWage F_X5_leastWage_87
  rcases hM with hM | hM
  · obtain ⟨c', r1, r2⟩ := x_lw18 (nx := nx) ht hX hn1 hn hkk hN hN10 hLd 201 0 fuelL c (by omega) (by unfold fuelL; omega) FrX.rf rfl
    refine ⟨c', ?_, r2⟩
    simp (maxSteps := 3000000) (disch := omega) only [hM, xi_xsi_s, xi_xsi_n, xl_xsi, xa_xsi, xj_xsi, xr_xsi, xsi_xsi, xi_xsl, xl_xsl_s, xl_xsl_n, xa_xsl, xj_xsl, xr_xsl, xsl_xsl, xi_xsa, xl_xsa, xa_xsa_s, xa_xsa_n, xj_xsa, xr_xsa, xsa_xsa, xi_xsj, xl_xsj, xa_xsj, xj_xsj_s, xj_xsj_n, xr_xsj, xsj_xsj, xi_xsr, xl_xsr, xa_xsr, xj_xsr, xr_xsr_s, xr_xsr_n, xsr_xsr, xk_0, xg_0_0, xg_0_1, xg_0_2, xp_0_2, xg_0_3, xg_0_4, xg_0_5, xg_0_6, xk_1, xg_1_0, xg_1_1, xp_1_1, xg_1_2, xg_1_3, xp_1_3, xg_1_4, xg_1_5, xg_1_6, xg_1_7, xg_1_8, xg_1_9, xg_1_10, xg_1_11, xp_1_11, xg_1_12, xg_1_13, xg_1_14, xg_1_15, xp_1_15, xg_1_16, xp_1_16, xg_1_17, xp_1_17, xk_26, xg_26_0, xg_26_1, xp_26_1, xg_26_2, xg_26_3, xp_26_3, xg_26_4, xg_26_5, xg_26_6, xg_26_7, xg_26_8, xg_26_9, xg_26_10, xg_26_11, xp_26_11, xg_26_12, xg_26_13, xg_26_14, xg_26_15, xp_26_15, xg_26_16, xp_26_16, xg_26_17, xp_26_17, xk_51, xg_51_0, xg_51_1, xg_51_2, xg_51_3, xg_51_4, xg_51_5, xg_51_6, xg_51_7, xp_51_7, xg_51_8, xp_51_8, xk_90, xg_90_0, xg_90_1, xg_90_2, xg_90_3, xp_90_3, xg_90_4, xg_90_5, xp_90_5, xg_90_6, xg_90_7, xp_90_7, xg_90_8, xp_90_8, xg_90_9, xp_90_9, xg_90_10, xas_2, xal_2, xal_3, xas_4, xal_4, xln_4, xas_5, xal_5, xln_5, xas_6, xal_6, xln_6, xas_7, xal_7, xln_7, xas_8, xal_8, xln_8, xas_9, xal_9, xln_9, xas0_10, xas1_10, xasb_10, xal_10, xal_11, xas_12, xal_12, xln_12, xas_27, xal_27, xal_28, xas_29, xal_29, xln_29, xas_30, xal_30, xln_30, xas_31, xal_31, xln_31, xas_32, xal_32, xln_32, xas_33, xal_33, xln_33, xas_34, xal_34, xln_34, xas0_35, xas1_35, xasb_35, xal_35, xal_36, xas_37, xal_37, xln_37, xas_88, xal_88, xln_88, xal_89, xas_89, xln_89, xas_103, xal_103, xln_103, xas_104, xal_104, xln_104, xas_105, xal_105, xln_105, xas_106, xal_106, xln_106, xas_107, xal_107, xln_107, xal_13, xal_in14, xas_in14, xln_in14, xal_38, xal_in39, xas_in39, xln_in39, xal_52, xal_in53, xas_in53, xln_in53, xal_61, xal_in62, xas_in62, xln_in62, xal_70, xal_in71, xas_in71, xln_in71, xal_79, xal_in80, xas_in80, xln_in80, xal_91, xal_in92, xas_in92, xln_in92, cl_some, nm_b, nn_some, qn_some, qn_none, zk_0, zk_1, zk_n0, zk_n1, nI_add, pk_mul, pk_sub, nI_leE, nI_ltE, nI_eqE, nI_lt0, nI_ge0, nI_eq0, nI_gt0, nI_le0, ilt_t, ilt_f, ile_t, ile_f, ieq_t, ieq_f, if_tt, if_ff, Nat.add_sub_cancel]
    exact r1
  · refine ⟨c, ?_, FrX.rf, hM, fun _ _ => rfl⟩
    obtain ⟨k, hk, ek⟩ := lw_le (S := S) (t := t) (n := n) (z := paK S t (stZ (ma S 1) t kk) j0)
    rw [ek] at hM ⊢
    simp (maxSteps := 3000000) (disch := omega) only [hM, xi_xsi_s, xi_xsi_n, xl_xsi, xa_xsi, xj_xsi, xr_xsi, xsi_xsi, xi_xsl, xl_xsl_s, xl_xsl_n, xa_xsl, xj_xsl, xr_xsl, xsl_xsl, xi_xsa, xl_xsa, xa_xsa_s, xa_xsa_n, xj_xsa, xr_xsa, xsa_xsa, xi_xsj, xl_xsj, xa_xsj, xj_xsj_s, xj_xsj_n, xr_xsj, xsj_xsj, xi_xsr, xl_xsr, xa_xsr, xj_xsr, xr_xsr_s, xr_xsr_n, xsr_xsr, xk_0, xg_0_0, xg_0_1, xg_0_2, xp_0_2, xg_0_3, xg_0_4, xg_0_5, xg_0_6, xk_1, xg_1_0, xg_1_1, xp_1_1, xg_1_2, xg_1_3, xp_1_3, xg_1_4, xg_1_5, xg_1_6, xg_1_7, xg_1_8, xg_1_9, xg_1_10, xg_1_11, xp_1_11, xg_1_12, xg_1_13, xg_1_14, xg_1_15, xp_1_15, xg_1_16, xp_1_16, xg_1_17, xp_1_17, xk_26, xg_26_0, xg_26_1, xp_26_1, xg_26_2, xg_26_3, xp_26_3, xg_26_4, xg_26_5, xg_26_6, xg_26_7, xg_26_8, xg_26_9, xg_26_10, xg_26_11, xp_26_11, xg_26_12, xg_26_13, xg_26_14, xg_26_15, xp_26_15, xg_26_16, xp_26_16, xg_26_17, xp_26_17, xk_51, xg_51_0, xg_51_1, xg_51_2, xg_51_3, xg_51_4, xg_51_5, xg_51_6, xg_51_7, xp_51_7, xg_51_8, xp_51_8, xk_90, xg_90_0, xg_90_1, xg_90_2, xg_90_3, xp_90_3, xg_90_4, xg_90_5, xp_90_5, xg_90_6, xg_90_7, xp_90_7, xg_90_8, xp_90_8, xg_90_9, xp_90_9, xg_90_10, xas_2, xal_2, xal_3, xas_4, xal_4, xln_4, xas_5, xal_5, xln_5, xas_6, xal_6, xln_6, xas_7, xal_7, xln_7, xas_8, xal_8, xln_8, xas_9, xal_9, xln_9, xas0_10, xas1_10, xasb_10, xal_10, xal_11, xas_12, xal_12, xln_12, xas_27, xal_27, xal_28, xas_29, xal_29, xln_29, xas_30, xal_30, xln_30, xas_31, xal_31, xln_31, xas_32, xal_32, xln_32, xas_33, xal_33, xln_33, xas_34, xal_34, xln_34, xas0_35, xas1_35, xasb_35, xal_35, xal_36, xas_37, xal_37, xln_37, xas_88, xal_88, xln_88, xal_89, xas_89, xln_89, xas_103, xal_103, xln_103, xas_104, xal_104, xln_104, xas_105, xal_105, xln_105, xas_106, xal_106, xln_106, xas_107, xal_107, xln_107, xal_13, xal_in14, xas_in14, xln_in14, xal_38, xal_in39, xas_in39, xln_in39, xal_52, xal_in53, xas_in53, xln_in53, xal_61, xal_in62, xas_in62, xln_in62, xal_70, xal_in71, xas_in71, xln_in71, xal_79, xal_in80, xas_in80, xln_in80, xal_91, xal_in92, xas_in92, xln_in92, cl_some, nm_b, nn_some, qn_some, qn_none, zk_0, zk_1, zk_n0, zk_n1, nI_add, pk_mul, pk_sub, nI_leE, nI_ltE, nI_eqE, nI_lt0, nI_ge0, nI_eq0, nI_gt0, nI_le0, ilt_t, ilt_f, ile_t, ile_f, ieq_t, ieq_f, if_tt, if_ff, Nat.add_sub_cancel]
    rw [if_neg (fun q => nI_pos (n := k) (by omega) (by rw [q]; decide))]
/-! all things laid -/
def LdA (c : CS) (S : MS) (nt N : Nat) : Prop := ∀ t, t < nt → Laid c S t (sN (ma S 1) (1010 + t)) N
def PUA (k : Nat) : Prop := 53 ≤ k ∧ k < 88
variable {ns nt np lk td q : Nat}
set_option maxRecDepth 100000 in
set_option maxHeartbeats 1000000 in
theorem x_layAll2 (hC : XC G X lo h0 c (ma S 1) ns nt np lk td q) (h10 : mi S 10 = -1) {n : Nat} (hn : n ≤ 10) : ∀ (r t m : Nat) (c1 : CS), t + r = nt → r < m → FrX PUA c c1 → LdA c1 S t n → (∀ i, i < t → ∀ j, j < 33 → xa c1 (80 + i) j = -1) → ∃ c' : CS, F_X5_layAll_2 G m (encX G X c1 h0) nx (X + 51) (nI n) (nI t) = some ((), encX G X c' h0, nx) ∧ FrX PUA c c' ∧ LdA c' S nt n ∧ ∀ i, i < nt → ∀ j, j < 33 → xa c' (80 + i) j = -1 := by
  have h8 : nt ≤ 8 := hC.2.2.2.2.2.1
  have h1 : ma S 1 1 = nI nt := hC.2.2.2.2.1
  have b113 : xi c 113 = ma S 1 1 := hC.2.1.1.2.2.1
  intro r
  induction r with
  | zero =>
    intro t m c1 hr hm hF hL hW
    obtain ⟨m, rfl⟩ : ∃ q, m = q + 1 := ⟨m - 1, by omega⟩
    obtain rfl : t = nt := by omega
    have e113 : xi c1 113 = nI t := (hF.i 113 (by unfold PUA; omega)).trans (b113.trans h1)
    refine ⟨c1, ?_, hF, hL, hW⟩
    rw [F_X5_layAll_2_s]
    simp (maxSteps := 3000000) (disch := omega) only [e113, xi_xsi_s, xi_xsi_n, xl_xsi, xa_xsi, xj_xsi, xr_xsi, xsi_xsi, xi_xsl, xl_xsl_s, xl_xsl_n, xa_xsl, xj_xsl, xr_xsl, xsl_xsl, xi_xsa, xl_xsa, xa_xsa_s, xa_xsa_n, xj_xsa, xr_xsa, xsa_xsa, xi_xsj, xl_xsj, xa_xsj, xj_xsj_s, xj_xsj_n, xr_xsj, xsj_xsj, xi_xsr, xl_xsr, xa_xsr, xj_xsr, xr_xsr_s, xr_xsr_n, xsr_xsr, xk_0, xg_0_0, xg_0_1, xg_0_2, xp_0_2, xg_0_3, xg_0_4, xg_0_5, xg_0_6, xk_1, xg_1_0, xg_1_1, xp_1_1, xg_1_2, xg_1_3, xp_1_3, xg_1_4, xg_1_5, xg_1_6, xg_1_7, xg_1_8, xg_1_9, xg_1_10, xg_1_11, xp_1_11, xg_1_12, xg_1_13, xg_1_14, xg_1_15, xp_1_15, xg_1_16, xp_1_16, xg_1_17, xp_1_17, xk_26, xg_26_0, xg_26_1, xp_26_1, xg_26_2, xg_26_3, xp_26_3, xg_26_4, xg_26_5, xg_26_6, xg_26_7, xg_26_8, xg_26_9, xg_26_10, xg_26_11, xp_26_11, xg_26_12, xg_26_13, xg_26_14, xg_26_15, xp_26_15, xg_26_16, xp_26_16, xg_26_17, xp_26_17, xk_51, xg_51_0, xg_51_1, xg_51_2, xg_51_3, xg_51_4, xg_51_5, xg_51_6, xg_51_7, xp_51_7, xg_51_8, xp_51_8, xk_90, xg_90_0, xg_90_1, xg_90_2, xg_90_3, xp_90_3, xg_90_4, xg_90_5, xp_90_5, xg_90_6, xg_90_7, xp_90_7, xg_90_8, xp_90_8, xg_90_9, xp_90_9, xg_90_10, xas_2, xal_2, xal_3, xas_4, xal_4, xln_4, xas_5, xal_5, xln_5, xas_6, xal_6, xln_6, xas_7, xal_7, xln_7, xas_8, xal_8, xln_8, xas_9, xal_9, xln_9, xas0_10, xas1_10, xasb_10, xal_10, xal_11, xas_12, xal_12, xln_12, xas_27, xal_27, xal_28, xas_29, xal_29, xln_29, xas_30, xal_30, xln_30, xas_31, xal_31, xln_31, xas_32, xal_32, xln_32, xas_33, xal_33, xln_33, xas_34, xal_34, xln_34, xas0_35, xas1_35, xasb_35, xal_35, xal_36, xas_37, xal_37, xln_37, xas_88, xal_88, xln_88, xal_89, xas_89, xln_89, xas_103, xal_103, xln_103, xas_104, xal_104, xln_104, xas_105, xal_105, xln_105, xas_106, xal_106, xln_106, xas_107, xal_107, xln_107, xal_13, xal_in14, xas_in14, xln_in14, xal_38, xal_in39, xas_in39, xln_in39, xal_52, xal_in53, xas_in53, xln_in53, xal_61, xal_in62, xas_in62, xln_in62, xal_70, xal_in71, xas_in71, xln_in71, xal_79, xal_in80, xas_in80, xln_in80, xal_91, xal_in92, xas_in92, xln_in92, cl_some, nm_b, nn_some, qn_some, qn_none, zk_0, zk_1, zk_n0, zk_n1, nI_add, pk_mul, pk_sub, nI_leE, nI_ltE, nI_eqE, nI_lt0, nI_ge0, nI_eq0, nI_gt0, nI_le0, ilt_t, ilt_f, ile_t, ile_f, ieq_t, ieq_f, if_tt, if_ff, Nat.add_sub_cancel]
  | succ r ih =>
    intro t m c1 hr hm hF hL hW
    obtain ⟨m, rfl⟩ : ∃ q, m = q + 1 := ⟨m - 1, by omega⟩
    have e113 : xi c1 113 = nI nt := (hF.i 113 (by unfold PUA; omega)).trans (b113.trans h1)
    have hC1 := hC.fr hF (fun k z => by unfold PUA at z; omega)
    obtain ⟨a, p, hX⟩ := hC1.th (t := t) (by omega)
    have hy : (if nI t = mi S 10 then mi S 11 else nI 0) = nI 0 := by
      rw [h10, if_neg (fun q => nI_pos (n := t) (by omega) (by rw [q]; decide))]
    obtain ⟨c2, e2, f2, l2, w2⟩ := x_lay (nx := nx) (by omega) hX hy hn
    have ha : sN (ma S 1) (1010 + t) = a := hX.2.1
    obtain ⟨c', r1, r2⟩ := ih (t + 1) m c2 (by omega) (by omega) (hF.trans f2 (fun _ z => z) (fun k z => by unfold PU at z; unfold PUA; omega)) (fun i hi => by
      by_cases e : i = t
      · subst e; rw [ha]; exact l2
      · exact (hL i (by omega)).fr f2 (fun k z => by unfold PT at z; unfold PU; omega)) (fun i hi j hj => by
      by_cases e : i = t
      · subst e; exact w2 j hj
      · rw [f2.a (80 + i) (by unfold PU; omega)]
        exact hW i (by omega) j hj)
    refine ⟨c', ?_, r2⟩
    rw [F_X5_layAll_2_s]
    simp (maxSteps := 3000000) (disch := omega) only [e113, e2, xi_xsi_s, xi_xsi_n, xl_xsi, xa_xsi, xj_xsi, xr_xsi, xsi_xsi, xi_xsl, xl_xsl_s, xl_xsl_n, xa_xsl, xj_xsl, xr_xsl, xsl_xsl, xi_xsa, xl_xsa, xa_xsa_s, xa_xsa_n, xj_xsa, xr_xsa, xsa_xsa, xi_xsj, xl_xsj, xa_xsj, xj_xsj_s, xj_xsj_n, xr_xsj, xsj_xsj, xi_xsr, xl_xsr, xa_xsr, xj_xsr, xr_xsr_s, xr_xsr_n, xsr_xsr, xk_0, xg_0_0, xg_0_1, xg_0_2, xp_0_2, xg_0_3, xg_0_4, xg_0_5, xg_0_6, xk_1, xg_1_0, xg_1_1, xp_1_1, xg_1_2, xg_1_3, xp_1_3, xg_1_4, xg_1_5, xg_1_6, xg_1_7, xg_1_8, xg_1_9, xg_1_10, xg_1_11, xp_1_11, xg_1_12, xg_1_13, xg_1_14, xg_1_15, xp_1_15, xg_1_16, xp_1_16, xg_1_17, xp_1_17, xk_26, xg_26_0, xg_26_1, xp_26_1, xg_26_2, xg_26_3, xp_26_3, xg_26_4, xg_26_5, xg_26_6, xg_26_7, xg_26_8, xg_26_9, xg_26_10, xg_26_11, xp_26_11, xg_26_12, xg_26_13, xg_26_14, xg_26_15, xp_26_15, xg_26_16, xp_26_16, xg_26_17, xp_26_17, xk_51, xg_51_0, xg_51_1, xg_51_2, xg_51_3, xg_51_4, xg_51_5, xg_51_6, xg_51_7, xp_51_7, xg_51_8, xp_51_8, xk_90, xg_90_0, xg_90_1, xg_90_2, xg_90_3, xp_90_3, xg_90_4, xg_90_5, xp_90_5, xg_90_6, xg_90_7, xp_90_7, xg_90_8, xp_90_8, xg_90_9, xp_90_9, xg_90_10, xas_2, xal_2, xal_3, xas_4, xal_4, xln_4, xas_5, xal_5, xln_5, xas_6, xal_6, xln_6, xas_7, xal_7, xln_7, xas_8, xal_8, xln_8, xas_9, xal_9, xln_9, xas0_10, xas1_10, xasb_10, xal_10, xal_11, xas_12, xal_12, xln_12, xas_27, xal_27, xal_28, xas_29, xal_29, xln_29, xas_30, xal_30, xln_30, xas_31, xal_31, xln_31, xas_32, xal_32, xln_32, xas_33, xal_33, xln_33, xas_34, xal_34, xln_34, xas0_35, xas1_35, xasb_35, xal_35, xal_36, xas_37, xal_37, xln_37, xas_88, xal_88, xln_88, xal_89, xas_89, xln_89, xas_103, xal_103, xln_103, xas_104, xal_104, xln_104, xas_105, xal_105, xln_105, xas_106, xal_106, xln_106, xas_107, xal_107, xln_107, xal_13, xal_in14, xas_in14, xln_in14, xal_38, xal_in39, xas_in39, xln_in39, xal_52, xal_in53, xas_in53, xln_in53, xal_61, xal_in62, xas_in62, xln_in62, xal_70, xal_in71, xas_in71, xln_in71, xal_79, xal_in80, xas_in80, xln_in80, xal_91, xal_in92, xas_in92, xln_in92, cl_some, nm_b, nn_some, qn_some, qn_none, zk_0, zk_1, zk_n0, zk_n1, nI_add, pk_mul, pk_sub, nI_leE, nI_ltE, nI_eqE, nI_lt0, nI_ge0, nI_eq0, nI_gt0, nI_le0, ilt_t, ilt_f, ile_t, ile_f, ieq_t, ieq_f, if_tt, if_ff, Nat.add_sub_cancel]
    exact r1
theorem x_layAll (hC : XC G X lo h0 c (ma S 1) ns nt np lk td q) (h10 : mi S 10 = -1) {n : Nat} (hn : n ≤ 10) : ∃ c' : CS, F_X5_layAll G (encX G X c h0) nx (X + 51) (nI n) = some ((), encX G X c' h0, nx) ∧ FrX PUA c c' ∧ LdA c' S nt n ∧ ∀ i, i < nt → ∀ j, j < 33 → xa c' (80 + i) j = -1 :=
  x_layAll2 hC h10 hn nt 0 fuelL c (by omega) (by have := hC.2.2.2.2.2.1; unfold fuelL; omega) FrX.rf (fun i hi => absurd hi (by omega)) (fun i hi => absurd hi (by omega))
/-- what holds once all are weighed -/
def PWA (k : Nat) : Prop := PW k ∨ (80 ≤ k ∧ k < 89)
set_option maxRecDepth 100000 in
set_option maxHeartbeats 1000000 in
theorem x_weighAll2 (hC : XC G X lo h0 c (ma S 1) ns nt np lk td q) {n : Nat} (hn1 : 1 ≤ n) (hn : n ≤ 8) (hL : LdA c S nt n) (hW : ∀ i, i < nt → xa c (80 + i) 0 = -1) : ∀ (r t m : Nat) (c1 : CS), t + r = nt → r < m → FrX PWA c c1 → (∀ i, t ≤ i → i < nt → xa c1 (80 + i) 0 = -1) → (∀ i, i < t → xa c1 88 i = toW S n i) → ∃ c' : CS, F_X5_weighAll_2 G m (encX G X c1 h0) nx (X + 51) (nI n) (nI t) = some ((), encX G X c' h0, nx) ∧ FrX PWA c c' ∧ ∀ i, i < nt → xa c' 88 i = toW S n i := by
  have h8 : nt ≤ 8 := hC.2.2.2.2.2.1
  have h1 : ma S 1 1 = nI nt := hC.2.2.2.2.1
  have b113 : xi c 113 = ma S 1 1 := hC.2.1.1.2.2.1
  intro r
  induction r with
  | zero =>
    intro t m c1 hr hm hF hM hV
    obtain ⟨m, rfl⟩ : ∃ q, m = q + 1 := ⟨m - 1, by omega⟩
    obtain rfl : t = nt := by omega
    have e113 : xi c1 113 = nI t := (hF.i 113 (by unfold PWA PW; omega)).trans (b113.trans h1)
    refine ⟨c1, ?_, hF, hV⟩
    rw [F_X5_weighAll_2_s]
    simp (maxSteps := 3000000) (disch := omega) only [e113, xi_xsi_s, xi_xsi_n, xl_xsi, xa_xsi, xj_xsi, xr_xsi, xsi_xsi, xi_xsl, xl_xsl_s, xl_xsl_n, xa_xsl, xj_xsl, xr_xsl, xsl_xsl, xi_xsa, xl_xsa, xa_xsa_s, xa_xsa_n, xj_xsa, xr_xsa, xsa_xsa, xi_xsj, xl_xsj, xa_xsj, xj_xsj_s, xj_xsj_n, xr_xsj, xsj_xsj, xi_xsr, xl_xsr, xa_xsr, xj_xsr, xr_xsr_s, xr_xsr_n, xsr_xsr, xk_0, xg_0_0, xg_0_1, xg_0_2, xp_0_2, xg_0_3, xg_0_4, xg_0_5, xg_0_6, xk_1, xg_1_0, xg_1_1, xp_1_1, xg_1_2, xg_1_3, xp_1_3, xg_1_4, xg_1_5, xg_1_6, xg_1_7, xg_1_8, xg_1_9, xg_1_10, xg_1_11, xp_1_11, xg_1_12, xg_1_13, xg_1_14, xg_1_15, xp_1_15, xg_1_16, xp_1_16, xg_1_17, xp_1_17, xk_26, xg_26_0, xg_26_1, xp_26_1, xg_26_2, xg_26_3, xp_26_3, xg_26_4, xg_26_5, xg_26_6, xg_26_7, xg_26_8, xg_26_9, xg_26_10, xg_26_11, xp_26_11, xg_26_12, xg_26_13, xg_26_14, xg_26_15, xp_26_15, xg_26_16, xp_26_16, xg_26_17, xp_26_17, xk_51, xg_51_0, xg_51_1, xg_51_2, xg_51_3, xg_51_4, xg_51_5, xg_51_6, xg_51_7, xp_51_7, xg_51_8, xp_51_8, xk_90, xg_90_0, xg_90_1, xg_90_2, xg_90_3, xp_90_3, xg_90_4, xg_90_5, xp_90_5, xg_90_6, xg_90_7, xp_90_7, xg_90_8, xp_90_8, xg_90_9, xp_90_9, xg_90_10, xas_2, xal_2, xal_3, xas_4, xal_4, xln_4, xas_5, xal_5, xln_5, xas_6, xal_6, xln_6, xas_7, xal_7, xln_7, xas_8, xal_8, xln_8, xas_9, xal_9, xln_9, xas0_10, xas1_10, xasb_10, xal_10, xal_11, xas_12, xal_12, xln_12, xas_27, xal_27, xal_28, xas_29, xal_29, xln_29, xas_30, xal_30, xln_30, xas_31, xal_31, xln_31, xas_32, xal_32, xln_32, xas_33, xal_33, xln_33, xas_34, xal_34, xln_34, xas0_35, xas1_35, xasb_35, xal_35, xal_36, xas_37, xal_37, xln_37, xas_88, xal_88, xln_88, xal_89, xas_89, xln_89, xas_103, xal_103, xln_103, xas_104, xal_104, xln_104, xas_105, xal_105, xln_105, xas_106, xal_106, xln_106, xas_107, xal_107, xln_107, xal_13, xal_in14, xas_in14, xln_in14, xal_38, xal_in39, xas_in39, xln_in39, xal_52, xal_in53, xas_in53, xln_in53, xal_61, xal_in62, xas_in62, xln_in62, xal_70, xal_in71, xas_in71, xln_in71, xal_79, xal_in80, xas_in80, xln_in80, xal_91, xal_in92, xas_in92, xln_in92, cl_some, nm_b, nn_some, qn_some, qn_none, zk_0, zk_1, zk_n0, zk_n1, nI_add, pk_mul, pk_sub, nI_leE, nI_ltE, nI_eqE, nI_lt0, nI_ge0, nI_eq0, nI_gt0, nI_le0, ilt_t, ilt_f, ile_t, ile_f, ieq_t, ieq_f, if_tt, if_ff, Nat.add_sub_cancel]
  | succ r ih =>
    intro t m c1 hr hm hF hM hV
    obtain ⟨m, rfl⟩ : ∃ q, m = q + 1 := ⟨m - 1, by omega⟩
    have e113 : xi c1 113 = nI nt := (hF.i 113 (by unfold PWA PW; omega)).trans (b113.trans h1)
    have hC1 := hC.fr hF (fun k z => by unfold PWA PW at z; omega)
    obtain ⟨a, p, hX⟩ := hC1.th (t := t) (by omega)
    have ha : sN (ma S 1) (1010 + t) = a := hX.2.1
    have hLt := hL t (by omega)
    rw [ha] at hLt
    obtain ⟨c2, e2, f2, u2⟩ := x_leastWage (nx := nx) (by omega) hX hn1 hn (kk := 0) (j0 := 0) (N := n) (by decide) (by omega) (by omega) (hLt.fr hF (fun k z => by unfold PT at z; unfold PWA PW; omega)) (Or.inl (hM t (by omega) (by omega)))
    have e2 : F_X5_leastWage G (encX G X c1 h0) nx (X + 51) (nI t) (nI 0) (nI n) = some (toW S n t, encX G X c2 h0, nx) := by rw [to_lw hn]; exact e2
    obtain ⟨c', r1, r2⟩ := ih (t + 1) m (xsa c2 88 (upK (xa c2 88) t (toW S n t))) (by omega) (by omega) ((hF.trans f2 (fun _ z => z) (fun k z => by rcases z with z | z; exact Or.inl z; exact Or.inr (by omega))).trans (FrX.sa (P := PWA) (Or.inr (by omega))) (fun _ z => z) (fun _ z => z)) (fun i h3 h4 => by
      rw [xa_xsa_n (by omega), f2.a (80 + i) (by unfold PV PW; omega)]
      exact hM i (by omega) h4) (fun i hi => by
      rw [xa_xsa_s]
      by_cases e : i = t
      · subst e; exact upK_s
      · rw [upK_n e, f2.a 88 (by unfold PV PW; omega)]
        exact hV i (by omega))
    refine ⟨c', ?_, r2⟩
    rw [F_X5_weighAll_2_s]
    simp (maxSteps := 3000000) (disch := omega) only [e113, e2, xi_xsi_s, xi_xsi_n, xl_xsi, xa_xsi, xj_xsi, xr_xsi, xsi_xsi, xi_xsl, xl_xsl_s, xl_xsl_n, xa_xsl, xj_xsl, xr_xsl, xsl_xsl, xi_xsa, xl_xsa, xa_xsa_s, xa_xsa_n, xj_xsa, xr_xsa, xsa_xsa, xi_xsj, xl_xsj, xa_xsj, xj_xsj_s, xj_xsj_n, xr_xsj, xsj_xsj, xi_xsr, xl_xsr, xa_xsr, xj_xsr, xr_xsr_s, xr_xsr_n, xsr_xsr, xk_0, xg_0_0, xg_0_1, xg_0_2, xp_0_2, xg_0_3, xg_0_4, xg_0_5, xg_0_6, xk_1, xg_1_0, xg_1_1, xp_1_1, xg_1_2, xg_1_3, xp_1_3, xg_1_4, xg_1_5, xg_1_6, xg_1_7, xg_1_8, xg_1_9, xg_1_10, xg_1_11, xp_1_11, xg_1_12, xg_1_13, xg_1_14, xg_1_15, xp_1_15, xg_1_16, xp_1_16, xg_1_17, xp_1_17, xk_26, xg_26_0, xg_26_1, xp_26_1, xg_26_2, xg_26_3, xp_26_3, xg_26_4, xg_26_5, xg_26_6, xg_26_7, xg_26_8, xg_26_9, xg_26_10, xg_26_11, xp_26_11, xg_26_12, xg_26_13, xg_26_14, xg_26_15, xp_26_15, xg_26_16, xp_26_16, xg_26_17, xp_26_17, xk_51, xg_51_0, xg_51_1, xg_51_2, xg_51_3, xg_51_4, xg_51_5, xg_51_6, xg_51_7, xp_51_7, xg_51_8, xp_51_8, xk_90, xg_90_0, xg_90_1, xg_90_2, xg_90_3, xp_90_3, xg_90_4, xg_90_5, xp_90_5, xg_90_6, xg_90_7, xp_90_7, xg_90_8, xp_90_8, xg_90_9, xp_90_9, xg_90_10, xas_2, xal_2, xal_3, xas_4, xal_4, xln_4, xas_5, xal_5, xln_5, xas_6, xal_6, xln_6, xas_7, xal_7, xln_7, xas_8, xal_8, xln_8, xas_9, xal_9, xln_9, xas0_10, xas1_10, xasb_10, xal_10, xal_11, xas_12, xal_12, xln_12, xas_27, xal_27, xal_28, xas_29, xal_29, xln_29, xas_30, xal_30, xln_30, xas_31, xal_31, xln_31, xas_32, xal_32, xln_32, xas_33, xal_33, xln_33, xas_34, xal_34, xln_34, xas0_35, xas1_35, xasb_35, xal_35, xal_36, xas_37, xal_37, xln_37, xas_88, xal_88, xln_88, xal_89, xas_89, xln_89, xas_103, xal_103, xln_103, xas_104, xal_104, xln_104, xas_105, xal_105, xln_105, xas_106, xal_106, xln_106, xas_107, xal_107, xln_107, xal_13, xal_in14, xas_in14, xln_in14, xal_38, xal_in39, xas_in39, xln_in39, xal_52, xal_in53, xas_in53, xln_in53, xal_61, xal_in62, xas_in62, xln_in62, xal_70, xal_in71, xas_in71, xln_in71, xal_79, xal_in80, xas_in80, xln_in80, xal_91, xal_in92, xas_in92, xln_in92, cl_some, nm_b, nn_some, qn_some, qn_none, zk_0, zk_1, zk_n0, zk_n1, nI_add, pk_mul, pk_sub, nI_leE, nI_ltE, nI_eqE, nI_lt0, nI_ge0, nI_eq0, nI_gt0, nI_le0, ilt_t, ilt_f, ile_t, ile_f, ieq_t, ieq_f, if_tt, if_ff, Nat.add_sub_cancel]
    exact r1
theorem x_weighAll (hC : XC G X lo h0 c (ma S 1) ns nt np lk td q) {n : Nat} (hn1 : 1 ≤ n) (hn : n ≤ 8) (hL : LdA c S nt n) (hW : ∀ i, i < nt → xa c (80 + i) 0 = -1) : ∃ c' : CS, F_X5_weighAll G (encX G X c h0) nx (X + 51) (nI n) = some ((), encX G X c' h0, nx) ∧ FrX PWA c c' ∧ ∀ i, i < nt → xa c' 88 i = toW S n i :=
  x_weighAll2 hC hn1 hn hL hW nt 0 fuelL c (by omega) (by have := hC.2.2.2.2.2.1; unfold fuelL; omega) FrX.rf (fun i _ hi => hW i hi) (fun i hi => absurd hi (by omega))
end XN
