/-! THE CLASS: whom a plan chooses -/
theorem brF_ag {S S' : MS} (h : AgS (ma S 1) (ma S' 1)) {t : Nat} (ht : ThOk (ma S 1) t) : brF (ma S' 1) t = brF (ma S 1) t := by
  funext x
  unfold brF
  rw [valF_ag h ht (by omega), valF_ag h ht (by omega)]
theorem vB_ag {S S' : MS} {t : Nat} {w : Int64} (h : AgS (ma S 1) (ma S' 1)) (e1 : mi S' 10 = mi S 10) (e2 : mi S' 11 = mi S 11) (ht : ThOk (ma S 1) t) : ∀ (n : Nat) (z : Int32 × Int32), vB S' t w n z = vB S t w n z
  | 0, _ => rfl
  | n + 1, z => by
    have eo := overF_ag h e1 e2 ht
    have er : ∀ kk, ¬ kk = 0 → rowSt S' t kk = rowSt S t kk := by
      intro kk hk
      unfold rowSt
      rw [if_neg hk, if_neg hk, eo, valF_ag h ht (by omega)]
    unfold vB
    rw [eo, er 1 (by decide), er 2 (by decide), brF_ag h ht, valF_ag h ht (by omega), valF_ag h ht (by omega), vB_ag h e1 e2 ht n _, vB_ag h e1 e2 ht n _, vB_ag h e1 e2 ht n _]
theorem lw_ag {S S' : MS} {t n : Nat} (h : AgS (ma S 1) (ma S' 1)) (e1 : mi S' 10 = mi S 10) (e2 : mi S' 11 = mi S 11) (ht : ThOk (ma S 1) t) (z : Int32 × Int32) : lwF S' t n z = lwF S t n z := by
  unfold lwF
  rw [show nwV S' t n z = nwV S t n z from funext fun w => by unfold nwV; rw [vB_ag h e1 e2 ht]]
theorem pred_nI {e : Nat} : nI (e + 1) + (-1 : Int32) = nI e := by
  rw [show (-1 : Int32) = -(nI 1) by decide, ← Int32.sub_eq_add_neg, pk_sub (by omega), Nat.add_sub_cancel]
/-- days that a plan asks ahead -/
def dA (k v : Nat) : Nat := if k = 1 then 1 + v % 3 else 0
def MemoA (c : CS) (S : MS) (nt N m : Nat) : Prop := ∀ t, t < nt → ∀ kk j, kk < 3 → j + m ≤ N → xa c (80 + t) (11 * kk + j) = -1 ∨ xa c (80 + t) (11 * kk + j) = lwF S t m (paK S t (stZ (ma S 1) t kk) j)
def SpA (c : CS) (S : MS) (nt N m ks : Nat) (s : Nat → Int32) (Q : Nat → Nat × Nat) : Prop := ∀ t, t < nt → (Q t).1 < 3 ∧ (Q t).2 + m ≤ N ∧ xa c ks t = nI (11 * (Q t).1 + (Q t).2) ∧ paK S t (stZ (ma S 1) t (Q t).1) (Q t).2 = (s (1034 + t), s (1042 + t))
theorem MemoA.fr {c c' : CS} {S : MS} {nt N m : Nat} {P : Nat → Prop} (h : MemoA c S nt N m) (f : FrX P c c') (hP : ∀ k, 80 ≤ k → k < 80 + nt → ¬ P k) : MemoA c' S nt N m := fun t ht kk j hk hj => by
  rw [f.a (80 + t) (hP _ (by omega) (by omega))]
  exact h t ht kk j hk hj
theorem LdA.fr {c c' : CS} {S : MS} {nt N : Nat} {P : Nat → Prop} (h : LdA c S nt N) (f : FrX P c c') (hP : ∀ t k, t < 8 → PT t k → ¬ P k) (h8 : nt ≤ 8) : LdA c' S nt N := fun t ht => (h t ht).fr f (fun k z => hP t k (by omega) z)
theorem SpA.fr {c c' : CS} {S : MS} {nt N m ks : Nat} {s : Nat → Int32} {Q : Nat → Nat × Nat} {P : Nat → Prop} (h : SpA c S nt N m ks s Q) (f : FrX P c c') (hP : ¬ P ks) : SpA c' S nt N m ks s Q := fun t ht => by
  rw [f.a ks hP]
  exact h t ht
/-- a PLAN -/
def XP (G : Gx) (X : Nat) (h0 : Hp) (c : CS) (s : Nat → Int32) (nt p q k v : Nat) : Prop := xr c 11 p = some q ∧ (∀ c' : CS, encX G X c' h0 q = some (ob (kCl k) [.int (nI p), .int (nI v)])) ∧ k ≤ 6 ∧ v ≤ 99 ∧ sN s (1070 + p) = k ∧ sN s (1082 + p) = v ∧ s (1070 + p) = nI k ∧ s (1082 + p) = nI v ∧ xa c 12 p = s (1094 + p) ∧ p < 12 ∧ ∃ r, r ≤ 10 ∧ s (1094 + p) = nI r ∧ ∀ j, j < r → ∃ m, m < 2 ^ nt ∧ s (1110 + 10 * p + j) = nI m ∧ xa c (14 + p) j = nI m
section XCH
variable {G : Gx} {X lo nx : Nat} {h0 : Hp} {c : CS} {s0 : Nat → Int32} {ns nt np lk td q : Nat}
theorem XC.pl (h : XC G X lo h0 c s0 ns nt np lk td q) {p : Nat} (hp : p < np) : ∃ q k v, XP G X h0 c s0 nt p q k v := by
  obtain ⟨h1, ⟨_, _, _, pl, _⟩, v⟩ := h
  obtain ⟨v1, v2, v3, v4, v5, v6, v7, v8, v9, v10, v11, v12, v13, _⟩ := v
  obtain ⟨⟨k, hk, ek⟩, ⟨v, hv, ev⟩, r, hr, er, hrow⟩ := v13 p hp
  obtain ⟨q, p1, p2, p3, p4, p5⟩ := pl p hp
  have sk : sN s0 (1070 + p) = k := by unfold sN; rw [ek, nI_clamp (by omega)]
  have sr : sN s0 (1094 + p) = r := by unfold sN; rw [er, nI_clamp (by omega)]
  refine ⟨q, k, v, p1, fun c' => ?_, hk, hv, sk, ?_, ek, ev, p4, by omega, r, hr, er, fun j hj => ?_⟩
  · rw [encX_out (Or.inr (by omega)), p3, sk, ev]
  · unfold sN; rw [ev, nI_clamp (by omega)]
  · obtain ⟨m, hm, em⟩ := hrow j hj
    exact ⟨m, hm, em, (p5 j (by omega)).trans em⟩
theorem XP.fr {P : Nat → Prop} {c' : CS} {p q k v : Nat} (h : XP G X h0 c s0 nt p q k v) (f : FrX P c c') (hP : ∀ k, P k → 26 ≤ k ∧ k < 111) : XP G X h0 c' s0 nt p q k v := by
  have np : ∀ k, k < 26 → ¬ P k := fun k hk z => by have := hP k z; omega
  unfold XP at *
  have h12 : p < 12 := h.2.2.2.2.2.2.2.2.2.1
  rw [f.a 12 (np _ (by omega)), f.a (14 + p) (np _ (by omega)), f.r 11 (np _ (by omega))]
  exact h
theorem x_thC (h : XC G X lo h0 c s0 ns nt np lk td q) : xi c 113 = nI nt := h.2.1.1.2.2.1.trans h.2.2.2.2.1
theorem x_lkC (h : XC G X lo h0 c s0 ns nt np lk td q) : ∃ l, 1 ≤ l ∧ l ≤ 3 ∧ xi c 116 = nI l ∧ lk = min l nt := by
  obtain ⟨l, h1, h2, h3, h4⟩ := h.2.2.2.2.2.2.2.2.2.2.1
  exact ⟨l, h1, h2, h.2.1.1.2.2.2.2.2.trans h3, h4⟩
theorem x_nt8 (h : XC G X lo h0 c s0 ns nt np lk td q) : nt ≤ 8 := h.2.2.2.2.2.1
theorem x_ThOk (h : XC G X lo h0 c s0 ns nt np lk td q) {t : Nat} (ht : t < nt) : ThOk s0 t := by
  obtain ⟨_, _, v⟩ := h
  obtain ⟨v1, v2, v3, v4, v5, v6, v7, v8, v9, v10, v11, v12, v13, v14, _⟩ := v
  obtain ⟨⟨a, ha, ea⟩, _⟩ := v12 t ht
  have sa : sN s0 (1010 + t) = a := by unfold sN; rw [ea, nI_clamp (by omega)]
  exact ⟨by omega, by rw [sa]; exact ea, by omega, by rw [sa]; exact v14 a ha⟩
theorem x_looksOrAll (h : XC G X lo h0 c s0 ns nt np lk td q) : F_X0_looksOrAll G (encX G X c h0) nx (X + 1) = some (nI lk, encX G X c h0, nx) := by
  obtain ⟨l, h1, h2, h3, h4⟩ := x_lkC h
  have h5 := x_thC h
  have h8 := x_nt8 h
  unfold F_X0_looksOrAll
  simp (maxSteps := 3000000) (disch := omega) only [h3, h5, xi_xsi_s, xi_xsi_n, xl_xsi, xa_xsi, xj_xsi, xr_xsi, xsi_xsi, xi_xsl, xl_xsl_s, xl_xsl_n, xa_xsl, xj_xsl, xr_xsl, xsl_xsl, xi_xsa, xl_xsa, xa_xsa_s, xa_xsa_n, xj_xsa, xr_xsa, xsa_xsa, xi_xsj, xl_xsj, xa_xsj, xj_xsj_s, xj_xsj_n, xr_xsj, xsj_xsj, xi_xsr, xl_xsr, xa_xsr, xj_xsr, xr_xsr_s, xr_xsr_n, xsr_xsr, xk_0, xg_0_0, xg_0_1, xg_0_2, xp_0_2, xg_0_3, xg_0_4, xg_0_5, xg_0_6, xk_1, xg_1_0, xg_1_1, xp_1_1, xg_1_2, xg_1_3, xp_1_3, xg_1_4, xg_1_5, xg_1_6, xg_1_7, xg_1_8, xg_1_9, xg_1_10, xg_1_11, xp_1_11, xg_1_12, xg_1_13, xg_1_14, xg_1_15, xp_1_15, xg_1_16, xp_1_16, xg_1_17, xp_1_17, xk_26, xg_26_0, xg_26_1, xp_26_1, xg_26_2, xg_26_3, xp_26_3, xg_26_4, xg_26_5, xg_26_6, xg_26_7, xg_26_8, xg_26_9, xg_26_10, xg_26_11, xp_26_11, xg_26_12, xg_26_13, xg_26_14, xg_26_15, xp_26_15, xg_26_16, xp_26_16, xg_26_17, xp_26_17, xk_51, xg_51_0, xg_51_1, xg_51_2, xg_51_3, xg_51_4, xg_51_5, xg_51_6, xg_51_7, xp_51_7, xg_51_8, xp_51_8, xk_90, xg_90_0, xg_90_1, xg_90_2, xg_90_3, xp_90_3, xg_90_4, xg_90_5, xp_90_5, xg_90_6, xg_90_7, xp_90_7, xg_90_8, xp_90_8, xg_90_9, xp_90_9, xg_90_10, xas_2, xal_2, xal_3, xas_4, xal_4, xln_4, xas_5, xal_5, xln_5, xas_6, xal_6, xln_6, xas_7, xal_7, xln_7, xas_8, xal_8, xln_8, xas_9, xal_9, xln_9, xas0_10, xas1_10, xasb_10, xal_10, xal_11, xas_12, xal_12, xln_12, xas_27, xal_27, xal_28, xas_29, xal_29, xln_29, xas_30, xal_30, xln_30, xas_31, xal_31, xln_31, xas_32, xal_32, xln_32, xas_33, xal_33, xln_33, xas_34, xal_34, xln_34, xas0_35, xas1_35, xasb_35, xal_35, xal_36, xas_37, xal_37, xln_37, xas_88, xal_88, xln_88, xal_89, xas_89, xln_89, xas_103, xal_103, xln_103, xas_104, xal_104, xln_104, xas_105, xal_105, xln_105, xas_106, xal_106, xln_106, xas_107, xal_107, xln_107, xal_13, xal_in14, xas_in14, xln_in14, xal_38, xal_in39, xas_in39, xln_in39, xal_52, xal_in53, xas_in53, xln_in53, xal_61, xal_in62, xas_in62, xln_in62, xal_70, xal_in71, xas_in71, xln_in71, xal_79, xal_in80, xas_in80, xln_in80, xal_91, xal_in92, xas_in92, xln_in92, cl_some, nm_b, nn_some, qn_some, qn_none, zk_0, zk_1, zk_n0, zk_n1, nI_add, pk_mul, pk_sub, nI_leE, nI_ltE, nI_eqE, nI_lt0, nI_ge0, nI_eq0, nI_gt0, nI_le0, ilt_t, ilt_f, ile_t, ile_f, ieq_t, ieq_f, if_tt, if_ff, Nat.add_sub_cancel]
  unfold mnI
  simp (disch := omega) only [nI_ltE]
  split
  · rw [h4, Nat.min_eq_right (by omega)]
  · rw [h4, Nat.min_eq_left (by omega)]
theorem pick_no {W : Nat → Int32} {set : Int32} : ∀ {t : Nat}, t ≤ 8 → pickF W set t = -1 → ∀ j, j < t → bt set j = true
  | 0, _, _, j, hj => absurd hj (by omega)
  | t + 1, ht, h, j, hj => by
    rw [pick_s] at h
    by_cases c1 : bitI set t = nI 0
    · by_cases c2 : pickF W set t = -1 ∨ W (pickF W set t).toNatClampNeg < W t
      · rw [if_pos ⟨c1, c2⟩] at h
        exact absurd h (fun q => nI_pos (n := t) (by omega) (by rw [q]; decide))
      · rw [if_neg (fun q => c2 q.2)] at h
        exact absurd (Or.inl h) c2
    · rw [if_neg (fun q => c1 q.1)] at h
      by_cases e : j = t
      · subst e
        cases hb : bt set j
        · exact absurd ((bitI_0 (by omega)).mpr hb) c1
        · rfl
      · exact pick_no (by omega) h j (by omega)
theorem cnN_all {x : Int32} : ∀ {k : Nat}, (∀ j, j < k → bt x j = true) → cnN x k = k
  | 0, _ => rfl
  | k + 1, h => by
    show cnN x k + (if bt x k = true then 1 else 0) = k + 1
    rw [cnN_all (fun j hj => h j (by omega)), if_pos (h k (by omega))]
theorem cn_gr {W : Nat → Int32} {nt : Nat} : ∀ {n : Nat}, cnN (grF W nt n) nt ≤ n
  | 0 => by rw [show grF W nt 0 = nI 0 from rfl, cnN_z]; exact Nat.le_refl _
  | n + 1 => by
    have ih := cn_gr (W := W) (nt := nt) (n := n)
    show cnN (grF W nt n ||| _) nt ≤ n + 1
    refine Nat.le_trans cnN_or ?_
    have := cnN_sh (k := pickF W (grF W nt n) nt &&& 31) (r := nt)
    omega
theorem pick_some {W : Nat → Int32} {nt n : Nat} (h8 : nt ≤ 8) (hn : n < nt) : ∃ j, j < nt ∧ pickF W (grF W nt n) nt = nI j := by
  rcases pick_or W (grF W nt n) nt with h | ⟨j, h1, h2⟩
  · have := cnN_all (pick_no h8 h)
    have := cn_gr (W := W) (nt := nt) (n := n)
    omega
  · exact ⟨j, h1, h2⟩
set_option maxRecDepth 100000 in
set_option maxHeartbeats 1000000 in
theorem x_ws20 (h5 : xi c 113 = nI nt) (h8 : nt ≤ 8) {k4 : Hp → Nat → Nat → Int32 → Int32 → Rz Int32} {set : Int32} {n : Nat} (hp : ∃ j, j < nt ∧ pickF (xa c 88) set nt = nI j) : ∀ (r t m : Nat), t + r = nt → r < m → F_X5_worthiestSet_20 G k4 m (encX G X c h0) nx (X + 51) set (nI n) (pickF (xa c 88) set t) (nI t) = k4 (encX G X c h0) nx (X + 51) (set ||| (nI 1 <<< (pickF (xa c 88) set nt &&& 31))) (nI (n + 1)) := by
  intro r
  induction r with
  | zero =>
    intro t m ht hm
    obtain ⟨m, rfl⟩ : ∃ q, m = q + 1 := ⟨m - 1, by omega⟩
    obtain rfl : t = nt := by omega
    obtain ⟨j, hj, ej⟩ := hp
    rw [F_X5_worthiestSet_20_s]
    unfold F_X5_worthiestSet_82
    rw [ej]
    simp (maxSteps := 3000000) (disch := omega) only [h5, xi_xsi_s, xi_xsi_n, xl_xsi, xa_xsi, xj_xsi, xr_xsi, xsi_xsi, xi_xsl, xl_xsl_s, xl_xsl_n, xa_xsl, xj_xsl, xr_xsl, xsl_xsl, xi_xsa, xl_xsa, xa_xsa_s, xa_xsa_n, xj_xsa, xr_xsa, xsa_xsa, xi_xsj, xl_xsj, xa_xsj, xj_xsj_s, xj_xsj_n, xr_xsj, xsj_xsj, xi_xsr, xl_xsr, xa_xsr, xj_xsr, xr_xsr_s, xr_xsr_n, xsr_xsr, xk_0, xg_0_0, xg_0_1, xg_0_2, xp_0_2, xg_0_3, xg_0_4, xg_0_5, xg_0_6, xk_1, xg_1_0, xg_1_1, xp_1_1, xg_1_2, xg_1_3, xp_1_3, xg_1_4, xg_1_5, xg_1_6, xg_1_7, xg_1_8, xg_1_9, xg_1_10, xg_1_11, xp_1_11, xg_1_12, xg_1_13, xg_1_14, xg_1_15, xp_1_15, xg_1_16, xp_1_16, xg_1_17, xp_1_17, xk_26, xg_26_0, xg_26_1, xp_26_1, xg_26_2, xg_26_3, xp_26_3, xg_26_4, xg_26_5, xg_26_6, xg_26_7, xg_26_8, xg_26_9, xg_26_10, xg_26_11, xp_26_11, xg_26_12, xg_26_13, xg_26_14, xg_26_15, xp_26_15, xg_26_16, xp_26_16, xg_26_17, xp_26_17, xk_51, xg_51_0, xg_51_1, xg_51_2, xg_51_3, xg_51_4, xg_51_5, xg_51_6, xg_51_7, xp_51_7, xg_51_8, xp_51_8, xk_90, xg_90_0, xg_90_1, xg_90_2, xg_90_3, xp_90_3, xg_90_4, xg_90_5, xp_90_5, xg_90_6, xg_90_7, xp_90_7, xg_90_8, xp_90_8, xg_90_9, xp_90_9, xg_90_10, xas_2, xal_2, xal_3, xas_4, xal_4, xln_4, xas_5, xal_5, xln_5, xas_6, xal_6, xln_6, xas_7, xal_7, xln_7, xas_8, xal_8, xln_8, xas_9, xal_9, xln_9, xas0_10, xas1_10, xasb_10, xal_10, xal_11, xas_12, xal_12, xln_12, xas_27, xal_27, xal_28, xas_29, xal_29, xln_29, xas_30, xal_30, xln_30, xas_31, xal_31, xln_31, xas_32, xal_32, xln_32, xas_33, xal_33, xln_33, xas_34, xal_34, xln_34, xas0_35, xas1_35, xasb_35, xal_35, xal_36, xas_37, xal_37, xln_37, xas_88, xal_88, xln_88, xal_89, xas_89, xln_89, xas_103, xal_103, xln_103, xas_104, xal_104, xln_104, xas_105, xal_105, xln_105, xas_106, xal_106, xln_106, xas_107, xal_107, xln_107, xal_13, xal_in14, xas_in14, xln_in14, xal_38, xal_in39, xas_in39, xln_in39, xal_52, xal_in53, xas_in53, xln_in53, xal_61, xal_in62, xas_in62, xln_in62, xal_70, xal_in71, xas_in71, xln_in71, xal_79, xal_in80, xas_in80, xln_in80, xal_91, xal_in92, xas_in92, xln_in92, cl_some, nm_b, nn_some, qn_some, qn_none, zk_0, zk_1, zk_n0, zk_n1, nI_add, pk_mul, pk_sub, nI_leE, nI_ltE, nI_eqE, nI_lt0, nI_ge0, nI_eq0, nI_gt0, nI_le0, ilt_t, ilt_f, ile_t, ile_f, ieq_t, ieq_f, if_tt, if_ff, Nat.add_sub_cancel]
  | succ r ih =>
    intro t m ht hm
    obtain ⟨m, rfl⟩ : ∃ q, m = q + 1 := ⟨m - 1, by omega⟩
    have fin := ih (t + 1) m (by omega) (by omega)
    rw [pick_s] at fin
    rw [F_X5_worthiestSet_20_s]
    unfold F_X5_worthiestSet_61 F_X5_worthiestSet_64
    simp (maxSteps := 3000000) (disch := omega) only [h5, xi_xsi_s, xi_xsi_n, xl_xsi, xa_xsi, xj_xsi, xr_xsi, xsi_xsi, xi_xsl, xl_xsl_s, xl_xsl_n, xa_xsl, xj_xsl, xr_xsl, xsl_xsl, xi_xsa, xl_xsa, xa_xsa_s, xa_xsa_n, xj_xsa, xr_xsa, xsa_xsa, xi_xsj, xl_xsj, xa_xsj, xj_xsj_s, xj_xsj_n, xr_xsj, xsj_xsj, xi_xsr, xl_xsr, xa_xsr, xj_xsr, xr_xsr_s, xr_xsr_n, xsr_xsr, xk_0, xg_0_0, xg_0_1, xg_0_2, xp_0_2, xg_0_3, xg_0_4, xg_0_5, xg_0_6, xk_1, xg_1_0, xg_1_1, xp_1_1, xg_1_2, xg_1_3, xp_1_3, xg_1_4, xg_1_5, xg_1_6, xg_1_7, xg_1_8, xg_1_9, xg_1_10, xg_1_11, xp_1_11, xg_1_12, xg_1_13, xg_1_14, xg_1_15, xp_1_15, xg_1_16, xp_1_16, xg_1_17, xp_1_17, xk_26, xg_26_0, xg_26_1, xp_26_1, xg_26_2, xg_26_3, xp_26_3, xg_26_4, xg_26_5, xg_26_6, xg_26_7, xg_26_8, xg_26_9, xg_26_10, xg_26_11, xp_26_11, xg_26_12, xg_26_13, xg_26_14, xg_26_15, xp_26_15, xg_26_16, xp_26_16, xg_26_17, xp_26_17, xk_51, xg_51_0, xg_51_1, xg_51_2, xg_51_3, xg_51_4, xg_51_5, xg_51_6, xg_51_7, xp_51_7, xg_51_8, xp_51_8, xk_90, xg_90_0, xg_90_1, xg_90_2, xg_90_3, xp_90_3, xg_90_4, xg_90_5, xp_90_5, xg_90_6, xg_90_7, xp_90_7, xg_90_8, xp_90_8, xg_90_9, xp_90_9, xg_90_10, xas_2, xal_2, xal_3, xas_4, xal_4, xln_4, xas_5, xal_5, xln_5, xas_6, xal_6, xln_6, xas_7, xal_7, xln_7, xas_8, xal_8, xln_8, xas_9, xal_9, xln_9, xas0_10, xas1_10, xasb_10, xal_10, xal_11, xas_12, xal_12, xln_12, xas_27, xal_27, xal_28, xas_29, xal_29, xln_29, xas_30, xal_30, xln_30, xas_31, xal_31, xln_31, xas_32, xal_32, xln_32, xas_33, xal_33, xln_33, xas_34, xal_34, xln_34, xas0_35, xas1_35, xasb_35, xal_35, xal_36, xas_37, xal_37, xln_37, xas_88, xal_88, xln_88, xal_89, xas_89, xln_89, xas_103, xal_103, xln_103, xas_104, xal_104, xln_104, xas_105, xal_105, xln_105, xas_106, xal_106, xln_106, xas_107, xal_107, xln_107, xal_13, xal_in14, xas_in14, xln_in14, xal_38, xal_in39, xas_in39, xln_in39, xal_52, xal_in53, xas_in53, xln_in53, xal_61, xal_in62, xas_in62, xln_in62, xal_70, xal_in71, xas_in71, xln_in71, xal_79, xal_in80, xas_in80, xln_in80, xal_91, xal_in92, xas_in92, xln_in92, cl_some, nm_b, nn_some, qn_some, qn_none, zk_0, zk_1, zk_n0, zk_n1, nI_add, pk_mul, pk_sub, nI_leE, nI_ltE, nI_eqE, nI_lt0, nI_ge0, nI_eq0, nI_gt0, nI_le0, ilt_t, ilt_f, ile_t, ile_f, ieq_t, ieq_f, if_tt, if_ff, Nat.add_sub_cancel]
    by_cases c1 : set >>> (nI t &&& 31) &&& nI 1 = 0
    · rw [if_pos c1]
      rcases pick_or (xa c 88) set t with hp | ⟨j, hj, hp⟩
      · rw [if_pos ⟨c1, Or.inl hp⟩] at fin
        rw [hp, if_pos (by decide)]
        exact fin
      · rw [hp] at fin ⊢
        rw [nI_clamp (by omega)] at fin
        rw [if_neg (nI_pos (by omega))]
        simp (maxSteps := 3000000) (disch := omega) only [xi_xsi_s, xi_xsi_n, xl_xsi, xa_xsi, xj_xsi, xr_xsi, xsi_xsi, xi_xsl, xl_xsl_s, xl_xsl_n, xa_xsl, xj_xsl, xr_xsl, xsl_xsl, xi_xsa, xl_xsa, xa_xsa_s, xa_xsa_n, xj_xsa, xr_xsa, xsa_xsa, xi_xsj, xl_xsj, xa_xsj, xj_xsj_s, xj_xsj_n, xr_xsj, xsj_xsj, xi_xsr, xl_xsr, xa_xsr, xj_xsr, xr_xsr_s, xr_xsr_n, xsr_xsr, xk_0, xg_0_0, xg_0_1, xg_0_2, xp_0_2, xg_0_3, xg_0_4, xg_0_5, xg_0_6, xk_1, xg_1_0, xg_1_1, xp_1_1, xg_1_2, xg_1_3, xp_1_3, xg_1_4, xg_1_5, xg_1_6, xg_1_7, xg_1_8, xg_1_9, xg_1_10, xg_1_11, xp_1_11, xg_1_12, xg_1_13, xg_1_14, xg_1_15, xp_1_15, xg_1_16, xp_1_16, xg_1_17, xp_1_17, xk_26, xg_26_0, xg_26_1, xp_26_1, xg_26_2, xg_26_3, xp_26_3, xg_26_4, xg_26_5, xg_26_6, xg_26_7, xg_26_8, xg_26_9, xg_26_10, xg_26_11, xp_26_11, xg_26_12, xg_26_13, xg_26_14, xg_26_15, xp_26_15, xg_26_16, xp_26_16, xg_26_17, xp_26_17, xk_51, xg_51_0, xg_51_1, xg_51_2, xg_51_3, xg_51_4, xg_51_5, xg_51_6, xg_51_7, xp_51_7, xg_51_8, xp_51_8, xk_90, xg_90_0, xg_90_1, xg_90_2, xg_90_3, xp_90_3, xg_90_4, xg_90_5, xp_90_5, xg_90_6, xg_90_7, xp_90_7, xg_90_8, xp_90_8, xg_90_9, xp_90_9, xg_90_10, xas_2, xal_2, xal_3, xas_4, xal_4, xln_4, xas_5, xal_5, xln_5, xas_6, xal_6, xln_6, xas_7, xal_7, xln_7, xas_8, xal_8, xln_8, xas_9, xal_9, xln_9, xas0_10, xas1_10, xasb_10, xal_10, xal_11, xas_12, xal_12, xln_12, xas_27, xal_27, xal_28, xas_29, xal_29, xln_29, xas_30, xal_30, xln_30, xas_31, xal_31, xln_31, xas_32, xal_32, xln_32, xas_33, xal_33, xln_33, xas_34, xal_34, xln_34, xas0_35, xas1_35, xasb_35, xal_35, xal_36, xas_37, xal_37, xln_37, xas_88, xal_88, xln_88, xal_89, xas_89, xln_89, xas_103, xal_103, xln_103, xas_104, xal_104, xln_104, xas_105, xal_105, xln_105, xas_106, xal_106, xln_106, xas_107, xal_107, xln_107, xal_13, xal_in14, xas_in14, xln_in14, xal_38, xal_in39, xas_in39, xln_in39, xal_52, xal_in53, xas_in53, xln_in53, xal_61, xal_in62, xas_in62, xln_in62, xal_70, xal_in71, xas_in71, xln_in71, xal_79, xal_in80, xas_in80, xln_in80, xal_91, xal_in92, xas_in92, xln_in92, cl_some, nm_b, nn_some, qn_some, qn_none, zk_0, zk_1, zk_n0, zk_n1, nI_add, pk_mul, pk_sub, nI_leE, nI_ltE, nI_eqE, nI_lt0, nI_ge0, nI_eq0, nI_gt0, nI_le0, ilt_t, ilt_f, ile_t, ile_f, ieq_t, ieq_f, if_tt, if_ff, Nat.add_sub_cancel]
        have hne : ¬ nI j = -1 := fun q => nI_pos (n := j) (by omega) (by rw [q]; decide)
        by_cases c2 : xa c 88 t ≤ xa c 88 j
        · rw [if_pos c2]
          rw [if_neg (fun q => q.2.elim hne (fun q => Int32.not_lt.mpr c2 q))] at fin
          exact fin
        · rw [if_neg c2]
          rw [if_pos ⟨c1, Or.inr (Int32.not_le.mp c2)⟩] at fin
          exact fin
    · rw [if_neg c1]
      rw [if_neg (fun q => c1 q.1)] at fin
      exact fin
set_option maxRecDepth 100000 in
set_option maxHeartbeats 1000000 in
theorem x_ws4 (hC : XC G X lo h0 c s0 ns nt np lk td q) : ∀ (r n m : Nat), n + r = lk → r < m → F_X5_worthiestSet_4 G m (encX G X c h0) nx (X + 51) (grF (xa c 88) nt n) (nI n) = some (grF (xa c 88) nt lk, encX G X c h0, nx) := by
  have h5 := x_thC hC
  have h8 := x_nt8 hC
  have hl : lk ≤ nt := by obtain ⟨l, _, _, _, h4⟩ := x_lkC hC; rw [h4]; exact Nat.min_le_right _ _
  have el := x_looksOrAll (nx := nx) hC
  intro r
  induction r with
  | zero =>
    intro n m hn hm
    obtain ⟨m, rfl⟩ : ∃ q, m = q + 1 := ⟨m - 1, by omega⟩
    obtain rfl : n = lk := by omega
    rw [F_X5_worthiestSet_4_s]
    simp (maxSteps := 3000000) (disch := omega) only [el, xi_xsi_s, xi_xsi_n, xl_xsi, xa_xsi, xj_xsi, xr_xsi, xsi_xsi, xi_xsl, xl_xsl_s, xl_xsl_n, xa_xsl, xj_xsl, xr_xsl, xsl_xsl, xi_xsa, xl_xsa, xa_xsa_s, xa_xsa_n, xj_xsa, xr_xsa, xsa_xsa, xi_xsj, xl_xsj, xa_xsj, xj_xsj_s, xj_xsj_n, xr_xsj, xsj_xsj, xi_xsr, xl_xsr, xa_xsr, xj_xsr, xr_xsr_s, xr_xsr_n, xsr_xsr, xk_0, xg_0_0, xg_0_1, xg_0_2, xp_0_2, xg_0_3, xg_0_4, xg_0_5, xg_0_6, xk_1, xg_1_0, xg_1_1, xp_1_1, xg_1_2, xg_1_3, xp_1_3, xg_1_4, xg_1_5, xg_1_6, xg_1_7, xg_1_8, xg_1_9, xg_1_10, xg_1_11, xp_1_11, xg_1_12, xg_1_13, xg_1_14, xg_1_15, xp_1_15, xg_1_16, xp_1_16, xg_1_17, xp_1_17, xk_26, xg_26_0, xg_26_1, xp_26_1, xg_26_2, xg_26_3, xp_26_3, xg_26_4, xg_26_5, xg_26_6, xg_26_7, xg_26_8, xg_26_9, xg_26_10, xg_26_11, xp_26_11, xg_26_12, xg_26_13, xg_26_14, xg_26_15, xp_26_15, xg_26_16, xp_26_16, xg_26_17, xp_26_17, xk_51, xg_51_0, xg_51_1, xg_51_2, xg_51_3, xg_51_4, xg_51_5, xg_51_6, xg_51_7, xp_51_7, xg_51_8, xp_51_8, xk_90, xg_90_0, xg_90_1, xg_90_2, xg_90_3, xp_90_3, xg_90_4, xg_90_5, xp_90_5, xg_90_6, xg_90_7, xp_90_7, xg_90_8, xp_90_8, xg_90_9, xp_90_9, xg_90_10, xas_2, xal_2, xal_3, xas_4, xal_4, xln_4, xas_5, xal_5, xln_5, xas_6, xal_6, xln_6, xas_7, xal_7, xln_7, xas_8, xal_8, xln_8, xas_9, xal_9, xln_9, xas0_10, xas1_10, xasb_10, xal_10, xal_11, xas_12, xal_12, xln_12, xas_27, xal_27, xal_28, xas_29, xal_29, xln_29, xas_30, xal_30, xln_30, xas_31, xal_31, xln_31, xas_32, xal_32, xln_32, xas_33, xal_33, xln_33, xas_34, xal_34, xln_34, xas0_35, xas1_35, xasb_35, xal_35, xal_36, xas_37, xal_37, xln_37, xas_88, xal_88, xln_88, xal_89, xas_89, xln_89, xas_103, xal_103, xln_103, xas_104, xal_104, xln_104, xas_105, xal_105, xln_105, xas_106, xal_106, xln_106, xas_107, xal_107, xln_107, xal_13, xal_in14, xas_in14, xln_in14, xal_38, xal_in39, xas_in39, xln_in39, xal_52, xal_in53, xas_in53, xln_in53, xal_61, xal_in62, xas_in62, xln_in62, xal_70, xal_in71, xas_in71, xln_in71, xal_79, xal_in80, xas_in80, xln_in80, xal_91, xal_in92, xas_in92, xln_in92, cl_some, nm_b, nn_some, qn_some, qn_none, zk_0, zk_1, zk_n0, zk_n1, nI_add, pk_mul, pk_sub, nI_leE, nI_ltE, nI_eqE, nI_lt0, nI_ge0, nI_eq0, nI_gt0, nI_le0, ilt_t, ilt_f, ile_t, ile_f, ieq_t, ieq_f, if_tt, if_ff, Nat.add_sub_cancel]
  | succ r ih =>
    intro n m hn hm
    obtain ⟨m, rfl⟩ : ∃ q, m = q + 1 := ⟨m - 1, by omega⟩
    rw [F_X5_worthiestSet_4_s]
    simp (maxSteps := 3000000) (disch := omega) only [el, xi_xsi_s, xi_xsi_n, xl_xsi, xa_xsi, xj_xsi, xr_xsi, xsi_xsi, xi_xsl, xl_xsl_s, xl_xsl_n, xa_xsl, xj_xsl, xr_xsl, xsl_xsl, xi_xsa, xl_xsa, xa_xsa_s, xa_xsa_n, xj_xsa, xr_xsa, xsa_xsa, xi_xsj, xl_xsj, xa_xsj, xj_xsj_s, xj_xsj_n, xr_xsj, xsj_xsj, xi_xsr, xl_xsr, xa_xsr, xj_xsr, xr_xsr_s, xr_xsr_n, xsr_xsr, xk_0, xg_0_0, xg_0_1, xg_0_2, xp_0_2, xg_0_3, xg_0_4, xg_0_5, xg_0_6, xk_1, xg_1_0, xg_1_1, xp_1_1, xg_1_2, xg_1_3, xp_1_3, xg_1_4, xg_1_5, xg_1_6, xg_1_7, xg_1_8, xg_1_9, xg_1_10, xg_1_11, xp_1_11, xg_1_12, xg_1_13, xg_1_14, xg_1_15, xp_1_15, xg_1_16, xp_1_16, xg_1_17, xp_1_17, xk_26, xg_26_0, xg_26_1, xp_26_1, xg_26_2, xg_26_3, xp_26_3, xg_26_4, xg_26_5, xg_26_6, xg_26_7, xg_26_8, xg_26_9, xg_26_10, xg_26_11, xp_26_11, xg_26_12, xg_26_13, xg_26_14, xg_26_15, xp_26_15, xg_26_16, xp_26_16, xg_26_17, xp_26_17, xk_51, xg_51_0, xg_51_1, xg_51_2, xg_51_3, xg_51_4, xg_51_5, xg_51_6, xg_51_7, xp_51_7, xg_51_8, xp_51_8, xk_90, xg_90_0, xg_90_1, xg_90_2, xg_90_3, xp_90_3, xg_90_4, xg_90_5, xp_90_5, xg_90_6, xg_90_7, xp_90_7, xg_90_8, xp_90_8, xg_90_9, xp_90_9, xg_90_10, xas_2, xal_2, xal_3, xas_4, xal_4, xln_4, xas_5, xal_5, xln_5, xas_6, xal_6, xln_6, xas_7, xal_7, xln_7, xas_8, xal_8, xln_8, xas_9, xal_9, xln_9, xas0_10, xas1_10, xasb_10, xal_10, xal_11, xas_12, xal_12, xln_12, xas_27, xal_27, xal_28, xas_29, xal_29, xln_29, xas_30, xal_30, xln_30, xas_31, xal_31, xln_31, xas_32, xal_32, xln_32, xas_33, xal_33, xln_33, xas_34, xal_34, xln_34, xas0_35, xas1_35, xasb_35, xal_35, xal_36, xas_37, xal_37, xln_37, xas_88, xal_88, xln_88, xal_89, xas_89, xln_89, xas_103, xal_103, xln_103, xas_104, xal_104, xln_104, xas_105, xal_105, xln_105, xas_106, xal_106, xln_106, xas_107, xal_107, xln_107, xal_13, xal_in14, xas_in14, xln_in14, xal_38, xal_in39, xas_in39, xln_in39, xal_52, xal_in53, xas_in53, xln_in53, xal_61, xal_in62, xas_in62, xln_in62, xal_70, xal_in71, xas_in71, xln_in71, xal_79, xal_in80, xas_in80, xln_in80, xal_91, xal_in92, xas_in92, xln_in92, cl_some, nm_b, nn_some, qn_some, qn_none, zk_0, zk_1, zk_n0, zk_n1, nI_add, pk_mul, pk_sub, nI_leE, nI_ltE, nI_eqE, nI_lt0, nI_ge0, nI_eq0, nI_gt0, nI_le0, ilt_t, ilt_f, ile_t, ile_f, ieq_t, ieq_f, if_tt, if_ff, Nat.add_sub_cancel]
    have e := x_ws20 (G := G) (X := X) (nx := nx) (h0 := h0) (c := c) h5 h8 (k4 := F_X5_worthiestSet_4 G m) (set := grF (xa c 88) nt n) (n := n) (pick_some h8 (by omega)) nt 0 fuelL (by omega) (by unfold fuelL; omega)
    exact e.trans (ih (n + 1) m (by omega) (by omega))
theorem x_worthiestSet (hC : XC G X lo h0 c s0 ns nt np lk td q) : F_X5_worthiestSet G (encX G X c h0) nx (X + 51) = some (grF (xa c 88) nt lk, encX G X c h0, nx) := x_ws4 hC lk 0 fuelL (by omega) (by
  obtain ⟨l, _, _, _, h4⟩ := x_lkC hC
  have : lk ≤ l := by rw [h4]; exact Nat.min_le_left _ _
  unfold fuelL; omega)
/-! one kind's worth -/
noncomputable def wkF (G : Gx) (k : Nat) : Hp → Nat → Nat → Nat → Int32 → Int32 → Rz Int32 := if k = 1 then F_X4_worthOf G else if k = 3 then F_X3_worthOf G else if k = 5 then F_X2_worthOf G else F_X6_worthOf G
set_option maxRecDepth 100000 in
set_option maxHeartbeats 1000000 in
theorem x_worthK {S : MS} {s : Nat → Int32} {p q0 k v N t ks : Nat} {Q : Nat → Nat × Nat} (hC : XC G X lo h0 c (ma S 1) ns nt np lk td q) (hP : XP G X h0 c (ma S 1) nt p q0 k v) (hL : LdA c S nt N) (hN : N ≤ 10) (hM : MemoA c S nt N (dA k v)) (hA : AgN nt (ma S 1) s) (hS : SpA c S nt N (dA k v) ks s Q) (ht : t < nt) : ∃ c' : CS, wkF G k (encX G X c h0) nx q0 (X + 51) (nI t) (nI (11 * (Q t).1 + (Q t).2)) = some (woF (msa S 1 s) p t, encX G X c' h0, nx) ∧ FrX (PV t) c c' ∧ MemoA c' S nt N (dA k v) := by
  have h8 := x_nt8 hC
  obtain ⟨s1, s2, s3, s4⟩ := hS t ht
  obtain ⟨a, p0, hX⟩ := hC.th ht
  have ha : sN (ma S 1) (1010 + t) = a := hX.2.1
  have hLt := hL t ht
  rw [ha] at hLt
  obtain ⟨p1, p2, p3, p4, p5, p6, p7, p8, p9, p12, _⟩ := hP
  have ss : ma (msa S 1 s) 1 = s := ma_msa_s
  have k70 : sN s (1070 + p) = k := by
    rw [← p5]; unfold sN; rw [hA _ (by omega)]
  have k82 : sN s (1082 + p) = v := by
    rw [← p6]; unfold sN; rw [hA _ (by omega)]
  obtain ⟨l1, l2, l3⟩ := hLt (Q t).1 s1 (Q t).2 (by omega)
  rw [s4] at l1 l2 l3
  have l1 : xa c (53 + t) (11 * (Q t).1 + (Q t).2) = s (1034 + t) := l1
  have l2 : xa c (62 + t) (11 * (Q t).1 + (Q t).2) = s (1042 + t) := l2
  unfold wkF woF
  rw [ss, k70, k82]
  by_cases c1 : k = 1
  · subst c1
    rw [if_pos rfl, if_pos rfl]
    have ed : dA 1 v = 1 + v % 3 := if_pos rfl
    rw [ed] at hM s2 ⊢
    have hth : ThOk (ma S 1) t := x_ThOk hC ht
    obtain ⟨c2, e2, f2, u2⟩ := x_leastWage (nx := nx) (by omega) hX (n := 1 + v % 3) (by omega) (by omega) (kk := (Q t).1) (j0 := (Q t).2) (N := N) s1 s2 hN hLt (hM t ht (Q t).1 (Q t).2 s1 s2)
    have ew : wgF (nmF (msa S 1 s) t (1 + v % 3)) = lwF S t (1 + v % 3) (paK S t (stZ (ma S 1) t (Q t).1) (Q t).2) := by
      rw [s4, ← lw_ag (S := S) (S' := msa S 1 s) (by rw [ss]; exact hA.ag h8) rfl rfl hth, nm_lw (S := msa S 1 s) (by omega), ss]
      rfl
    refine ⟨c2, ?_, f2, ?_⟩
    · rw [ew]
      have hq := p2 c
      have ck4 : ∀ {β : Type} {f : Nat → Option β}, ck (encX G X c h0) q0 [4] f = f 4 := ck_at hq (by decide)
      have g4 : ∀ {β : Type} {f : Int32 → Option β}, gfI (encX G X c h0) q0 [4] 1 f = f (nI v) := gfI_at hq (by decide) rfl
      unfold F_X4_worthOf F_X4_daysAhead
      simp (maxSteps := 3000000) (disch := omega) only [ck4, g4, xi_xsi_s, xi_xsi_n, xl_xsi, xa_xsi, xj_xsi, xr_xsi, xsi_xsi, xi_xsl, xl_xsl_s, xl_xsl_n, xa_xsl, xj_xsl, xr_xsl, xsl_xsl, xi_xsa, xl_xsa, xa_xsa_s, xa_xsa_n, xj_xsa, xr_xsa, xsa_xsa, xi_xsj, xl_xsj, xa_xsj, xj_xsj_s, xj_xsj_n, xr_xsj, xsj_xsj, xi_xsr, xl_xsr, xa_xsr, xj_xsr, xr_xsr_s, xr_xsr_n, xsr_xsr, xk_0, xg_0_0, xg_0_1, xg_0_2, xp_0_2, xg_0_3, xg_0_4, xg_0_5, xg_0_6, xk_1, xg_1_0, xg_1_1, xp_1_1, xg_1_2, xg_1_3, xp_1_3, xg_1_4, xg_1_5, xg_1_6, xg_1_7, xg_1_8, xg_1_9, xg_1_10, xg_1_11, xp_1_11, xg_1_12, xg_1_13, xg_1_14, xg_1_15, xp_1_15, xg_1_16, xp_1_16, xg_1_17, xp_1_17, xk_26, xg_26_0, xg_26_1, xp_26_1, xg_26_2, xg_26_3, xp_26_3, xg_26_4, xg_26_5, xg_26_6, xg_26_7, xg_26_8, xg_26_9, xg_26_10, xg_26_11, xp_26_11, xg_26_12, xg_26_13, xg_26_14, xg_26_15, xp_26_15, xg_26_16, xp_26_16, xg_26_17, xp_26_17, xk_51, xg_51_0, xg_51_1, xg_51_2, xg_51_3, xg_51_4, xg_51_5, xg_51_6, xg_51_7, xp_51_7, xg_51_8, xp_51_8, xk_90, xg_90_0, xg_90_1, xg_90_2, xg_90_3, xp_90_3, xg_90_4, xg_90_5, xp_90_5, xg_90_6, xg_90_7, xp_90_7, xg_90_8, xp_90_8, xg_90_9, xp_90_9, xg_90_10, xas_2, xal_2, xal_3, xas_4, xal_4, xln_4, xas_5, xal_5, xln_5, xas_6, xal_6, xln_6, xas_7, xal_7, xln_7, xas_8, xal_8, xln_8, xas_9, xal_9, xln_9, xas0_10, xas1_10, xasb_10, xal_10, xal_11, xas_12, xal_12, xln_12, xas_27, xal_27, xal_28, xas_29, xal_29, xln_29, xas_30, xal_30, xln_30, xas_31, xal_31, xln_31, xas_32, xal_32, xln_32, xas_33, xal_33, xln_33, xas_34, xal_34, xln_34, xas0_35, xas1_35, xasb_35, xal_35, xal_36, xas_37, xal_37, xln_37, xas_88, xal_88, xln_88, xal_89, xas_89, xln_89, xas_103, xal_103, xln_103, xas_104, xal_104, xln_104, xas_105, xal_105, xln_105, xas_106, xal_106, xln_106, xas_107, xal_107, xln_107, xal_13, xal_in14, xas_in14, xln_in14, xal_38, xal_in39, xas_in39, xln_in39, xal_52, xal_in53, xas_in53, xln_in53, xal_61, xal_in62, xas_in62, xln_in62, xal_70, xal_in71, xas_in71, xln_in71, xal_79, xal_in80, xas_in80, xln_in80, xal_91, xal_in92, xas_in92, xln_in92, cl_some, nm_b, nn_some, qn_some, qn_none, zk_0, zk_1, zk_n0, zk_n1, nI_add, pk_mul, pk_sub, nI_leE, nI_ltE, nI_eqE, nI_lt0, nI_ge0, nI_eq0, nI_gt0, nI_le0, ilt_t, ilt_f, ile_t, ile_f, ieq_t, ieq_f, if_tt, if_ff, Nat.add_sub_cancel]
      rw [pk_rem (by omega) (by decide) (by decide), nI_add, e2]
      rfl
    · intro t2 ht2 kk j hk hj
      by_cases e : t2 = t
      · subst e
        by_cases e3 : 11 * kk + j = 11 * (Q t2).1 + (Q t2).2
        · obtain rfl : kk = (Q t2).1 := by omega
          obtain rfl : j = (Q t2).2 := by omega
          exact Or.inr u2.1
        · rw [u2.2 _ e3]
          exact hM t2 ht2 kk j hk hj
      · rw [f2.a (80 + t2) (by unfold PV PW; omega)]
        exact hM t2 ht2 kk j hk hj
  · rw [if_neg c1, if_neg c1]
    refine ⟨c, ?_, FrX.rf, hM⟩
    by_cases c3 : k = 3
    · rw [if_pos c3, if_pos c3]
      unfold F_X3_worthOf
      simp (maxSteps := 3000000) (disch := omega) only [l1, xi_xsi_s, xi_xsi_n, xl_xsi, xa_xsi, xj_xsi, xr_xsi, xsi_xsi, xi_xsl, xl_xsl_s, xl_xsl_n, xa_xsl, xj_xsl, xr_xsl, xsl_xsl, xi_xsa, xl_xsa, xa_xsa_s, xa_xsa_n, xj_xsa, xr_xsa, xsa_xsa, xi_xsj, xl_xsj, xa_xsj, xj_xsj_s, xj_xsj_n, xr_xsj, xsj_xsj, xi_xsr, xl_xsr, xa_xsr, xj_xsr, xr_xsr_s, xr_xsr_n, xsr_xsr, xk_0, xg_0_0, xg_0_1, xg_0_2, xp_0_2, xg_0_3, xg_0_4, xg_0_5, xg_0_6, xk_1, xg_1_0, xg_1_1, xp_1_1, xg_1_2, xg_1_3, xp_1_3, xg_1_4, xg_1_5, xg_1_6, xg_1_7, xg_1_8, xg_1_9, xg_1_10, xg_1_11, xp_1_11, xg_1_12, xg_1_13, xg_1_14, xg_1_15, xp_1_15, xg_1_16, xp_1_16, xg_1_17, xp_1_17, xk_26, xg_26_0, xg_26_1, xp_26_1, xg_26_2, xg_26_3, xp_26_3, xg_26_4, xg_26_5, xg_26_6, xg_26_7, xg_26_8, xg_26_9, xg_26_10, xg_26_11, xp_26_11, xg_26_12, xg_26_13, xg_26_14, xg_26_15, xp_26_15, xg_26_16, xp_26_16, xg_26_17, xp_26_17, xk_51, xg_51_0, xg_51_1, xg_51_2, xg_51_3, xg_51_4, xg_51_5, xg_51_6, xg_51_7, xp_51_7, xg_51_8, xp_51_8, xk_90, xg_90_0, xg_90_1, xg_90_2, xg_90_3, xp_90_3, xg_90_4, xg_90_5, xp_90_5, xg_90_6, xg_90_7, xp_90_7, xg_90_8, xp_90_8, xg_90_9, xp_90_9, xg_90_10, xas_2, xal_2, xal_3, xas_4, xal_4, xln_4, xas_5, xal_5, xln_5, xas_6, xal_6, xln_6, xas_7, xal_7, xln_7, xas_8, xal_8, xln_8, xas_9, xal_9, xln_9, xas0_10, xas1_10, xasb_10, xal_10, xal_11, xas_12, xal_12, xln_12, xas_27, xal_27, xal_28, xas_29, xal_29, xln_29, xas_30, xal_30, xln_30, xas_31, xal_31, xln_31, xas_32, xal_32, xln_32, xas_33, xal_33, xln_33, xas_34, xal_34, xln_34, xas0_35, xas1_35, xasb_35, xal_35, xal_36, xas_37, xal_37, xln_37, xas_88, xal_88, xln_88, xal_89, xas_89, xln_89, xas_103, xal_103, xln_103, xas_104, xal_104, xln_104, xas_105, xal_105, xln_105, xas_106, xal_106, xln_106, xas_107, xal_107, xln_107, xal_13, xal_in14, xas_in14, xln_in14, xal_38, xal_in39, xas_in39, xln_in39, xal_52, xal_in53, xas_in53, xln_in53, xal_61, xal_in62, xas_in62, xln_in62, xal_70, xal_in71, xas_in71, xln_in71, xal_79, xal_in80, xas_in80, xln_in80, xal_91, xal_in92, xas_in92, xln_in92, cl_some, nm_b, nn_some, qn_some, qn_none, zk_0, zk_1, zk_n0, zk_n1, nI_add, pk_mul, pk_sub, nI_leE, nI_ltE, nI_eqE, nI_lt0, nI_ge0, nI_eq0, nI_gt0, nI_le0, ilt_t, ilt_f, ile_t, ile_f, ieq_t, ieq_f, if_tt, if_ff, Nat.add_sub_cancel]
    · rw [if_neg c3, if_neg c3]
      by_cases c5 : k = 5
      · rw [if_pos c5, if_pos c5]
        unfold F_X2_worthOf
        simp (maxSteps := 3000000) (disch := omega) only [l2, xi_xsi_s, xi_xsi_n, xl_xsi, xa_xsi, xj_xsi, xr_xsi, xsi_xsi, xi_xsl, xl_xsl_s, xl_xsl_n, xa_xsl, xj_xsl, xr_xsl, xsl_xsl, xi_xsa, xl_xsa, xa_xsa_s, xa_xsa_n, xj_xsa, xr_xsa, xsa_xsa, xi_xsj, xl_xsj, xa_xsj, xj_xsj_s, xj_xsj_n, xr_xsj, xsj_xsj, xi_xsr, xl_xsr, xa_xsr, xj_xsr, xr_xsr_s, xr_xsr_n, xsr_xsr, xk_0, xg_0_0, xg_0_1, xg_0_2, xp_0_2, xg_0_3, xg_0_4, xg_0_5, xg_0_6, xk_1, xg_1_0, xg_1_1, xp_1_1, xg_1_2, xg_1_3, xp_1_3, xg_1_4, xg_1_5, xg_1_6, xg_1_7, xg_1_8, xg_1_9, xg_1_10, xg_1_11, xp_1_11, xg_1_12, xg_1_13, xg_1_14, xg_1_15, xp_1_15, xg_1_16, xp_1_16, xg_1_17, xp_1_17, xk_26, xg_26_0, xg_26_1, xp_26_1, xg_26_2, xg_26_3, xp_26_3, xg_26_4, xg_26_5, xg_26_6, xg_26_7, xg_26_8, xg_26_9, xg_26_10, xg_26_11, xp_26_11, xg_26_12, xg_26_13, xg_26_14, xg_26_15, xp_26_15, xg_26_16, xp_26_16, xg_26_17, xp_26_17, xk_51, xg_51_0, xg_51_1, xg_51_2, xg_51_3, xg_51_4, xg_51_5, xg_51_6, xg_51_7, xp_51_7, xg_51_8, xp_51_8, xk_90, xg_90_0, xg_90_1, xg_90_2, xg_90_3, xp_90_3, xg_90_4, xg_90_5, xp_90_5, xg_90_6, xg_90_7, xp_90_7, xg_90_8, xp_90_8, xg_90_9, xp_90_9, xg_90_10, xas_2, xal_2, xal_3, xas_4, xal_4, xln_4, xas_5, xal_5, xln_5, xas_6, xal_6, xln_6, xas_7, xal_7, xln_7, xas_8, xal_8, xln_8, xas_9, xal_9, xln_9, xas0_10, xas1_10, xasb_10, xal_10, xal_11, xas_12, xal_12, xln_12, xas_27, xal_27, xal_28, xas_29, xal_29, xln_29, xas_30, xal_30, xln_30, xas_31, xal_31, xln_31, xas_32, xal_32, xln_32, xas_33, xal_33, xln_33, xas_34, xal_34, xln_34, xas0_35, xas1_35, xasb_35, xal_35, xal_36, xas_37, xal_37, xln_37, xas_88, xal_88, xln_88, xal_89, xas_89, xln_89, xas_103, xal_103, xln_103, xas_104, xal_104, xln_104, xas_105, xal_105, xln_105, xas_106, xal_106, xln_106, xas_107, xal_107, xln_107, xal_13, xal_in14, xas_in14, xln_in14, xal_38, xal_in39, xas_in39, xln_in39, xal_52, xal_in53, xas_in53, xln_in53, xal_61, xal_in62, xas_in62, xln_in62, xal_70, xal_in71, xas_in71, xln_in71, xal_79, xal_in80, xas_in80, xln_in80, xal_91, xal_in92, xas_in92, xln_in92, cl_some, nm_b, nn_some, qn_some, qn_none, zk_0, zk_1, zk_n0, zk_n1, nI_add, pk_mul, pk_sub, nI_leE, nI_ltE, nI_eqE, nI_lt0, nI_ge0, nI_eq0, nI_gt0, nI_le0, ilt_t, ilt_f, ile_t, ile_f, ieq_t, ieq_f, if_tt, if_ff, Nat.add_sub_cancel]
      · rw [if_neg c5, if_neg c5]
        rfl
set_option maxRecDepth 100000 in
set_option maxHeartbeats 1000000 in
theorem x_ch3 {S : MS} {s : Nat → Int32} {p q0 k v N ks sp : Nat} {Q : Nat → Nat × Nat} (hC : XC G X lo h0 c (ma S 1) ns nt np lk td q) (hP : XP G X h0 c (ma S 1) nt p q0 k v) (hk : k = 0 ∨ k = 1 ∨ k = 3 ∨ k = 5) (hL : LdA c S nt N) (hN : N ≤ 10) (hA : AgN nt (ma S 1) s) (hS : SpA c S nt N (dA k v) ks s Q) (hks : ¬ PWA ks) (hsp : ∀ (c2 : CS) (t : Nat) {β : Type} {f : Int32 → Option β}, t < 8 → alI (g_c G 0) (encX G X c2 h0) sp (nI t) f = f (xa c2 ks t)) : ∀ (r t m : Nat) (c1 : CS), t + r = nt → r < m → FrX PWA c c1 → MemoA c1 S nt N (dA k v) → (∀ i, i < t → xa c1 88 i = woF (msa S 1 s) p i) → ∃ c' : CS, F_X6_chosen_3 G m (encX G X c1 h0) nx q0 (X + 51) sp (nI t) = some (grF (woF (msa S 1 s) p) nt lk, encX G X c' h0, nx) ∧ FrX PWA c c' ∧ MemoA c' S nt N (dA k v) := by
  have h8 := x_nt8 hC
  have pwa : ∀ k, PWA k → 26 ≤ k ∧ k < 111 := fun k z => by unfold PWA PW at z; omega
  intro r
  induction r with
  | zero =>
    intro t m c1 hr hm hF hM hW
    obtain ⟨m, rfl⟩ : ∃ q, m = q + 1 := ⟨m - 1, by omega⟩
    obtain rfl : t = nt := by omega
    have hC1 := hC.fr hF pwa
    have h5 := x_thC hC1
    have ew := x_worthiestSet (nx := nx) hC1
    refine ⟨c1, ?_, hF, hM⟩
    rw [F_X6_chosen_3_s]
    simp (maxSteps := 3000000) (disch := omega) only [h5, ew, xi_xsi_s, xi_xsi_n, xl_xsi, xa_xsi, xj_xsi, xr_xsi, xsi_xsi, xi_xsl, xl_xsl_s, xl_xsl_n, xa_xsl, xj_xsl, xr_xsl, xsl_xsl, xi_xsa, xl_xsa, xa_xsa_s, xa_xsa_n, xj_xsa, xr_xsa, xsa_xsa, xi_xsj, xl_xsj, xa_xsj, xj_xsj_s, xj_xsj_n, xr_xsj, xsj_xsj, xi_xsr, xl_xsr, xa_xsr, xj_xsr, xr_xsr_s, xr_xsr_n, xsr_xsr, xk_0, xg_0_0, xg_0_1, xg_0_2, xp_0_2, xg_0_3, xg_0_4, xg_0_5, xg_0_6, xk_1, xg_1_0, xg_1_1, xp_1_1, xg_1_2, xg_1_3, xp_1_3, xg_1_4, xg_1_5, xg_1_6, xg_1_7, xg_1_8, xg_1_9, xg_1_10, xg_1_11, xp_1_11, xg_1_12, xg_1_13, xg_1_14, xg_1_15, xp_1_15, xg_1_16, xp_1_16, xg_1_17, xp_1_17, xk_26, xg_26_0, xg_26_1, xp_26_1, xg_26_2, xg_26_3, xp_26_3, xg_26_4, xg_26_5, xg_26_6, xg_26_7, xg_26_8, xg_26_9, xg_26_10, xg_26_11, xp_26_11, xg_26_12, xg_26_13, xg_26_14, xg_26_15, xp_26_15, xg_26_16, xp_26_16, xg_26_17, xp_26_17, xk_51, xg_51_0, xg_51_1, xg_51_2, xg_51_3, xg_51_4, xg_51_5, xg_51_6, xg_51_7, xp_51_7, xg_51_8, xp_51_8, xk_90, xg_90_0, xg_90_1, xg_90_2, xg_90_3, xp_90_3, xg_90_4, xg_90_5, xp_90_5, xg_90_6, xg_90_7, xp_90_7, xg_90_8, xp_90_8, xg_90_9, xp_90_9, xg_90_10, xas_2, xal_2, xal_3, xas_4, xal_4, xln_4, xas_5, xal_5, xln_5, xas_6, xal_6, xln_6, xas_7, xal_7, xln_7, xas_8, xal_8, xln_8, xas_9, xal_9, xln_9, xas0_10, xas1_10, xasb_10, xal_10, xal_11, xas_12, xal_12, xln_12, xas_27, xal_27, xal_28, xas_29, xal_29, xln_29, xas_30, xal_30, xln_30, xas_31, xal_31, xln_31, xas_32, xal_32, xln_32, xas_33, xal_33, xln_33, xas_34, xal_34, xln_34, xas0_35, xas1_35, xasb_35, xal_35, xal_36, xas_37, xal_37, xln_37, xas_88, xal_88, xln_88, xal_89, xas_89, xln_89, xas_103, xal_103, xln_103, xas_104, xal_104, xln_104, xas_105, xal_105, xln_105, xas_106, xal_106, xln_106, xas_107, xal_107, xln_107, xal_13, xal_in14, xas_in14, xln_in14, xal_38, xal_in39, xas_in39, xln_in39, xal_52, xal_in53, xas_in53, xln_in53, xal_61, xal_in62, xas_in62, xln_in62, xal_70, xal_in71, xas_in71, xln_in71, xal_79, xal_in80, xas_in80, xln_in80, xal_91, xal_in92, xas_in92, xln_in92, cl_some, nm_b, nn_some, qn_some, qn_none, zk_0, zk_1, zk_n0, zk_n1, nI_add, pk_mul, pk_sub, nI_leE, nI_ltE, nI_eqE, nI_lt0, nI_ge0, nI_eq0, nI_gt0, nI_le0, ilt_t, ilt_f, ile_t, ile_f, ieq_t, ieq_f, if_tt, if_ff, Nat.add_sub_cancel]
    rw [gr_cg (by omega) hW]
  | succ r ih =>
    intro t m c1 hr hm hF hM hW
    obtain ⟨m, rfl⟩ : ∃ q, m = q + 1 := ⟨m - 1, by omega⟩
    have hC1 := hC.fr hF pwa
    have h5 := x_thC hC1
    have hP1 := hP.fr hF pwa
    have hS1 := hS.fr hF hks
    have hL1 := hL.fr hF (fun t k ht z1 z => by unfold PT at z1; unfold PWA PW at z; omega) h8
    have s3 := (hS1 t (by omega)).2.2.1
    obtain ⟨c2, e2, f2, m2⟩ := x_worthK (nx := nx) hC1 hP1 hL1 hN hM hA hS1 (t := t) (by omega)
    obtain ⟨c', r1, r2⟩ := ih (t + 1) m (xsa c2 88 (upK (xa c2 88) t (woF (msa S 1 s) p t))) (by omega) (by omega) ((hF.trans f2 (fun _ z => z) (fun k z => by rcases z with z | z; exact Or.inl z; exact Or.inr (by omega))).trans (FrX.sa (P := PWA) (Or.inr (by omega))) (fun _ z => z) (fun _ z => z)) (m2.fr (FrX.sa (P := fun k => k = 88) rfl) (fun k h1 h2 z => by omega)) (fun i hi => by
      rw [xa_xsa_s]
      by_cases e : i = t
      · subst e; exact upK_s
      · rw [upK_n e, f2.a 88 (by unfold PV PW; omega)]
        exact hW i (by omega))
    refine ⟨c', ?_, r2⟩
    have hq := hP1.2.1 c1
    rw [F_X6_chosen_3_s]
    rcases hk with rfl | rfl | rfl | rfl
    · have e2 : F_X6_worthOf G (encX G X c1 h0) nx q0 (X + 51) (nI t) (nI (11 * (Q t).1 + (Q t).2)) = _ := e2
      have hck : ∀ {β : Type} {f : Nat → Option β}, ck (encX G X c1 h0) q0 [1, 2, 3, 4, 6, 8, 10] f = f 6 := ck_at hq (by decide)
      simp (maxSteps := 3000000) (disch := omega) only [h5, hsp, s3, hck, e2, xi_xsi_s, xi_xsi_n, xl_xsi, xa_xsi, xj_xsi, xr_xsi, xsi_xsi, xi_xsl, xl_xsl_s, xl_xsl_n, xa_xsl, xj_xsl, xr_xsl, xsl_xsl, xi_xsa, xl_xsa, xa_xsa_s, xa_xsa_n, xj_xsa, xr_xsa, xsa_xsa, xi_xsj, xl_xsj, xa_xsj, xj_xsj_s, xj_xsj_n, xr_xsj, xsj_xsj, xi_xsr, xl_xsr, xa_xsr, xj_xsr, xr_xsr_s, xr_xsr_n, xsr_xsr, xk_0, xg_0_0, xg_0_1, xg_0_2, xp_0_2, xg_0_3, xg_0_4, xg_0_5, xg_0_6, xk_1, xg_1_0, xg_1_1, xp_1_1, xg_1_2, xg_1_3, xp_1_3, xg_1_4, xg_1_5, xg_1_6, xg_1_7, xg_1_8, xg_1_9, xg_1_10, xg_1_11, xp_1_11, xg_1_12, xg_1_13, xg_1_14, xg_1_15, xp_1_15, xg_1_16, xp_1_16, xg_1_17, xp_1_17, xk_26, xg_26_0, xg_26_1, xp_26_1, xg_26_2, xg_26_3, xp_26_3, xg_26_4, xg_26_5, xg_26_6, xg_26_7, xg_26_8, xg_26_9, xg_26_10, xg_26_11, xp_26_11, xg_26_12, xg_26_13, xg_26_14, xg_26_15, xp_26_15, xg_26_16, xp_26_16, xg_26_17, xp_26_17, xk_51, xg_51_0, xg_51_1, xg_51_2, xg_51_3, xg_51_4, xg_51_5, xg_51_6, xg_51_7, xp_51_7, xg_51_8, xp_51_8, xk_90, xg_90_0, xg_90_1, xg_90_2, xg_90_3, xp_90_3, xg_90_4, xg_90_5, xp_90_5, xg_90_6, xg_90_7, xp_90_7, xg_90_8, xp_90_8, xg_90_9, xp_90_9, xg_90_10, xas_2, xal_2, xal_3, xas_4, xal_4, xln_4, xas_5, xal_5, xln_5, xas_6, xal_6, xln_6, xas_7, xal_7, xln_7, xas_8, xal_8, xln_8, xas_9, xal_9, xln_9, xas0_10, xas1_10, xasb_10, xal_10, xal_11, xas_12, xal_12, xln_12, xas_27, xal_27, xal_28, xas_29, xal_29, xln_29, xas_30, xal_30, xln_30, xas_31, xal_31, xln_31, xas_32, xal_32, xln_32, xas_33, xal_33, xln_33, xas_34, xal_34, xln_34, xas0_35, xas1_35, xasb_35, xal_35, xal_36, xas_37, xal_37, xln_37, xas_88, xal_88, xln_88, xal_89, xas_89, xln_89, xas_103, xal_103, xln_103, xas_104, xal_104, xln_104, xas_105, xal_105, xln_105, xas_106, xal_106, xln_106, xas_107, xal_107, xln_107, xal_13, xal_in14, xas_in14, xln_in14, xal_38, xal_in39, xas_in39, xln_in39, xal_52, xal_in53, xas_in53, xln_in53, xal_61, xal_in62, xas_in62, xln_in62, xal_70, xal_in71, xas_in71, xln_in71, xal_79, xal_in80, xas_in80, xln_in80, xal_91, xal_in92, xas_in92, xln_in92, cl_some, nm_b, nn_some, qn_some, qn_none, zk_0, zk_1, zk_n0, zk_n1, nI_add, pk_mul, pk_sub, nI_leE, nI_ltE, nI_eqE, nI_lt0, nI_ge0, nI_eq0, nI_gt0, nI_le0, ilt_t, ilt_f, ile_t, ile_f, ieq_t, ieq_f, if_tt, if_ff, Nat.add_sub_cancel]
      exact r1
    · have e2 : F_X4_worthOf G (encX G X c1 h0) nx q0 (X + 51) (nI t) (nI (11 * (Q t).1 + (Q t).2)) = _ := e2
      have hck : ∀ {β : Type} {f : Nat → Option β}, ck (encX G X c1 h0) q0 [1, 2, 3, 4, 6, 8, 10] f = f 4 := ck_at hq (by decide)
      simp (maxSteps := 3000000) (disch := omega) only [h5, hsp, s3, hck, e2, xi_xsi_s, xi_xsi_n, xl_xsi, xa_xsi, xj_xsi, xr_xsi, xsi_xsi, xi_xsl, xl_xsl_s, xl_xsl_n, xa_xsl, xj_xsl, xr_xsl, xsl_xsl, xi_xsa, xl_xsa, xa_xsa_s, xa_xsa_n, xj_xsa, xr_xsa, xsa_xsa, xi_xsj, xl_xsj, xa_xsj, xj_xsj_s, xj_xsj_n, xr_xsj, xsj_xsj, xi_xsr, xl_xsr, xa_xsr, xj_xsr, xr_xsr_s, xr_xsr_n, xsr_xsr, xk_0, xg_0_0, xg_0_1, xg_0_2, xp_0_2, xg_0_3, xg_0_4, xg_0_5, xg_0_6, xk_1, xg_1_0, xg_1_1, xp_1_1, xg_1_2, xg_1_3, xp_1_3, xg_1_4, xg_1_5, xg_1_6, xg_1_7, xg_1_8, xg_1_9, xg_1_10, xg_1_11, xp_1_11, xg_1_12, xg_1_13, xg_1_14, xg_1_15, xp_1_15, xg_1_16, xp_1_16, xg_1_17, xp_1_17, xk_26, xg_26_0, xg_26_1, xp_26_1, xg_26_2, xg_26_3, xp_26_3, xg_26_4, xg_26_5, xg_26_6, xg_26_7, xg_26_8, xg_26_9, xg_26_10, xg_26_11, xp_26_11, xg_26_12, xg_26_13, xg_26_14, xg_26_15, xp_26_15, xg_26_16, xp_26_16, xg_26_17, xp_26_17, xk_51, xg_51_0, xg_51_1, xg_51_2, xg_51_3, xg_51_4, xg_51_5, xg_51_6, xg_51_7, xp_51_7, xg_51_8, xp_51_8, xk_90, xg_90_0, xg_90_1, xg_90_2, xg_90_3, xp_90_3, xg_90_4, xg_90_5, xp_90_5, xg_90_6, xg_90_7, xp_90_7, xg_90_8, xp_90_8, xg_90_9, xp_90_9, xg_90_10, xas_2, xal_2, xal_3, xas_4, xal_4, xln_4, xas_5, xal_5, xln_5, xas_6, xal_6, xln_6, xas_7, xal_7, xln_7, xas_8, xal_8, xln_8, xas_9, xal_9, xln_9, xas0_10, xas1_10, xasb_10, xal_10, xal_11, xas_12, xal_12, xln_12, xas_27, xal_27, xal_28, xas_29, xal_29, xln_29, xas_30, xal_30, xln_30, xas_31, xal_31, xln_31, xas_32, xal_32, xln_32, xas_33, xal_33, xln_33, xas_34, xal_34, xln_34, xas0_35, xas1_35, xasb_35, xal_35, xal_36, xas_37, xal_37, xln_37, xas_88, xal_88, xln_88, xal_89, xas_89, xln_89, xas_103, xal_103, xln_103, xas_104, xal_104, xln_104, xas_105, xal_105, xln_105, xas_106, xal_106, xln_106, xas_107, xal_107, xln_107, xal_13, xal_in14, xas_in14, xln_in14, xal_38, xal_in39, xas_in39, xln_in39, xal_52, xal_in53, xas_in53, xln_in53, xal_61, xal_in62, xas_in62, xln_in62, xal_70, xal_in71, xas_in71, xln_in71, xal_79, xal_in80, xas_in80, xln_in80, xal_91, xal_in92, xas_in92, xln_in92, cl_some, nm_b, nn_some, qn_some, qn_none, zk_0, zk_1, zk_n0, zk_n1, nI_add, pk_mul, pk_sub, nI_leE, nI_ltE, nI_eqE, nI_lt0, nI_ge0, nI_eq0, nI_gt0, nI_le0, ilt_t, ilt_f, ile_t, ile_f, ieq_t, ieq_f, if_tt, if_ff, Nat.add_sub_cancel]
      exact r1
    · have e2 : F_X3_worthOf G (encX G X c1 h0) nx q0 (X + 51) (nI t) (nI (11 * (Q t).1 + (Q t).2)) = _ := e2
      have hck : ∀ {β : Type} {f : Nat → Option β}, ck (encX G X c1 h0) q0 [1, 2, 3, 4, 6, 8, 10] f = f 3 := ck_at hq (by decide)
      simp (maxSteps := 3000000) (disch := omega) only [h5, hsp, s3, hck, e2, xi_xsi_s, xi_xsi_n, xl_xsi, xa_xsi, xj_xsi, xr_xsi, xsi_xsi, xi_xsl, xl_xsl_s, xl_xsl_n, xa_xsl, xj_xsl, xr_xsl, xsl_xsl, xi_xsa, xl_xsa, xa_xsa_s, xa_xsa_n, xj_xsa, xr_xsa, xsa_xsa, xi_xsj, xl_xsj, xa_xsj, xj_xsj_s, xj_xsj_n, xr_xsj, xsj_xsj, xi_xsr, xl_xsr, xa_xsr, xj_xsr, xr_xsr_s, xr_xsr_n, xsr_xsr, xk_0, xg_0_0, xg_0_1, xg_0_2, xp_0_2, xg_0_3, xg_0_4, xg_0_5, xg_0_6, xk_1, xg_1_0, xg_1_1, xp_1_1, xg_1_2, xg_1_3, xp_1_3, xg_1_4, xg_1_5, xg_1_6, xg_1_7, xg_1_8, xg_1_9, xg_1_10, xg_1_11, xp_1_11, xg_1_12, xg_1_13, xg_1_14, xg_1_15, xp_1_15, xg_1_16, xp_1_16, xg_1_17, xp_1_17, xk_26, xg_26_0, xg_26_1, xp_26_1, xg_26_2, xg_26_3, xp_26_3, xg_26_4, xg_26_5, xg_26_6, xg_26_7, xg_26_8, xg_26_9, xg_26_10, xg_26_11, xp_26_11, xg_26_12, xg_26_13, xg_26_14, xg_26_15, xp_26_15, xg_26_16, xp_26_16, xg_26_17, xp_26_17, xk_51, xg_51_0, xg_51_1, xg_51_2, xg_51_3, xg_51_4, xg_51_5, xg_51_6, xg_51_7, xp_51_7, xg_51_8, xp_51_8, xk_90, xg_90_0, xg_90_1, xg_90_2, xg_90_3, xp_90_3, xg_90_4, xg_90_5, xp_90_5, xg_90_6, xg_90_7, xp_90_7, xg_90_8, xp_90_8, xg_90_9, xp_90_9, xg_90_10, xas_2, xal_2, xal_3, xas_4, xal_4, xln_4, xas_5, xal_5, xln_5, xas_6, xal_6, xln_6, xas_7, xal_7, xln_7, xas_8, xal_8, xln_8, xas_9, xal_9, xln_9, xas0_10, xas1_10, xasb_10, xal_10, xal_11, xas_12, xal_12, xln_12, xas_27, xal_27, xal_28, xas_29, xal_29, xln_29, xas_30, xal_30, xln_30, xas_31, xal_31, xln_31, xas_32, xal_32, xln_32, xas_33, xal_33, xln_33, xas_34, xal_34, xln_34, xas0_35, xas1_35, xasb_35, xal_35, xal_36, xas_37, xal_37, xln_37, xas_88, xal_88, xln_88, xal_89, xas_89, xln_89, xas_103, xal_103, xln_103, xas_104, xal_104, xln_104, xas_105, xal_105, xln_105, xas_106, xal_106, xln_106, xas_107, xal_107, xln_107, xal_13, xal_in14, xas_in14, xln_in14, xal_38, xal_in39, xas_in39, xln_in39, xal_52, xal_in53, xas_in53, xln_in53, xal_61, xal_in62, xas_in62, xln_in62, xal_70, xal_in71, xas_in71, xln_in71, xal_79, xal_in80, xas_in80, xln_in80, xal_91, xal_in92, xas_in92, xln_in92, cl_some, nm_b, nn_some, qn_some, qn_none, zk_0, zk_1, zk_n0, zk_n1, nI_add, pk_mul, pk_sub, nI_leE, nI_ltE, nI_eqE, nI_lt0, nI_ge0, nI_eq0, nI_gt0, nI_le0, ilt_t, ilt_f, ile_t, ile_f, ieq_t, ieq_f, if_tt, if_ff, Nat.add_sub_cancel]
      exact r1
    · have e2 : F_X2_worthOf G (encX G X c1 h0) nx q0 (X + 51) (nI t) (nI (11 * (Q t).1 + (Q t).2)) = _ := e2
      have hck : ∀ {β : Type} {f : Nat → Option β}, ck (encX G X c1 h0) q0 [1, 2, 3, 4, 6, 8, 10] f = f 2 := ck_at hq (by decide)
      simp (maxSteps := 3000000) (disch := omega) only [h5, hsp, s3, hck, e2, xi_xsi_s, xi_xsi_n, xl_xsi, xa_xsi, xj_xsi, xr_xsi, xsi_xsi, xi_xsl, xl_xsl_s, xl_xsl_n, xa_xsl, xj_xsl, xr_xsl, xsl_xsl, xi_xsa, xl_xsa, xa_xsa_s, xa_xsa_n, xj_xsa, xr_xsa, xsa_xsa, xi_xsj, xl_xsj, xa_xsj, xj_xsj_s, xj_xsj_n, xr_xsj, xsj_xsj, xi_xsr, xl_xsr, xa_xsr, xj_xsr, xr_xsr_s, xr_xsr_n, xsr_xsr, xk_0, xg_0_0, xg_0_1, xg_0_2, xp_0_2, xg_0_3, xg_0_4, xg_0_5, xg_0_6, xk_1, xg_1_0, xg_1_1, xp_1_1, xg_1_2, xg_1_3, xp_1_3, xg_1_4, xg_1_5, xg_1_6, xg_1_7, xg_1_8, xg_1_9, xg_1_10, xg_1_11, xp_1_11, xg_1_12, xg_1_13, xg_1_14, xg_1_15, xp_1_15, xg_1_16, xp_1_16, xg_1_17, xp_1_17, xk_26, xg_26_0, xg_26_1, xp_26_1, xg_26_2, xg_26_3, xp_26_3, xg_26_4, xg_26_5, xg_26_6, xg_26_7, xg_26_8, xg_26_9, xg_26_10, xg_26_11, xp_26_11, xg_26_12, xg_26_13, xg_26_14, xg_26_15, xp_26_15, xg_26_16, xp_26_16, xg_26_17, xp_26_17, xk_51, xg_51_0, xg_51_1, xg_51_2, xg_51_3, xg_51_4, xg_51_5, xg_51_6, xg_51_7, xp_51_7, xg_51_8, xp_51_8, xk_90, xg_90_0, xg_90_1, xg_90_2, xg_90_3, xp_90_3, xg_90_4, xg_90_5, xp_90_5, xg_90_6, xg_90_7, xp_90_7, xg_90_8, xp_90_8, xg_90_9, xp_90_9, xg_90_10, xas_2, xal_2, xal_3, xas_4, xal_4, xln_4, xas_5, xal_5, xln_5, xas_6, xal_6, xln_6, xas_7, xal_7, xln_7, xas_8, xal_8, xln_8, xas_9, xal_9, xln_9, xas0_10, xas1_10, xasb_10, xal_10, xal_11, xas_12, xal_12, xln_12, xas_27, xal_27, xal_28, xas_29, xal_29, xln_29, xas_30, xal_30, xln_30, xas_31, xal_31, xln_31, xas_32, xal_32, xln_32, xas_33, xal_33, xln_33, xas_34, xal_34, xln_34, xas0_35, xas1_35, xasb_35, xal_35, xal_36, xas_37, xal_37, xln_37, xas_88, xal_88, xln_88, xal_89, xas_89, xln_89, xas_103, xal_103, xln_103, xas_104, xal_104, xln_104, xas_105, xal_105, xln_105, xas_106, xal_106, xln_106, xas_107, xal_107, xln_107, xal_13, xal_in14, xas_in14, xln_in14, xal_38, xal_in39, xas_in39, xln_in39, xal_52, xal_in53, xas_in53, xln_in53, xal_61, xal_in62, xas_in62, xln_in62, xal_70, xal_in71, xas_in71, xln_in71, xal_79, xal_in80, xas_in80, xln_in80, xal_91, xal_in92, xas_in92, xln_in92, cl_some, nm_b, nn_some, qn_some, qn_none, zk_0, zk_1, zk_n0, zk_n1, nI_add, pk_mul, pk_sub, nI_leE, nI_ltE, nI_eqE, nI_lt0, nI_ge0, nI_eq0, nI_gt0, nI_le0, ilt_t, ilt_f, ile_t, ile_f, ieq_t, ieq_f, if_tt, if_ff, Nat.add_sub_cancel]
      exact r1
/-! one after the other -/
def tuN (nt b : Nat) : Nat → Int32
  | 0 => nI 0
  | n + 1 => tuN nt b n ||| (nI 1 <<< (nI ((b + n) % nt) &&& 31))
theorem tu_tuN {nt b : Nat} (h0 : 0 < nt) (h8 : nt ≤ 8) : ∀ (n : Nat), n ≤ 8 → tuF (nI nt) (nI (b % nt)) n = tuN nt b n
  | 0, _ => rfl
  | n + 1, hn => by
    have hb : b % nt < nt := Nat.mod_lt _ h0
    unfold tuF tuN
    rw [tu_tuN h0 h8 n (by omega), nI_add, pk_rem (by omega) h0 (by omega), Nat.mod_add_mod]
theorem tuN_full {nt b b' : Nat} (h : nt = 1 ∨ nt = 2) : tuN nt b nt = tuN nt b' nt := by
  rcases h with rfl | rfl
  · unfold tuN
    rw [Nat.mod_one, Nat.mod_one]
    rfl
  · have e : ∀ b, tuN 2 b 2 = nI 3 := by
      intro b
      unfold tuN
      unfold tuN
      unfold tuN
      rcases (show b % 2 = 0 ∨ b % 2 = 1 by omega) with q | q
      · rw [show (b + 1) % 2 = 1 by omega, show (b + 0) % 2 = 0 by omega]; decide
      · rw [show (b + 1) % 2 = 0 by omega, show (b + 0) % 2 = 1 by omega]; decide
    rw [e, e]
/-- where one after the other begins -/
def tuB (k v l dd : Nat) : Nat := if k = 2 then dd * l + v else (dd * 31 + v * 17) % 97
theorem tuB_lt {k v l dd : Nat} (hl : l ≤ 3) (hv : v ≤ 99) (hd : dd < 2 ^ 16) : tuB k v l dd < 2 ^ 20 := by
  unfold tuB
  split
  · have : dd * l ≤ dd * 3 := Nat.mul_le_mul_left _ hl
    omega
  · omega
set_option maxRecDepth 100000 in
set_option maxHeartbeats 1000000 in
theorem x_ch15 {S : MS} {p q0 k v l dd : Nat} (hC : XC G X lo h0 c (ma S 1) ns nt np lk td q) (hP : XP G X h0 c (ma S 1) nt p q0 k v) (hk : k = 2 ∨ k = 4) (hl : xi c 116 = nI l) (hl3 : l ≤ 3) (hd : dd < 2 ^ 16) (h0t : lk = 0 ∨ 0 < nt) : ∀ (r n m : Nat), n + r = lk → r < m → F_X10_chosen_15 G m (encX G X c h0) nx q0 (X + 51) (nI dd) (nI nt) (tuN nt (tuB k v l dd) n) (nI n) = some (tuN nt (tuB k v l dd) lk, encX G X c h0, nx) := by
  have h5 := x_thC hC
  have h8 := x_nt8 hC
  have el := x_looksOrAll (nx := nx) hC
  have hlk : lk ≤ nt := by obtain ⟨l, _, _, _, h4⟩ := x_lkC hC; rw [h4]; exact Nat.min_le_right _ _
  obtain ⟨p1, p2, p3, p4, p5, p6, p7, p8, p9, p12, _⟩ := hP
  have hq := p2 c
  have hb := tuB_lt (k := k) (v := v) (l := l) (dd := dd) hl3 p4 hd
  intro r
  induction r with
  | zero =>
    intro n m hn hm
    obtain ⟨m, rfl⟩ : ∃ q, m = q + 1 := ⟨m - 1, by omega⟩
    obtain rfl : n = lk := by omega
    rw [F_X10_chosen_15_s]
    unfold F_X10_chosen_63
    simp (maxSteps := 3000000) (disch := omega) only [el, xi_xsi_s, xi_xsi_n, xl_xsi, xa_xsi, xj_xsi, xr_xsi, xsi_xsi, xi_xsl, xl_xsl_s, xl_xsl_n, xa_xsl, xj_xsl, xr_xsl, xsl_xsl, xi_xsa, xl_xsa, xa_xsa_s, xa_xsa_n, xj_xsa, xr_xsa, xsa_xsa, xi_xsj, xl_xsj, xa_xsj, xj_xsj_s, xj_xsj_n, xr_xsj, xsj_xsj, xi_xsr, xl_xsr, xa_xsr, xj_xsr, xr_xsr_s, xr_xsr_n, xsr_xsr, xk_0, xg_0_0, xg_0_1, xg_0_2, xp_0_2, xg_0_3, xg_0_4, xg_0_5, xg_0_6, xk_1, xg_1_0, xg_1_1, xp_1_1, xg_1_2, xg_1_3, xp_1_3, xg_1_4, xg_1_5, xg_1_6, xg_1_7, xg_1_8, xg_1_9, xg_1_10, xg_1_11, xp_1_11, xg_1_12, xg_1_13, xg_1_14, xg_1_15, xp_1_15, xg_1_16, xp_1_16, xg_1_17, xp_1_17, xk_26, xg_26_0, xg_26_1, xp_26_1, xg_26_2, xg_26_3, xp_26_3, xg_26_4, xg_26_5, xg_26_6, xg_26_7, xg_26_8, xg_26_9, xg_26_10, xg_26_11, xp_26_11, xg_26_12, xg_26_13, xg_26_14, xg_26_15, xp_26_15, xg_26_16, xp_26_16, xg_26_17, xp_26_17, xk_51, xg_51_0, xg_51_1, xg_51_2, xg_51_3, xg_51_4, xg_51_5, xg_51_6, xg_51_7, xp_51_7, xg_51_8, xp_51_8, xk_90, xg_90_0, xg_90_1, xg_90_2, xg_90_3, xp_90_3, xg_90_4, xg_90_5, xp_90_5, xg_90_6, xg_90_7, xp_90_7, xg_90_8, xp_90_8, xg_90_9, xp_90_9, xg_90_10, xas_2, xal_2, xal_3, xas_4, xal_4, xln_4, xas_5, xal_5, xln_5, xas_6, xal_6, xln_6, xas_7, xal_7, xln_7, xas_8, xal_8, xln_8, xas_9, xal_9, xln_9, xas0_10, xas1_10, xasb_10, xal_10, xal_11, xas_12, xal_12, xln_12, xas_27, xal_27, xal_28, xas_29, xal_29, xln_29, xas_30, xal_30, xln_30, xas_31, xal_31, xln_31, xas_32, xal_32, xln_32, xas_33, xal_33, xln_33, xas_34, xal_34, xln_34, xas0_35, xas1_35, xasb_35, xal_35, xal_36, xas_37, xal_37, xln_37, xas_88, xal_88, xln_88, xal_89, xas_89, xln_89, xas_103, xal_103, xln_103, xas_104, xal_104, xln_104, xas_105, xal_105, xln_105, xas_106, xal_106, xln_106, xas_107, xal_107, xln_107, xal_13, xal_in14, xas_in14, xln_in14, xal_38, xal_in39, xas_in39, xln_in39, xal_52, xal_in53, xas_in53, xln_in53, xal_61, xal_in62, xas_in62, xln_in62, xal_70, xal_in71, xas_in71, xln_in71, xal_79, xal_in80, xas_in80, xln_in80, xal_91, xal_in92, xas_in92, xln_in92, cl_some, nm_b, nn_some, qn_some, qn_none, zk_0, zk_1, zk_n0, zk_n1, nI_add, pk_mul, pk_sub, nI_leE, nI_ltE, nI_eqE, nI_lt0, nI_ge0, nI_eq0, nI_gt0, nI_le0, ilt_t, ilt_f, ile_t, ile_f, ieq_t, ieq_f, if_tt, if_ff, Nat.add_sub_cancel]
  | succ r ih =>
    intro n m hn hm
    obtain ⟨m, rfl⟩ : ∃ q, m = q + 1 := ⟨m - 1, by omega⟩
    have fin := ih (n + 1) m (by omega) (by omega)
    have es : tuN nt (tuB k v l dd) (n + 1) = tuN nt (tuB k v l dd) n ||| (nI 1 <<< (nI ((tuB k v l dd + n) % nt) &&& 31)) := rfl
    rw [es] at fin
    have hnt : 0 < nt := by omega
    have erem : nI (tuB k v l dd + n) - nI (tuB k v l dd + n) / nI nt * nI nt = nI ((tuB k v l dd + n) % nt) := pk_rem (by omega) hnt (by omega)
    rw [F_X10_chosen_15_s]
    unfold F_X10_chosen_63
    rcases hk with rfl | rfl
    · have hck : ∀ {β : Type} {f : Nat → Option β}, ck (encX G X c h0) q0 [1, 10] f = f 10 := ck_at hq (by decide)
      have g1 : ∀ {β : Type} {f : Int32 → Option β}, gfI (encX G X c h0) q0 [1, 10] 1 f = f (nI v) := gfI_at hq (by decide) rfl
      have eb : ∀ h, h = encX G X c h0 → F_X10_beginning G h nx q0 (nI l) (nI dd) = some (nI (tuB 2 v l dd), encX G X c h0, nx) := by
        intro h hh
        subst hh
        unfold F_X10_beginning
        rw [g1, pk_mul, nI_add]
        rfl
      have eb := eb _ rfl
      simp (maxSteps := 3000000) (disch := omega) only [el, hl, hck, eb, dzI_n, erem, xi_xsi_s, xi_xsi_n, xl_xsi, xa_xsi, xj_xsi, xr_xsi, xsi_xsi, xi_xsl, xl_xsl_s, xl_xsl_n, xa_xsl, xj_xsl, xr_xsl, xsl_xsl, xi_xsa, xl_xsa, xa_xsa_s, xa_xsa_n, xj_xsa, xr_xsa, xsa_xsa, xi_xsj, xl_xsj, xa_xsj, xj_xsj_s, xj_xsj_n, xr_xsj, xsj_xsj, xi_xsr, xl_xsr, xa_xsr, xj_xsr, xr_xsr_s, xr_xsr_n, xsr_xsr, xk_0, xg_0_0, xg_0_1, xg_0_2, xp_0_2, xg_0_3, xg_0_4, xg_0_5, xg_0_6, xk_1, xg_1_0, xg_1_1, xp_1_1, xg_1_2, xg_1_3, xp_1_3, xg_1_4, xg_1_5, xg_1_6, xg_1_7, xg_1_8, xg_1_9, xg_1_10, xg_1_11, xp_1_11, xg_1_12, xg_1_13, xg_1_14, xg_1_15, xp_1_15, xg_1_16, xp_1_16, xg_1_17, xp_1_17, xk_26, xg_26_0, xg_26_1, xp_26_1, xg_26_2, xg_26_3, xp_26_3, xg_26_4, xg_26_5, xg_26_6, xg_26_7, xg_26_8, xg_26_9, xg_26_10, xg_26_11, xp_26_11, xg_26_12, xg_26_13, xg_26_14, xg_26_15, xp_26_15, xg_26_16, xp_26_16, xg_26_17, xp_26_17, xk_51, xg_51_0, xg_51_1, xg_51_2, xg_51_3, xg_51_4, xg_51_5, xg_51_6, xg_51_7, xp_51_7, xg_51_8, xp_51_8, xk_90, xg_90_0, xg_90_1, xg_90_2, xg_90_3, xp_90_3, xg_90_4, xg_90_5, xp_90_5, xg_90_6, xg_90_7, xp_90_7, xg_90_8, xp_90_8, xg_90_9, xp_90_9, xg_90_10, xas_2, xal_2, xal_3, xas_4, xal_4, xln_4, xas_5, xal_5, xln_5, xas_6, xal_6, xln_6, xas_7, xal_7, xln_7, xas_8, xal_8, xln_8, xas_9, xal_9, xln_9, xas0_10, xas1_10, xasb_10, xal_10, xal_11, xas_12, xal_12, xln_12, xas_27, xal_27, xal_28, xas_29, xal_29, xln_29, xas_30, xal_30, xln_30, xas_31, xal_31, xln_31, xas_32, xal_32, xln_32, xas_33, xal_33, xln_33, xas_34, xal_34, xln_34, xas0_35, xas1_35, xasb_35, xal_35, xal_36, xas_37, xal_37, xln_37, xas_88, xal_88, xln_88, xal_89, xas_89, xln_89, xas_103, xal_103, xln_103, xas_104, xal_104, xln_104, xas_105, xal_105, xln_105, xas_106, xal_106, xln_106, xas_107, xal_107, xln_107, xal_13, xal_in14, xas_in14, xln_in14, xal_38, xal_in39, xas_in39, xln_in39, xal_52, xal_in53, xas_in53, xln_in53, xal_61, xal_in62, xas_in62, xln_in62, xal_70, xal_in71, xas_in71, xln_in71, xal_79, xal_in80, xas_in80, xln_in80, xal_91, xal_in92, xas_in92, xln_in92, cl_some, nm_b, nn_some, qn_some, qn_none, zk_0, zk_1, zk_n0, zk_n1, nI_add, pk_mul, pk_sub, nI_leE, nI_ltE, nI_eqE, nI_lt0, nI_ge0, nI_eq0, nI_gt0, nI_le0, ilt_t, ilt_f, ile_t, ile_f, ieq_t, ieq_f, if_tt, if_ff, Nat.add_sub_cancel]
      exact fin
    · have hck : ∀ {β : Type} {f : Nat → Option β}, ck (encX G X c h0) q0 [1, 10] f = f 1 := ck_at hq (by decide)
      have g1 : ∀ {β : Type} {f : Int32 → Option β}, gfI (encX G X c h0) q0 [1] 1 f = f (nI v) := gfI_at hq (by decide) rfl
      have eb : F_X1_beginning G (encX G X c h0) nx q0 (nI l) (nI dd) = some (nI (tuB 4 v l dd), encX G X c h0, nx) := by
        unfold F_X1_beginning
        rw [g1, pk_mul, pk_mul, nI_add, pk_rem (by omega) (by decide) (by decide)]
        rfl
      simp (maxSteps := 3000000) (disch := omega) only [el, hl, hck, eb, dzI_n, erem, xi_xsi_s, xi_xsi_n, xl_xsi, xa_xsi, xj_xsi, xr_xsi, xsi_xsi, xi_xsl, xl_xsl_s, xl_xsl_n, xa_xsl, xj_xsl, xr_xsl, xsl_xsl, xi_xsa, xl_xsa, xa_xsa_s, xa_xsa_n, xj_xsa, xr_xsa, xsa_xsa, xi_xsj, xl_xsj, xa_xsj, xj_xsj_s, xj_xsj_n, xr_xsj, xsj_xsj, xi_xsr, xl_xsr, xa_xsr, xj_xsr, xr_xsr_s, xr_xsr_n, xsr_xsr, xk_0, xg_0_0, xg_0_1, xg_0_2, xp_0_2, xg_0_3, xg_0_4, xg_0_5, xg_0_6, xk_1, xg_1_0, xg_1_1, xp_1_1, xg_1_2, xg_1_3, xp_1_3, xg_1_4, xg_1_5, xg_1_6, xg_1_7, xg_1_8, xg_1_9, xg_1_10, xg_1_11, xp_1_11, xg_1_12, xg_1_13, xg_1_14, xg_1_15, xp_1_15, xg_1_16, xp_1_16, xg_1_17, xp_1_17, xk_26, xg_26_0, xg_26_1, xp_26_1, xg_26_2, xg_26_3, xp_26_3, xg_26_4, xg_26_5, xg_26_6, xg_26_7, xg_26_8, xg_26_9, xg_26_10, xg_26_11, xp_26_11, xg_26_12, xg_26_13, xg_26_14, xg_26_15, xp_26_15, xg_26_16, xp_26_16, xg_26_17, xp_26_17, xk_51, xg_51_0, xg_51_1, xg_51_2, xg_51_3, xg_51_4, xg_51_5, xg_51_6, xg_51_7, xp_51_7, xg_51_8, xp_51_8, xk_90, xg_90_0, xg_90_1, xg_90_2, xg_90_3, xp_90_3, xg_90_4, xg_90_5, xp_90_5, xg_90_6, xg_90_7, xp_90_7, xg_90_8, xp_90_8, xg_90_9, xp_90_9, xg_90_10, xas_2, xal_2, xal_3, xas_4, xal_4, xln_4, xas_5, xal_5, xln_5, xas_6, xal_6, xln_6, xas_7, xal_7, xln_7, xas_8, xal_8, xln_8, xas_9, xal_9, xln_9, xas0_10, xas1_10, xasb_10, xal_10, xal_11, xas_12, xal_12, xln_12, xas_27, xal_27, xal_28, xas_29, xal_29, xln_29, xas_30, xal_30, xln_30, xas_31, xal_31, xln_31, xas_32, xal_32, xln_32, xas_33, xal_33, xln_33, xas_34, xal_34, xln_34, xas0_35, xas1_35, xasb_35, xal_35, xal_36, xas_37, xal_37, xln_37, xas_88, xal_88, xln_88, xal_89, xas_89, xln_89, xas_103, xal_103, xln_103, xas_104, xal_104, xln_104, xas_105, xal_105, xln_105, xas_106, xal_106, xln_106, xas_107, xal_107, xln_107, xal_13, xal_in14, xas_in14, xln_in14, xal_38, xal_in39, xas_in39, xln_in39, xal_52, xal_in53, xas_in53, xln_in53, xal_61, xal_in62, xas_in62, xln_in62, xal_70, xal_in71, xas_in71, xln_in71, xal_79, xal_in80, xas_in80, xln_in80, xal_91, xal_in92, xas_in92, xln_in92, cl_some, nm_b, nn_some, qn_some, qn_none, zk_0, zk_1, zk_n0, zk_n1, nI_add, pk_mul, pk_sub, nI_leE, nI_ltE, nI_eqE, nI_lt0, nI_ge0, nI_eq0, nI_gt0, nI_le0, ilt_t, ilt_f, ile_t, ile_f, ieq_t, ieq_f, if_tt, if_ff, Nat.add_sub_cancel]
      exact fin
theorem x_ch10 {S : MS} {s : Nat → Int32} {p q0 k v dd sp : Nat} (hC : XC G X lo h0 c (ma S 1) ns nt np lk td q) (hP : XP G X h0 c (ma S 1) nt p q0 k v) (hk : k = 2 ∨ k = 4) (hd : dd < 2 ^ 16) (hA : AgN nt (ma S 1) s) : F_X10_chosen G (encX G X c h0) nx q0 (X + 51) sp (nI dd) = some (whF (msa S 1 s) p dd nt lk, encX G X c h0, nx) := by
  have h5 := x_thC hC
  have h8 := x_nt8 hC
  obtain ⟨l, l1, l3, hl, elk⟩ := x_lkC hC
  have hlk : lk ≤ nt := by rw [elk]; exact Nat.min_le_right _ _
  have hll : lk ≤ l := by rw [elk]; exact Nat.min_le_left _ _
  have e := x_ch15 (nx := nx) hC hP hk hl l3 hd (by omega) lk 0 fuelL (by omega) (by unfold fuelL; omega)
  have ss : ma (msa S 1 s) 1 = s := ma_msa_s
  obtain ⟨p1, p2, p3, p4, p5, p6, p7, p8, p9, p12, _⟩ := hP
  have k70 : sN s (1070 + p) = k := by
    rw [← p5]; unfold sN; rw [hA _ (by omega)]
  have k82 : sN s (1082 + p) = v := by
    rw [← p6]; unfold sN; rw [hA _ (by omega)]
  have ew : whF (msa S 1 s) p dd nt lk = tuN nt (tuB k v l dd) lk := by
    unfold whF
    rw [ss, k70, k82]
    by_cases c0 : nt = 0
    · rw [if_pos c0, show lk = 0 by omega]
      rfl
    · rw [if_neg c0]
      rcases hk with rfl | rfl
      · rw [if_pos rfl, tu_tuN (by omega) h8 _ (by omega)]
        show _ = tuN nt (dd * l + v) lk
        by_cases c1 : l ≤ nt
        · rw [show lk = l by rw [elk]; exact Nat.min_eq_left c1]
        · have : lk = nt := by rw [elk]; exact Nat.min_eq_right (by omega)
          rw [this]
          exact tuN_full (by omega)
      · rw [if_neg (by decide), if_pos rfl, tu_tuN (by omega) h8 _ (by omega)]
        show _ = tuN nt ((dd * 31 + v * 17) % 97) lk
        rw [Nat.mul_comm dd 31, Nat.mul_comm v 17]
  unfold F_X10_chosen
  rw [ew]
  simp (maxSteps := 3000000) (disch := omega) only [h5, xi_xsi_s, xi_xsi_n, xl_xsi, xa_xsi, xj_xsi, xr_xsi, xsi_xsi, xi_xsl, xl_xsl_s, xl_xsl_n, xa_xsl, xj_xsl, xr_xsl, xsl_xsl, xi_xsa, xl_xsa, xa_xsa_s, xa_xsa_n, xj_xsa, xr_xsa, xsa_xsa, xi_xsj, xl_xsj, xa_xsj, xj_xsj_s, xj_xsj_n, xr_xsj, xsj_xsj, xi_xsr, xl_xsr, xa_xsr, xj_xsr, xr_xsr_s, xr_xsr_n, xsr_xsr, xk_0, xg_0_0, xg_0_1, xg_0_2, xp_0_2, xg_0_3, xg_0_4, xg_0_5, xg_0_6, xk_1, xg_1_0, xg_1_1, xp_1_1, xg_1_2, xg_1_3, xp_1_3, xg_1_4, xg_1_5, xg_1_6, xg_1_7, xg_1_8, xg_1_9, xg_1_10, xg_1_11, xp_1_11, xg_1_12, xg_1_13, xg_1_14, xg_1_15, xp_1_15, xg_1_16, xp_1_16, xg_1_17, xp_1_17, xk_26, xg_26_0, xg_26_1, xp_26_1, xg_26_2, xg_26_3, xp_26_3, xg_26_4, xg_26_5, xg_26_6, xg_26_7, xg_26_8, xg_26_9, xg_26_10, xg_26_11, xp_26_11, xg_26_12, xg_26_13, xg_26_14, xg_26_15, xp_26_15, xg_26_16, xp_26_16, xg_26_17, xp_26_17, xk_51, xg_51_0, xg_51_1, xg_51_2, xg_51_3, xg_51_4, xg_51_5, xg_51_6, xg_51_7, xp_51_7, xg_51_8, xp_51_8, xk_90, xg_90_0, xg_90_1, xg_90_2, xg_90_3, xp_90_3, xg_90_4, xg_90_5, xp_90_5, xg_90_6, xg_90_7, xp_90_7, xg_90_8, xp_90_8, xg_90_9, xp_90_9, xg_90_10, xas_2, xal_2, xal_3, xas_4, xal_4, xln_4, xas_5, xal_5, xln_5, xas_6, xal_6, xln_6, xas_7, xal_7, xln_7, xas_8, xal_8, xln_8, xas_9, xal_9, xln_9, xas0_10, xas1_10, xasb_10, xal_10, xal_11, xas_12, xal_12, xln_12, xas_27, xal_27, xal_28, xas_29, xal_29, xln_29, xas_30, xal_30, xln_30, xas_31, xal_31, xln_31, xas_32, xal_32, xln_32, xas_33, xal_33, xln_33, xas_34, xal_34, xln_34, xas0_35, xas1_35, xasb_35, xal_35, xal_36, xas_37, xal_37, xln_37, xas_88, xal_88, xln_88, xal_89, xas_89, xln_89, xas_103, xal_103, xln_103, xas_104, xal_104, xln_104, xas_105, xal_105, xln_105, xas_106, xal_106, xln_106, xas_107, xal_107, xln_107, xal_13, xal_in14, xas_in14, xln_in14, xal_38, xal_in39, xas_in39, xln_in39, xal_52, xal_in53, xas_in53, xln_in53, xal_61, xal_in62, xas_in62, xln_in62, xal_70, xal_in71, xas_in71, xln_in71, xal_79, xal_in80, xas_in80, xln_in80, xal_91, xal_in92, xas_in92, xln_in92, cl_some, nm_b, nn_some, qn_some, qn_none, zk_0, zk_1, zk_n0, zk_n1, nI_add, pk_mul, pk_sub, nI_leE, nI_ltE, nI_eqE, nI_lt0, nI_ge0, nI_eq0, nI_gt0, nI_le0, ilt_t, ilt_f, ile_t, ile_f, ieq_t, ieq_f, if_tt, if_ff, Nat.add_sub_cancel]
  exact e
/-! as told -/
theorem x_55 {h : Hp} : ∀ (e m : Nat) (x : Int32), e < m → e < 2 ^ 31 → F_X8_chosen_55 G m h nx x (nI e) = some (rmF e x, h, nx)
  | 0, m, x, hm, _ => by
    obtain ⟨m, rfl⟩ : ∃ q, m = q + 1 := ⟨m - 1, by omega⟩
    rw [F_X8_chosen_55_s, if_pos (by decide)]
    rfl
  | e + 1, m, x, hm, he => by
    obtain ⟨m, rfl⟩ : ∃ q, m = q + 1 := ⟨m - 1, by omega⟩
    rw [F_X8_chosen_55_s]
    simp (maxSteps := 3000000) (disch := omega) only [x_highest, pred_nI, cl_some, nm_b, nn_some, qn_some, qn_none, zk_0, zk_1, zk_n0, zk_n1, nI_add, pk_mul, pk_sub, nI_leE, nI_ltE, nI_eqE, nI_lt0, nI_ge0, nI_eq0, nI_gt0, nI_le0, ilt_t, ilt_f, ile_t, ile_f, ieq_t, ieq_f, if_tt, if_ff, Nat.add_sub_cancel]
    exact x_55 e m _ (by omega) (by omega)
set_option maxRecDepth 100000 in
set_option maxHeartbeats 1000000 in
theorem x_ch8 {S : MS} {s : Nat → Int32} {p q0 v dd sp : Nat} (hC : XC G X lo h0 c (ma S 1) ns nt np lk td q) (hP : XP G X h0 c (ma S 1) nt p q0 6 v) (hd : dd < 2 ^ 16) (hA : AgN nt (ma S 1) s) : F_X8_chosen G (encX G X c h0) nx q0 (X + 51) sp (nI dd) = some (whF (msa S 1 s) p dd nt lk, encX G X c h0, nx) := by
  have h8 := x_nt8 hC
  obtain ⟨l, l1, l3, hl, elk⟩ := x_lkC hC
  have ss : ma (msa S 1 s) 1 = s := ma_msa_s
  obtain ⟨p1, p2, p3, p4, p5, p6, p7, p8, p9, p12, r, hr, er, hrow⟩ := hP
  have hq := p2 c
  have k70 : sN s (1070 + p) = 6 := by
    rw [← p5]; unfold sN; rw [hA _ (by omega)]
  have k94 : sN s (1094 + p) = r := by
    unfold sN; rw [hA _ (by omega), er, nI_clamp (by omega)]
  have e12 : xa c 12 p = nI r := p9.trans er
  have g0 : ∀ {β : Type} {f : Int32 → Option β}, gfI (encX G X c h0) q0 [8] 0 f = f (nI p) := gfI_at hq (by decide) rfl
  unfold F_X8_chosen whF
  rw [ss, k70, if_neg (show ¬ (6 : Nat) = 2 by decide), if_neg (show ¬ (6 : Nat) = 4 by decide), if_pos (show (6 : Nat) = 6 from rfl)]
  unfold tdF
  rw [k94]
  by_cases c0 : r = 0
  · subst c0
    simp (maxSteps := 3000000) (disch := omega) only [g0, e12, xi_xsi_s, xi_xsi_n, xl_xsi, xa_xsi, xj_xsi, xr_xsi, xsi_xsi, xi_xsl, xl_xsl_s, xl_xsl_n, xa_xsl, xj_xsl, xr_xsl, xsl_xsl, xi_xsa, xl_xsa, xa_xsa_s, xa_xsa_n, xj_xsa, xr_xsa, xsa_xsa, xi_xsj, xl_xsj, xa_xsj, xj_xsj_s, xj_xsj_n, xr_xsj, xsj_xsj, xi_xsr, xl_xsr, xa_xsr, xj_xsr, xr_xsr_s, xr_xsr_n, xsr_xsr, xk_0, xg_0_0, xg_0_1, xg_0_2, xp_0_2, xg_0_3, xg_0_4, xg_0_5, xg_0_6, xk_1, xg_1_0, xg_1_1, xp_1_1, xg_1_2, xg_1_3, xp_1_3, xg_1_4, xg_1_5, xg_1_6, xg_1_7, xg_1_8, xg_1_9, xg_1_10, xg_1_11, xp_1_11, xg_1_12, xg_1_13, xg_1_14, xg_1_15, xp_1_15, xg_1_16, xp_1_16, xg_1_17, xp_1_17, xk_26, xg_26_0, xg_26_1, xp_26_1, xg_26_2, xg_26_3, xp_26_3, xg_26_4, xg_26_5, xg_26_6, xg_26_7, xg_26_8, xg_26_9, xg_26_10, xg_26_11, xp_26_11, xg_26_12, xg_26_13, xg_26_14, xg_26_15, xp_26_15, xg_26_16, xp_26_16, xg_26_17, xp_26_17, xk_51, xg_51_0, xg_51_1, xg_51_2, xg_51_3, xg_51_4, xg_51_5, xg_51_6, xg_51_7, xp_51_7, xg_51_8, xp_51_8, xk_90, xg_90_0, xg_90_1, xg_90_2, xg_90_3, xp_90_3, xg_90_4, xg_90_5, xp_90_5, xg_90_6, xg_90_7, xp_90_7, xg_90_8, xp_90_8, xg_90_9, xp_90_9, xg_90_10, xas_2, xal_2, xal_3, xas_4, xal_4, xln_4, xas_5, xal_5, xln_5, xas_6, xal_6, xln_6, xas_7, xal_7, xln_7, xas_8, xal_8, xln_8, xas_9, xal_9, xln_9, xas0_10, xas1_10, xasb_10, xal_10, xal_11, xas_12, xal_12, xln_12, xas_27, xal_27, xal_28, xas_29, xal_29, xln_29, xas_30, xal_30, xln_30, xas_31, xal_31, xln_31, xas_32, xal_32, xln_32, xas_33, xal_33, xln_33, xas_34, xal_34, xln_34, xas0_35, xas1_35, xasb_35, xal_35, xal_36, xas_37, xal_37, xln_37, xas_88, xal_88, xln_88, xal_89, xas_89, xln_89, xas_103, xal_103, xln_103, xas_104, xal_104, xln_104, xas_105, xal_105, xln_105, xas_106, xal_106, xln_106, xas_107, xal_107, xln_107, xal_13, xal_in14, xas_in14, xln_in14, xal_38, xal_in39, xas_in39, xln_in39, xal_52, xal_in53, xas_in53, xln_in53, xal_61, xal_in62, xas_in62, xln_in62, xal_70, xal_in71, xas_in71, xln_in71, xal_79, xal_in80, xas_in80, xln_in80, xal_91, xal_in92, xas_in92, xln_in92, cl_some, nm_b, nn_some, qn_some, qn_none, zk_0, zk_1, zk_n0, zk_n1, nI_add, pk_mul, pk_sub, nI_leE, nI_ltE, nI_eqE, nI_lt0, nI_ge0, nI_eq0, nI_gt0, nI_le0, ilt_t, ilt_f, ile_t, ile_f, ieq_t, ieq_f, if_tt, if_ff, Nat.add_sub_cancel]
    split <;> rfl
  · rw [if_neg c0]
    have hdr : dd % r < r := Nat.mod_lt _ (by omega)
    obtain ⟨m, hm, em, ec⟩ := hrow (dd % r) hdr
    have em : s (1110 + 10 * p + dd % r) = nI m := (hA _ (by omega)).trans em
    have erem : nI dd - nI dd / nI r * nI r = nI (dd % r) := pk_rem (by omega) (by omega) (by omega)
    have h2n : 2 ^ nt ≤ 256 := by
      have := Nat.pow_le_pow_right (n := 2) (by decide) h8
      exact this
    have m256 : m < 256 := by omega
    have ebc : F_J6_bitCount_0f7a4 G (encX G X c h0) nx (nI m) = some (nI (cnT m), encX G X c h0, nx) := by rw [x_bitCount, bc_nat ⟨m, m256⟩]
    have c8 : cnT m ≤ 8 := by unfold cnT; omega
    have fin : rmF (cnT m - l) (nI m) = toF (nI m) (nI lk) nt := by
      rcases (show l = 1 ∨ l = 2 ∨ l = 3 by omega) with rfl | rfl | rfl
      · rw [elk]; exact rm_to1 ⟨nt, by omega⟩ ⟨m, m256⟩ hm
      · rw [elk]; exact rm_to2 ⟨nt, by omega⟩ ⟨m, m256⟩ hm
      · rw [elk]; exact rm_to3 ⟨nt, by omega⟩ ⟨m, m256⟩ hm
    have e55 : F_X8_chosen_55 G fuelL (encX G X c h0) nx (nI m) (nI (cnT m) - nI l) = some (toF (nI m) (nI lk) nt, encX G X c h0, nx) := by
      rw [← fin]
      by_cases cl : l ≤ cnT m
      · rw [pk_sub cl]
        exact x_55 _ _ _ (by unfold fuelL; omega) (by omega)
      · rw [show cnT m - l = 0 by omega, show fuelL = 2047 + 1 from rfl, F_X8_chosen_55_s, if_pos (by
          rw [fa_le, pk_sub_toInt (by omega) (by omega), show ((0 : Int32)).toInt = 0 by decide]
          omega)]
        rfl
    have z0 : nt = 0 → toF (nI m) (nI lk) nt = nI 0 := fun q => by rw [q]; rfl
    simp (maxSteps := 3000000) (disch := omega) only [g0, e12, dzI_n, erem, ec, em, ebc, hl, xi_xsi_s, xi_xsi_n, xl_xsi, xa_xsi, xj_xsi, xr_xsi, xsi_xsi, xi_xsl, xl_xsl_s, xl_xsl_n, xa_xsl, xj_xsl, xr_xsl, xsl_xsl, xi_xsa, xl_xsa, xa_xsa_s, xa_xsa_n, xj_xsa, xr_xsa, xsa_xsa, xi_xsj, xl_xsj, xa_xsj, xj_xsj_s, xj_xsj_n, xr_xsj, xsj_xsj, xi_xsr, xl_xsr, xa_xsr, xj_xsr, xr_xsr_s, xr_xsr_n, xsr_xsr, xk_0, xg_0_0, xg_0_1, xg_0_2, xp_0_2, xg_0_3, xg_0_4, xg_0_5, xg_0_6, xk_1, xg_1_0, xg_1_1, xp_1_1, xg_1_2, xg_1_3, xp_1_3, xg_1_4, xg_1_5, xg_1_6, xg_1_7, xg_1_8, xg_1_9, xg_1_10, xg_1_11, xp_1_11, xg_1_12, xg_1_13, xg_1_14, xg_1_15, xp_1_15, xg_1_16, xp_1_16, xg_1_17, xp_1_17, xk_26, xg_26_0, xg_26_1, xp_26_1, xg_26_2, xg_26_3, xp_26_3, xg_26_4, xg_26_5, xg_26_6, xg_26_7, xg_26_8, xg_26_9, xg_26_10, xg_26_11, xp_26_11, xg_26_12, xg_26_13, xg_26_14, xg_26_15, xp_26_15, xg_26_16, xp_26_16, xg_26_17, xp_26_17, xk_51, xg_51_0, xg_51_1, xg_51_2, xg_51_3, xg_51_4, xg_51_5, xg_51_6, xg_51_7, xp_51_7, xg_51_8, xp_51_8, xk_90, xg_90_0, xg_90_1, xg_90_2, xg_90_3, xp_90_3, xg_90_4, xg_90_5, xp_90_5, xg_90_6, xg_90_7, xp_90_7, xg_90_8, xp_90_8, xg_90_9, xp_90_9, xg_90_10, xas_2, xal_2, xal_3, xas_4, xal_4, xln_4, xas_5, xal_5, xln_5, xas_6, xal_6, xln_6, xas_7, xal_7, xln_7, xas_8, xal_8, xln_8, xas_9, xal_9, xln_9, xas0_10, xas1_10, xasb_10, xal_10, xal_11, xas_12, xal_12, xln_12, xas_27, xal_27, xal_28, xas_29, xal_29, xln_29, xas_30, xal_30, xln_30, xas_31, xal_31, xln_31, xas_32, xal_32, xln_32, xas_33, xal_33, xln_33, xas_34, xal_34, xln_34, xas0_35, xas1_35, xasb_35, xal_35, xal_36, xas_37, xal_37, xln_37, xas_88, xal_88, xln_88, xal_89, xas_89, xln_89, xas_103, xal_103, xln_103, xas_104, xal_104, xln_104, xas_105, xal_105, xln_105, xas_106, xal_106, xln_106, xas_107, xal_107, xln_107, xal_13, xal_in14, xas_in14, xln_in14, xal_38, xal_in39, xas_in39, xln_in39, xal_52, xal_in53, xas_in53, xln_in53, xal_61, xal_in62, xas_in62, xln_in62, xal_70, xal_in71, xas_in71, xln_in71, xal_79, xal_in80, xas_in80, xln_in80, xal_91, xal_in92, xas_in92, xln_in92, cl_some, nm_b, nn_some, qn_some, qn_none, zk_0, zk_1, zk_n0, zk_n1, nI_add, pk_mul, pk_sub, nI_leE, nI_ltE, nI_eqE, nI_lt0, nI_ge0, nI_eq0, nI_gt0, nI_le0, ilt_t, ilt_f, ile_t, ile_f, ieq_t, ieq_f, if_tt, if_ff, Nat.add_sub_cancel]
    rw [e55]
    by_cases cn : nt = 0
    · rw [if_pos cn, z0 cn]
    · rw [if_neg cn]
end XCH
