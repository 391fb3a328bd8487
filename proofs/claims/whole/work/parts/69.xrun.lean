/-! THE CLASS: days, seen, runs -/
def PD (k : Nat) : Prop := (6 ≤ k ∧ k ≤ 10) ∨ (51 ≤ k ∧ k < 106) ∨ k = 115
theorem pd_pd : ∀ k, PD k → PD k := fun _ z => z
theorem po_pd : ∀ k, PO k → PD k := fun k z => Or.inr (Or.inl z)
theorem SoAt.row {G : Gx} {lo : Nat} {h : Hp} {p : Nat} {s s' : Nat → Int32} {a : Nat} (hs : SoAt G lo h p s a) (ha : a < 6) (hag : AgR s s') (hl : sN s (130 + a) ≤ 140) : SoAt G lo h p s' a := by
  obtain ⟨pl, pt, pc, pw, pn, pe, l, co, cw, cn, ce, x2, x3, x5, sg, b, h1, h2, h3, h4, h5, h6, hv, r1, r2, r3, r4, e⟩ := hs
  exact ⟨pl, pt, pc, pw, pn, pe, l, co, cw, cn, ce, x2, x3, x5, sg, b, h1, h2, h3, h4, h5, h6, fun w hw => by
    rw [hag (140 + 4 * a + w) (by omega) (by omega)]
    exact hv w hw, r1, r2, r3, r4, by rw [codeL_agR hag ha hl]; exact e⟩
/-- the row goes on, but for what is fixed -/
theorem XC.row {G : Gx} {X lo : Nat} {h0 : Hp} {c c' : CS} {s s' : Nat → Int32} {ns nt np lk td td' q : Nat} {P : Nat → Prop} (h : XC G X lo h0 c s ns nt np lk td q) (f : FrX P c c') (hP : ∀ k, P k → (6 ≤ k ∧ k ≤ 10) ∨ (26 ≤ k ∧ k < 111) ∨ k = 115) (ha : AgR s s') (hI : xi c' 115 = nI td') (h3 : s' 3 = nI td') (htd : td' ≤ 999) (hT : ∀ t, t < nt → xa c' 6 t = s' (1034 + t) ∧ xa c' 7 t = s' (1042 + t) ∧ xa c' 8 t = s' (1050 + t) ∧ xa c' 9 t = s' (1058 + t) ∧ xa c' 10 t = s' (1026 + t)) (hV : ∀ t, t < nt → (∃ k, k ≤ 1000000 ∧ s' (1034 + t) = nI k) ∧ (∃ d, d ≤ 999 ∧ s' (1042 + t) = nI d) ∧ (s' (1026 + t) = nI 0 ∨ s' (1026 + t) = nI 1)) : XC G X lo h0 c' s' ns nt np lk td' q := by
  obtain ⟨h1, ⟨⟨i1, i2, i3, i4, i5, i6⟩, t, so, pl, ta⟩, ⟨v1, v2, v3, v4, v5, v6, v7, v8, v9, v10, v11, v12, v13, v14, v15⟩⟩ := h
  have np' : ∀ k, (k < 6 ∨ (11 ≤ k ∧ k < 26) ∨ (111 ≤ k ∧ ¬ k = 115)) → ¬ P k := fun k hk z => by have := hP k z; omega
  have g : ∀ k, k ≠ 3 → (k < 1026 ∨ 1066 ≤ k) → s' k = s k := ha
  have gN : ∀ k, k ≠ 3 → (k < 1026 ∨ 1066 ≤ k) → sN s' k = sN s k := fun k h1 h2 => sN_agR ha h1 h2
  refine ⟨h1, ⟨⟨?_, ?_, ?_, ?_, ?_, ?_⟩, ?_, ?_, ?_, ?_⟩, ?_⟩
  · rw [f.i 111 (np' _ (by omega)), g 5 (by omega) (by omega)]; exact i1
  · rw [f.i 112 (np' _ (by omega)), g 0 (by omega) (by omega)]; exact i2
  · rw [f.i 113 (np' _ (by omega)), g 1 (by omega) (by omega)]; exact i3
  · rw [f.i 114 (np' _ (by omega)), g 2 (by omega) (by omega)]; exact i4
  · rw [hI, h3]
  · rw [f.i 116 (np' _ (by omega)), g 4 (by omega) (by omega)]; exact i6
  · intro j hj
    obtain ⟨t1, t2, _⟩ := t j hj
    obtain ⟨u1, u2, u3, u4, u5⟩ := hT j hj
    refine ⟨?_, ?_, u1, u2, u3, u4, u5⟩
    · rw [f.a 4 (np' _ (by omega)), g (1010 + j) (by omega) (by omega)]; exact t1
    · rw [f.a 5 (np' _ (by omega)), g (1018 + j) (by omega) (by omega)]; exact t2
  · intro j hj
    rw [f.r 3 (np' _ (by omega))]
    obtain ⟨p, e, sp⟩ := so j hj
    exact ⟨p, e, sp.row (by omega) ha (v14 j hj).2.1⟩
  · intro j hj
    rw [f.r 11 (np' _ (by omega)), f.a 12 (np' _ (by omega)), f.a (14 + j) (np' _ (by omega)), gN (1070 + j) (by omega) (by omega), gN (1094 + j) (by omega) (by omega), g (1082 + j) (by omega) (by omega), g (1094 + j) (by omega) (by omega)]
    obtain ⟨q', e1, e2, e3, e4, e5⟩ := pl j hj
    exact ⟨q', e1, e2, e3, e4, fun i hi => by rw [g (1110 + 10 * j + i) (by omega) (by omega)]; exact e5 i hi⟩
  · intro j hj
    rw [f.a 2 (np' _ (by omega)), g (10 + j) (by omega) (by omega)]
    exact ta j hj
  · refine ⟨by rw [g 0 (by omega) (by omega)]; exact v1, v2, by rw [g 1 (by omega) (by omega)]; exact v3, v4, by rw [g 2 (by omega) (by omega)]; exact v5, v6, h3, htd, by rw [g 4 (by omega) (by omega)]; exact v9, by rw [g 5 (by omega) (by omega)]; exact v10, v11, fun j hj => ?_, fun j hj => ?_, fun j hj => CodeOk_agR ha (by omega) (v14 j hj), fun j hj => by rw [g (10 + j) (by omega) (by omega)]; exact v15 j hj⟩
    · obtain ⟨w1, _, _, _, w5⟩ := v12 j hj
      obtain ⟨x1, x2, x3⟩ := hV j hj
      exact ⟨by rw [g (1010 + j) (by omega) (by omega)]; exact w1, x1, x2, x3, by rw [g (1018 + j) (by omega) (by omega)]; exact w5⟩
    · obtain ⟨w1, w2, r, w3, w4, w5⟩ := v13 j hj
      exact ⟨by rw [g (1070 + j) (by omega) (by omega)]; exact w1, by rw [g (1082 + j) (by omega) (by omega)]; exact w2, r, w3, by rw [g (1094 + j) (by omega) (by omega)]; exact w4, fun i hi => by rw [g (1110 + 10 * j + i) (by omega) (by omega)]; exact w5 i hi⟩
section XRN
variable {G : Gx} {X lo nx : Nat} {h0 : Hp} {c : CS} {S : MS} {s : Nat → Int32} {ns nt np lk td q : Nat}
theorem XC.T (h : XC G X lo h0 c s ns nt np lk td q) {t : Nat} (ht : t < nt) : xa c 6 t = s (1034 + t) ∧ xa c 7 t = s (1042 + t) ∧ xa c 8 t = s (1050 + t) ∧ xa c 9 t = s (1058 + t) ∧ xa c 10 t = s (1026 + t) := by
  obtain ⟨_, _, u1, u2, u3, u4, u5⟩ := h.2.1.2.1 t ht
  exact ⟨u1, u2, u3, u4, u5⟩
theorem XC.V (h : XC G X lo h0 c s ns nt np lk td q) {t : Nat} (ht : t < nt) : (∃ k, k ≤ 1000000 ∧ s (1034 + t) = nI k) ∧ (∃ d, d ≤ 999 ∧ s (1042 + t) = nI d) ∧ (s (1026 + t) = nI 0 ∨ s (1026 + t) = nI 1) := by
  obtain ⟨_, _, _, _, _, _, _, _, _, _, _, v12, _⟩ := h.2.2
  obtain ⟨_, w2, w3, w4, _⟩ := v12 t ht
  exact ⟨w2, w3, w4⟩
theorem XC.now (h : XC G X lo h0 c s ns nt np lk td q) : xi c 115 = nI td ∧ s 3 = nI td ∧ td ≤ 999 := ⟨(h.2.1.1.2.2.2.2.1).trans h.2.2.2.2.2.2.2.2.1, h.2.2.2.2.2.2.2.2.1, h.2.2.2.2.2.2.2.2.2.1⟩
/-- one thing of the row anew -/
theorem XC.one {c' : CS} {s' : Nat → Int32} {t : Nat} {P : Nat → Prop} (h : XC G X lo h0 c s ns nt np lk td q) (ht : t < nt) (f : FrX P c c') (hP : ∀ k, P k → (6 ≤ k ∧ k ≤ 10) ∨ (26 ≤ k ∧ k < 111)) (ha : ∀ k, k ≠ 1026 + t → k ≠ 1034 + t → k ≠ 1042 + t → k ≠ 1050 + t → k ≠ 1058 + t → s' k = s k) (ho : ∀ i, i ≠ t → xa c' 6 i = xa c 6 i ∧ xa c' 7 i = xa c 7 i ∧ xa c' 8 i = xa c 8 i ∧ xa c' 9 i = xa c 9 i ∧ xa c' 10 i = xa c 10 i) (hT : xa c' 6 t = s' (1034 + t) ∧ xa c' 7 t = s' (1042 + t) ∧ xa c' 8 t = s' (1050 + t) ∧ xa c' 9 t = s' (1058 + t) ∧ xa c' 10 t = s' (1026 + t)) (hV : (∃ k, k ≤ 1000000 ∧ s' (1034 + t) = nI k) ∧ (∃ d, d ≤ 999 ∧ s' (1042 + t) = nI d) ∧ (s' (1026 + t) = nI 0 ∨ s' (1026 + t) = nI 1)) : XC G X lo h0 c' s' ns nt np lk td q := by
  have h8 : nt ≤ 8 := h.2.2.2.2.2.1
  obtain ⟨n1, n2, n3⟩ := h.now
  refine h.row f (fun k z => by have := hP k z; omega) (fun k h1 h2 => ha k (by omega) (by omega) (by omega) (by omega) (by omega)) (by rw [f.i 115 (fun z => by have := hP _ z; omega)]; exact n1) (by rw [ha 3 (by omega) (by omega) (by omega) (by omega) (by omega)]; exact n2) n3 (fun i hi => ?_) (fun i hi => ?_)
  · by_cases e : i = t
    · subst e; exact hT
    · obtain ⟨o1, o2, o3, o4, o5⟩ := ho i e
      rw [o1, o2, o3, o4, o5, ha (1034 + i) (by omega) (by omega) (by omega) (by omega) (by omega), ha (1042 + i) (by omega) (by omega) (by omega) (by omega) (by omega), ha (1050 + i) (by omega) (by omega) (by omega) (by omega) (by omega), ha (1058 + i) (by omega) (by omega) (by omega) (by omega) (by omega), ha (1026 + i) (by omega) (by omega) (by omega) (by omega) (by omega)]
      exact h.T hi
  · by_cases e : i = t
    · subst e; exact hV
    · rw [ha (1034 + i) (by omega) (by omega) (by omega) (by omega) (by omega), ha (1042 + i) (by omega) (by omega) (by omega) (by omega) (by omega), ha (1026 + i) (by omega) (by omega) (by omega) (by omega) (by omega)]
      exact h.V hi
def PK (k : Nat) : Prop := k = 6 ∨ k = 7 ∨ k = 115
def PK2 (k : Nat) : Prop := k = 6 ∨ k = 7
def PL2 (k : Nat) : Prop := 6 ≤ k ∧ k ≤ 10
theorem ovP_s {t : Nat} : ovP S s (t + 1) = upK (upK (ovP S s t) (1034 + t) (overF (msa S 1 (ovP S s t)) t (ovP S s t (1034 + t)) (ovP S s t (1042 + t)))) (1042 + t) (laterF (ovP S s t (1042 + t))) := rfl
set_option maxRecDepth 100000 in
set_option maxHeartbeats 1000000 in
theorem x_over2 (h10 : mi S 10 = -1) (htd : td + 1 ≤ 999) : ∀ (r t m : Nat) (c : CS), t + r = nt → r < m → XC G X lo h0 c (ovP S s t) ns nt np lk td q → ∃ c' : CS, F_X0_goOver_2 G m (encX G X c h0) nx (X + 1) (nI t) = some ((), encX G X c' h0, nx) ∧ FrX PK c c' ∧ XC G X lo h0 c' (upK (ovP S s nt) 3 (ovP S s nt 3 + nI 1)) ns nt np lk (td + 1) q := by
  intro r
  induction r with
  | zero =>
    intro t m c ht hm hC
    obtain ⟨m, rfl⟩ : ∃ q, m = q + 1 := ⟨m - 1, by omega⟩
    obtain rfl : t = nt := by omega
    have h5 := x_thC hC
    have h8 := x_nt8 hC
    obtain ⟨n1, n2, n3⟩ := hC.now
    refine ⟨xsi c 115 (nI (td + 1)), ?_, FrX.si (P := PK) (Or.inr (Or.inr rfl)), ?_⟩
    · rw [F_X0_goOver_2_s]
      simp (maxSteps := 3000000) (disch := omega) only [h5, n1, xi_xsi_s, xi_xsi_n, xl_xsi, xa_xsi, xj_xsi, xr_xsi, xsi_xsi, xi_xsl, xl_xsl_s, xl_xsl_n, xa_xsl, xj_xsl, xr_xsl, xsl_xsl, xi_xsa, xl_xsa, xa_xsa_s, xa_xsa_n, xj_xsa, xr_xsa, xsa_xsa, xi_xsj, xl_xsj, xa_xsj, xj_xsj_s, xj_xsj_n, xr_xsj, xsj_xsj, xi_xsr, xl_xsr, xa_xsr, xj_xsr, xr_xsr_s, xr_xsr_n, xsr_xsr, xk_0, xg_0_0, xg_0_1, xg_0_2, xp_0_2, xg_0_3, xg_0_4, xg_0_5, xg_0_6, xk_1, xg_1_0, xg_1_1, xp_1_1, xg_1_2, xg_1_3, xp_1_3, xg_1_4, xg_1_5, xg_1_6, xg_1_7, xg_1_8, xg_1_9, xg_1_10, xg_1_11, xp_1_11, xg_1_12, xg_1_13, xg_1_14, xg_1_15, xp_1_15, xg_1_16, xp_1_16, xg_1_17, xp_1_17, xk_26, xg_26_0, xg_26_1, xp_26_1, xg_26_2, xg_26_3, xp_26_3, xg_26_4, xg_26_5, xg_26_6, xg_26_7, xg_26_8, xg_26_9, xg_26_10, xg_26_11, xp_26_11, xg_26_12, xg_26_13, xg_26_14, xg_26_15, xp_26_15, xg_26_16, xp_26_16, xg_26_17, xp_26_17, xk_51, xg_51_0, xg_51_1, xg_51_2, xg_51_3, xg_51_4, xg_51_5, xg_51_6, xg_51_7, xp_51_7, xg_51_8, xp_51_8, xk_90, xg_90_0, xg_90_1, xg_90_2, xg_90_3, xp_90_3, xg_90_4, xg_90_5, xp_90_5, xg_90_6, xg_90_7, xp_90_7, xg_90_8, xp_90_8, xg_90_9, xp_90_9, xg_90_10, xas_2, xal_2, xal_3, xas_4, xal_4, xln_4, xas_5, xal_5, xln_5, xas_6, xal_6, xln_6, xas_7, xal_7, xln_7, xas_8, xal_8, xln_8, xas_9, xal_9, xln_9, xas0_10, xas1_10, xasb_10, xal_10, xal_11, xas_12, xal_12, xln_12, xas_27, xal_27, xal_28, xas_29, xal_29, xln_29, xas_30, xal_30, xln_30, xas_31, xal_31, xln_31, xas_32, xal_32, xln_32, xas_33, xal_33, xln_33, xas_34, xal_34, xln_34, xas0_35, xas1_35, xasb_35, xal_35, xal_36, xas_37, xal_37, xln_37, xas_88, xal_88, xln_88, xal_89, xas_89, xln_89, xas_103, xal_103, xln_103, xas_104, xal_104, xln_104, xas_105, xal_105, xln_105, xas_106, xal_106, xln_106, xas_107, xal_107, xln_107, xal_13, xal_in14, xas_in14, xln_in14, xal_38, xal_in39, xas_in39, xln_in39, xal_52, xal_in53, xas_in53, xln_in53, xal_61, xal_in62, xas_in62, xln_in62, xal_70, xal_in71, xas_in71, xln_in71, xal_79, xal_in80, xas_in80, xln_in80, xal_91, xal_in92, xas_in92, xln_in92, cl_some, nm_b, nn_some, qn_some, qn_none, zk_0, zk_1, zk_n0, zk_n1, nI_add, pk_mul, pk_sub, nI_leE, nI_ltE, nI_eqE, nI_lt0, nI_ge0, nI_eq0, nI_gt0, nI_le0, ilt_t, ilt_f, ile_t, ile_f, ieq_t, ieq_f, if_tt, if_ff, Nat.add_sub_cancel]
    · refine hC.row (FrX.si (P := PK) (Or.inr (Or.inr rfl))) (fun k z => by unfold PK at z; omega) (AgR.up (by omega)) xi_xsi_s (by rw [upK_s, n2, nI_add]) htd (fun i hi => ?_) (fun i hi => ?_)
      · rw [upK_n (by omega), upK_n (by omega), upK_n (by omega), upK_n (by omega), upK_n (by omega)]
        exact hC.T hi
      · rw [upK_n (by omega), upK_n (by omega), upK_n (by omega)]
        exact hC.V hi
  | succ r ih =>
    intro t m c ht hm hC
    obtain ⟨m, rfl⟩ : ∃ q, m = q + 1 := ⟨m - 1, by omega⟩
    have hC' : XC G X lo h0 c (ma (msa S 1 (ovP S s t)) 1) ns nt np lk td q := by rw [ma_msa_s]; exact hC
    have h5 := x_thC hC'
    have h8 := x_nt8 hC'
    have htn : t < nt := by omega
    obtain ⟨a, p, hX⟩ := hC'.th htn
    obtain ⟨⟨k, hk, ek⟩, ⟨d, hd, ed⟩, _⟩ := hC.V htn
    obtain ⟨t6, t7, t8, t9, t10⟩ := hC.T htn
    have es := x_sortAt (nx := nx) hX (by omega)
    obtain ⟨a6, ha, _, _, _, hs, e5, _⟩ := id hX
    have ck7 : ∀ (c2 : CS) {β : Type} {f : Nat → Option β}, ck (encX G X c2 h0) p [7] f = f 7 := fun c2 => x_ck7 (hs c2)
    have ek1 : F_X7_knownOver G (encX G X c h0) nx p (nI k) (nI d) (ma (msa S 1 (ovP S s t)) 1 (1018 + t)) (nI 0) = some (overF (msa S 1 (ovP S s t)) t (nI k) (nI d), encX G X c h0, nx) := by
      rw [over_ovI (S := msa S 1 (ovP S s t)) (t := t) ha (y := nI 0) (x_y0 (S := msa S 1 (ovP S s t)) h10 (by omega))]
      exact x_knownOver (hs c) hk _ _ _
    obtain ⟨ko, dO, hko, _, eov⟩ := over_V hX (z := (nI k, nI d)) ⟨k, d, hk, hd, rfl⟩
    have eov1 : overF (msa S 1 (ovP S s t)) t (nI k) (nI d) = nI ko := congrArg Prod.fst eov
    obtain ⟨l1, d', hd', el⟩ := later_eq hd
    have q6 : xa c 6 t = nI k := t6.trans ek
    have q7 : xa c 7 t = nI d := t7.trans ed
    have f2 : FrX PK2 c (xsa (xsa c 6 (upK (xa c 6) t (overF (msa S 1 (ovP S s t)) t (nI k) (nI d)))) 7 (upK (xa c 7) t (mnI (nI 999) (nI (d + 1))))) := (FrX.sa (P := PK2) (Or.inl rfl)).trans (FrX.sa (P := PK2) (Or.inr rfl)) (fun _ z => z) (fun _ z => z)
    have e34 : ovP S s (t + 1) (1034 + t) = overF (msa S 1 (ovP S s t)) t (nI k) (nI d) := by rw [ovP_s, upK_n (by omega), upK_s, ek, ed]
    have e42 : ovP S s (t + 1) (1042 + t) = laterF (nI d) := by rw [ovP_s, upK_s, ed]
    have eo : ∀ k, k ≠ 1034 + t → k ≠ 1042 + t → ovP S s (t + 1) k = ovP S s t k := fun k h1 h2 => by rw [ovP_s, upK_n h2, upK_n h1]
    have hC2 : XC G X lo h0 (xsa (xsa c 6 (upK (xa c 6) t (overF (msa S 1 (ovP S s t)) t (nI k) (nI d)))) 7 (upK (xa c 7) t (mnI (nI 999) (nI (d + 1))))) (ovP S s (t + 1)) ns nt np lk td q := by
      refine hC.one (P := PK2) htn f2 (fun k z => by unfold PK2 at z; omega) (fun k h1 h2 h3 h4 h5 => eo k h2 h3) (fun i hi => ?_) ?_ ?_
      · rw [xa_xsa_n (by omega), xa_xsa_s, xa_xsa_s, upK_n hi, upK_n hi, xa_xsa_n (by omega), xa_xsa_n (by omega), xa_xsa_n (by omega), xa_xsa_n (by omega), xa_xsa_n (by omega), xa_xsa_n (by omega)]
        exact ⟨rfl, rfl, rfl, rfl, rfl⟩
      · rw [xa_xsa_n (by omega), xa_xsa_s, xa_xsa_s, upK_s, upK_s, xa_xsa_n (by omega), xa_xsa_n (by omega), xa_xsa_n (by omega), xa_xsa_n (by omega), xa_xsa_n (by omega), xa_xsa_n (by omega), e34, e42, eo (1050 + t) (by omega) (by omega), eo (1058 + t) (by omega) (by omega), eo (1026 + t) (by omega) (by omega)]
        exact ⟨rfl, l1.symm, t8, t9, t10⟩
      · rw [e34, e42, eo (1026 + t) (by omega) (by omega)]
        exact ⟨⟨ko, hko, eov1⟩, ⟨d', hd', el⟩, (hC.V htn).2.2⟩
    obtain ⟨c', r1, r2, r3⟩ := ih (t + 1) m _ (by omega) (by omega) hC2
    refine ⟨c', ?_, (f2.mono (fun k z => by unfold PK2 at z; unfold PK; omega)).trans r2 (fun _ z => z) (fun _ z => z), r3⟩
    rw [F_X0_goOver_2_s]
    simp (maxSteps := 3000000) (disch := omega) only [h5, es, ck7, q6, q7, e5, ek1, xi_xsi_s, xi_xsi_n, xl_xsi, xa_xsi, xj_xsi, xr_xsi, xsi_xsi, xi_xsl, xl_xsl_s, xl_xsl_n, xa_xsl, xj_xsl, xr_xsl, xsl_xsl, xi_xsa, xl_xsa, xa_xsa_s, xa_xsa_n, xj_xsa, xr_xsa, xsa_xsa, xi_xsj, xl_xsj, xa_xsj, xj_xsj_s, xj_xsj_n, xr_xsj, xsj_xsj, xi_xsr, xl_xsr, xa_xsr, xj_xsr, xr_xsr_s, xr_xsr_n, xsr_xsr, xk_0, xg_0_0, xg_0_1, xg_0_2, xp_0_2, xg_0_3, xg_0_4, xg_0_5, xg_0_6, xk_1, xg_1_0, xg_1_1, xp_1_1, xg_1_2, xg_1_3, xp_1_3, xg_1_4, xg_1_5, xg_1_6, xg_1_7, xg_1_8, xg_1_9, xg_1_10, xg_1_11, xp_1_11, xg_1_12, xg_1_13, xg_1_14, xg_1_15, xp_1_15, xg_1_16, xp_1_16, xg_1_17, xp_1_17, xk_26, xg_26_0, xg_26_1, xp_26_1, xg_26_2, xg_26_3, xp_26_3, xg_26_4, xg_26_5, xg_26_6, xg_26_7, xg_26_8, xg_26_9, xg_26_10, xg_26_11, xp_26_11, xg_26_12, xg_26_13, xg_26_14, xg_26_15, xp_26_15, xg_26_16, xp_26_16, xg_26_17, xp_26_17, xk_51, xg_51_0, xg_51_1, xg_51_2, xg_51_3, xg_51_4, xg_51_5, xg_51_6, xg_51_7, xp_51_7, xg_51_8, xp_51_8, xk_90, xg_90_0, xg_90_1, xg_90_2, xg_90_3, xp_90_3, xg_90_4, xg_90_5, xp_90_5, xg_90_6, xg_90_7, xp_90_7, xg_90_8, xp_90_8, xg_90_9, xp_90_9, xg_90_10, xas_2, xal_2, xal_3, xas_4, xal_4, xln_4, xas_5, xal_5, xln_5, xas_6, xal_6, xln_6, xas_7, xal_7, xln_7, xas_8, xal_8, xln_8, xas_9, xal_9, xln_9, xas0_10, xas1_10, xasb_10, xal_10, xal_11, xas_12, xal_12, xln_12, xas_27, xal_27, xal_28, xas_29, xal_29, xln_29, xas_30, xal_30, xln_30, xas_31, xal_31, xln_31, xas_32, xal_32, xln_32, xas_33, xal_33, xln_33, xas_34, xal_34, xln_34, xas0_35, xas1_35, xasb_35, xal_35, xal_36, xas_37, xal_37, xln_37, xas_88, xal_88, xln_88, xal_89, xas_89, xln_89, xas_103, xal_103, xln_103, xas_104, xal_104, xln_104, xas_105, xal_105, xln_105, xas_106, xal_106, xln_106, xas_107, xal_107, xln_107, xal_13, xal_in14, xas_in14, xln_in14, xal_38, xal_in39, xas_in39, xln_in39, xal_52, xal_in53, xas_in53, xln_in53, xal_61, xal_in62, xas_in62, xln_in62, xal_70, xal_in71, xas_in71, xln_in71, xal_79, xal_in80, xas_in80, xln_in80, xal_91, xal_in92, xas_in92, xln_in92, cl_some, nm_b, nn_some, qn_some, qn_none, zk_0, zk_1, zk_n0, zk_n1, nI_add, pk_mul, pk_sub, nI_leE, nI_ltE, nI_eqE, nI_lt0, nI_ge0, nI_eq0, nI_gt0, nI_le0, ilt_t, ilt_f, ile_t, ile_f, ieq_t, ieq_f, if_tt, if_ff, Nat.add_sub_cancel]
    exact r1
theorem x_overB (h10 : mi S 10 = -1) (htd : td + 1 ≤ 999) (hC : XC G X lo h0 c s ns nt np lk td q) : ∃ c' : CS, F_X0_goOver G (encX G X c h0) nx (X + 1) = some ((), encX G X c' h0, nx) ∧ FrX PK c c' ∧ XC G X lo h0 c' (upK (ovP S s nt) 3 (ovP S s nt 3 + nI 1)) ns nt np lk (td + 1) q := x_over2 h10 htd nt 0 fuelL c (by omega) (by have : nt ≤ 8 := hC.2.2.2.2.2.1; unfold fuelL; omega) hC
/-- a day's end doesn't look at NOW -/
theorem ovP_3 {x : Int32} : ∀ t, ovP S (upK s 3 x) t = upK (ovP S s t) 3 x
  | 0 => rfl
  | t + 1 => by
    have ih := ovP_3 (x := x) t
    have sw : ∀ (f : Nat → Int32) (k : Nat) (y : Int32), k ≠ 3 → upK (upK f 3 x) k y = upK (upK f k y) 3 x := fun f k y hk => by
      funext j
      unfold upK
      by_cases c1 : j = k
      · subst c1
        rw [if_pos rfl, if_neg hk, if_pos rfl]
      · rw [if_neg c1, if_neg c1]
    have eN : ∀ (f : Nat → Int32) (k : Nat), k ≠ 3 → sN (upK f 3 x) k = sN f k := fun f k hk => by unfold sN; rw [upK_n hk]
    have eC : ∀ (f : Nat → Int32) (a : Nat), codeL (upK f 3 x) a = codeL f a := fun f a => by
      unfold codeL
      rw [eN f _ (by omega)]
      exact List.map_congr_left (fun j _ => upK_n (by omega))
    have eo : ∀ (f : Nat → Int32) (k d : Int32), overF (msa S 1 (upK f 3 x)) t k d = overF (msa S 1 f) t k d := fun f k d => by
      unfold overF illF healF sumF
      rw [ma_msa_s, ma_msa_s, eN f _ (by omega), eC, upK_n (show 1018 + t ≠ 3 by omega)]
      rfl
    rw [ovP_s, ovP_s, ih, eo, upK_n (show 1034 + t ≠ 3 by omega), upK_n (show 1042 + t ≠ 3 by omega), sw _ _ _ (by omega), sw _ _ _ (by omega)]
theorem up_up3 {f : Nat → Int32} {k : Nat} {x y : Int32} : upK (upK f k x) k y = upK f k y := upK_upK
set_option maxRecDepth 100000 in
set_option maxHeartbeats 1000000 in
theorem x_days30 (h10 : mi S 10 = -1) {d : Nat} (hd : td + d ≤ 999) : ∀ (r i m : Nat) (c : CS), i + r = d → r < m → XC G X lo h0 c (upK (ovN S nt s i) 3 (nI (td + i))) ns nt np lk (td + i) q → ∃ c' : CS, F_X11_days_30 G m (encX G X c h0) nx X (nI d) (nI i) = some (nI (td + d), encX G X c' h0, nx) ∧ FrX PK c c' ∧ XC G X lo h0 c' (upK (ovN S nt s d) 3 (nI (td + d))) ns nt np lk (td + d) q := by
  intro r
  induction r with
  | zero =>
    intro i m c hi hm hC
    obtain ⟨m, rfl⟩ : ∃ q, m = q + 1 := ⟨m - 1, by omega⟩
    obtain rfl : i = d := by omega
    obtain ⟨n1, _, _⟩ := hC.now
    refine ⟨c, ?_, FrX.rf, hC⟩
    rw [F_X11_days_30_s]
    simp (maxSteps := 3000000) (disch := omega) only [n1, xi_xsi_s, xi_xsi_n, xl_xsi, xa_xsi, xj_xsi, xr_xsi, xsi_xsi, xi_xsl, xl_xsl_s, xl_xsl_n, xa_xsl, xj_xsl, xr_xsl, xsl_xsl, xi_xsa, xl_xsa, xa_xsa_s, xa_xsa_n, xj_xsa, xr_xsa, xsa_xsa, xi_xsj, xl_xsj, xa_xsj, xj_xsj_s, xj_xsj_n, xr_xsj, xsj_xsj, xi_xsr, xl_xsr, xa_xsr, xj_xsr, xr_xsr_s, xr_xsr_n, xsr_xsr, xk_0, xg_0_0, xg_0_1, xg_0_2, xp_0_2, xg_0_3, xg_0_4, xg_0_5, xg_0_6, xk_1, xg_1_0, xg_1_1, xp_1_1, xg_1_2, xg_1_3, xp_1_3, xg_1_4, xg_1_5, xg_1_6, xg_1_7, xg_1_8, xg_1_9, xg_1_10, xg_1_11, xp_1_11, xg_1_12, xg_1_13, xg_1_14, xg_1_15, xp_1_15, xg_1_16, xp_1_16, xg_1_17, xp_1_17, xk_26, xg_26_0, xg_26_1, xp_26_1, xg_26_2, xg_26_3, xp_26_3, xg_26_4, xg_26_5, xg_26_6, xg_26_7, xg_26_8, xg_26_9, xg_26_10, xg_26_11, xp_26_11, xg_26_12, xg_26_13, xg_26_14, xg_26_15, xp_26_15, xg_26_16, xp_26_16, xg_26_17, xp_26_17, xk_51, xg_51_0, xg_51_1, xg_51_2, xg_51_3, xg_51_4, xg_51_5, xg_51_6, xg_51_7, xp_51_7, xg_51_8, xp_51_8, xk_90, xg_90_0, xg_90_1, xg_90_2, xg_90_3, xp_90_3, xg_90_4, xg_90_5, xp_90_5, xg_90_6, xg_90_7, xp_90_7, xg_90_8, xp_90_8, xg_90_9, xp_90_9, xg_90_10, xas_2, xal_2, xal_3, xas_4, xal_4, xln_4, xas_5, xal_5, xln_5, xas_6, xal_6, xln_6, xas_7, xal_7, xln_7, xas_8, xal_8, xln_8, xas_9, xal_9, xln_9, xas0_10, xas1_10, xasb_10, xal_10, xal_11, xas_12, xal_12, xln_12, xas_27, xal_27, xal_28, xas_29, xal_29, xln_29, xas_30, xal_30, xln_30, xas_31, xal_31, xln_31, xas_32, xal_32, xln_32, xas_33, xal_33, xln_33, xas_34, xal_34, xln_34, xas0_35, xas1_35, xasb_35, xal_35, xal_36, xas_37, xal_37, xln_37, xas_88, xal_88, xln_88, xal_89, xas_89, xln_89, xas_103, xal_103, xln_103, xas_104, xal_104, xln_104, xas_105, xal_105, xln_105, xas_106, xal_106, xln_106, xas_107, xal_107, xln_107, xal_13, xal_in14, xas_in14, xln_in14, xal_38, xal_in39, xas_in39, xln_in39, xal_52, xal_in53, xas_in53, xln_in53, xal_61, xal_in62, xas_in62, xln_in62, xal_70, xal_in71, xas_in71, xln_in71, xal_79, xal_in80, xas_in80, xln_in80, xal_91, xal_in92, xas_in92, xln_in92, cl_some, nm_b, nn_some, qn_some, qn_none, zk_0, zk_1, zk_n0, zk_n1, nI_add, pk_mul, pk_sub, nI_leE, nI_ltE, nI_eqE, nI_lt0, nI_ge0, nI_eq0, nI_gt0, nI_le0, ilt_t, ilt_f, ile_t, ile_f, ieq_t, ieq_f, if_tt, if_ff, Nat.add_sub_cancel]
  | succ r ih =>
    intro i m c hi hm hC
    obtain ⟨m, rfl⟩ : ∃ q, m = q + 1 := ⟨m - 1, by omega⟩
    obtain ⟨c2, e2, f2, hC2⟩ := x_overB (nx := nx) h10 (by omega) hC
    have er : upK (ovP S (upK (ovN S nt s i) 3 (nI (td + i))) nt) 3 (ovP S (upK (ovN S nt s i) 3 (nI (td + i))) nt 3 + nI 1) = upK (ovN S nt s (i + 1)) 3 (nI (td + (i + 1))) := by
      rw [ovP_3, upK_upK, upK_s, nI_add]
      rfl
    rw [er] at hC2
    obtain ⟨c', r1, r2, r3⟩ := ih (i + 1) m c2 (by omega) (by omega) hC2
    refine ⟨c', ?_, f2.trans r2 (fun _ z => z) (fun _ z => z), r3⟩
    rw [F_X11_days_30_s]
    simp (maxSteps := 3000000) (disch := omega) only [e2, xi_xsi_s, xi_xsi_n, xl_xsi, xa_xsi, xj_xsi, xr_xsi, xsi_xsi, xi_xsl, xl_xsl_s, xl_xsl_n, xa_xsl, xj_xsl, xr_xsl, xsl_xsl, xi_xsa, xl_xsa, xa_xsa_s, xa_xsa_n, xj_xsa, xr_xsa, xsa_xsa, xi_xsj, xl_xsj, xa_xsj, xj_xsj_s, xj_xsj_n, xr_xsj, xsj_xsj, xi_xsr, xl_xsr, xa_xsr, xj_xsr, xr_xsr_s, xr_xsr_n, xsr_xsr, xk_0, xg_0_0, xg_0_1, xg_0_2, xp_0_2, xg_0_3, xg_0_4, xg_0_5, xg_0_6, xk_1, xg_1_0, xg_1_1, xp_1_1, xg_1_2, xg_1_3, xp_1_3, xg_1_4, xg_1_5, xg_1_6, xg_1_7, xg_1_8, xg_1_9, xg_1_10, xg_1_11, xp_1_11, xg_1_12, xg_1_13, xg_1_14, xg_1_15, xp_1_15, xg_1_16, xp_1_16, xg_1_17, xp_1_17, xk_26, xg_26_0, xg_26_1, xp_26_1, xg_26_2, xg_26_3, xp_26_3, xg_26_4, xg_26_5, xg_26_6, xg_26_7, xg_26_8, xg_26_9, xg_26_10, xg_26_11, xp_26_11, xg_26_12, xg_26_13, xg_26_14, xg_26_15, xp_26_15, xg_26_16, xp_26_16, xg_26_17, xp_26_17, xk_51, xg_51_0, xg_51_1, xg_51_2, xg_51_3, xg_51_4, xg_51_5, xg_51_6, xg_51_7, xp_51_7, xg_51_8, xp_51_8, xk_90, xg_90_0, xg_90_1, xg_90_2, xg_90_3, xp_90_3, xg_90_4, xg_90_5, xp_90_5, xg_90_6, xg_90_7, xp_90_7, xg_90_8, xp_90_8, xg_90_9, xp_90_9, xg_90_10, xas_2, xal_2, xal_3, xas_4, xal_4, xln_4, xas_5, xal_5, xln_5, xas_6, xal_6, xln_6, xas_7, xal_7, xln_7, xas_8, xal_8, xln_8, xas_9, xal_9, xln_9, xas0_10, xas1_10, xasb_10, xal_10, xal_11, xas_12, xal_12, xln_12, xas_27, xal_27, xal_28, xas_29, xal_29, xln_29, xas_30, xal_30, xln_30, xas_31, xal_31, xln_31, xas_32, xal_32, xln_32, xas_33, xal_33, xln_33, xas_34, xal_34, xln_34, xas0_35, xas1_35, xasb_35, xal_35, xal_36, xas_37, xal_37, xln_37, xas_88, xal_88, xln_88, xal_89, xas_89, xln_89, xas_103, xal_103, xln_103, xas_104, xal_104, xln_104, xas_105, xal_105, xln_105, xas_106, xal_106, xln_106, xas_107, xal_107, xln_107, xal_13, xal_in14, xas_in14, xln_in14, xal_38, xal_in39, xas_in39, xln_in39, xal_52, xal_in53, xas_in53, xln_in53, xal_61, xal_in62, xas_in62, xln_in62, xal_70, xal_in71, xas_in71, xln_in71, xal_79, xal_in80, xas_in80, xln_in80, xal_91, xal_in92, xas_in92, xln_in92, cl_some, nm_b, nn_some, qn_some, qn_none, zk_0, zk_1, zk_n0, zk_n1, nI_add, pk_mul, pk_sub, nI_leE, nI_ltE, nI_eqE, nI_lt0, nI_ge0, nI_eq0, nI_gt0, nI_le0, ilt_t, ilt_f, ile_t, ile_f, ieq_t, ieq_f, if_tt, if_ff, Nat.add_sub_cancel]
    exact r1
/-- NOW of what days answer -/
def dysT (td : Nat) (d : Int32) : Nat := if bIn d (nI 1) (nI 20) = 0 then td else if nI td + d ≤ nI 999 then td + d.toNatClampNeg else td
set_option maxRecDepth 100000 in
set_option maxHeartbeats 1000000 in
theorem x_days (h10 : mi S 10 = -1) (hC : XC G X lo h0 c (ma S 1) ns nt np lk td q) (d : Int32) : ∃ c' : CS, F_X11_days G (encX G X c h0) nx X d = some ((dysF S nt td d).1, encX G X c' h0, nx) ∧ FrX PD c c' ∧ XC G X lo h0 c' (dysF S nt td d).2 ns nt np lk (dysT td d) q := by
  obtain ⟨n1, n2, n3⟩ := hC.now
  unfold F_X11_days F_X11_days_25 dysF dysT
  simp (maxSteps := 3000000) (disch := omega) only [x_within, xi_xsi_s, xi_xsi_n, xl_xsi, xa_xsi, xj_xsi, xr_xsi, xsi_xsi, xi_xsl, xl_xsl_s, xl_xsl_n, xa_xsl, xj_xsl, xr_xsl, xsl_xsl, xi_xsa, xl_xsa, xa_xsa_s, xa_xsa_n, xj_xsa, xr_xsa, xsa_xsa, xi_xsj, xl_xsj, xa_xsj, xj_xsj_s, xj_xsj_n, xr_xsj, xsj_xsj, xi_xsr, xl_xsr, xa_xsr, xj_xsr, xr_xsr_s, xr_xsr_n, xsr_xsr, xk_0, xg_0_0, xg_0_1, xg_0_2, xp_0_2, xg_0_3, xg_0_4, xg_0_5, xg_0_6, xk_1, xg_1_0, xg_1_1, xp_1_1, xg_1_2, xg_1_3, xp_1_3, xg_1_4, xg_1_5, xg_1_6, xg_1_7, xg_1_8, xg_1_9, xg_1_10, xg_1_11, xp_1_11, xg_1_12, xg_1_13, xg_1_14, xg_1_15, xp_1_15, xg_1_16, xp_1_16, xg_1_17, xp_1_17, xk_26, xg_26_0, xg_26_1, xp_26_1, xg_26_2, xg_26_3, xp_26_3, xg_26_4, xg_26_5, xg_26_6, xg_26_7, xg_26_8, xg_26_9, xg_26_10, xg_26_11, xp_26_11, xg_26_12, xg_26_13, xg_26_14, xg_26_15, xp_26_15, xg_26_16, xp_26_16, xg_26_17, xp_26_17, xk_51, xg_51_0, xg_51_1, xg_51_2, xg_51_3, xg_51_4, xg_51_5, xg_51_6, xg_51_7, xp_51_7, xg_51_8, xp_51_8, xk_90, xg_90_0, xg_90_1, xg_90_2, xg_90_3, xp_90_3, xg_90_4, xg_90_5, xp_90_5, xg_90_6, xg_90_7, xp_90_7, xg_90_8, xp_90_8, xg_90_9, xp_90_9, xg_90_10, xas_2, xal_2, xal_3, xas_4, xal_4, xln_4, xas_5, xal_5, xln_5, xas_6, xal_6, xln_6, xas_7, xal_7, xln_7, xas_8, xal_8, xln_8, xas_9, xal_9, xln_9, xas0_10, xas1_10, xasb_10, xal_10, xal_11, xas_12, xal_12, xln_12, xas_27, xal_27, xal_28, xas_29, xal_29, xln_29, xas_30, xal_30, xln_30, xas_31, xal_31, xln_31, xas_32, xal_32, xln_32, xas_33, xal_33, xln_33, xas_34, xal_34, xln_34, xas0_35, xas1_35, xasb_35, xal_35, xal_36, xas_37, xal_37, xln_37, xas_88, xal_88, xln_88, xal_89, xas_89, xln_89, xas_103, xal_103, xln_103, xas_104, xal_104, xln_104, xas_105, xal_105, xln_105, xas_106, xal_106, xln_106, xas_107, xal_107, xln_107, xal_13, xal_in14, xas_in14, xln_in14, xal_38, xal_in39, xas_in39, xln_in39, xal_52, xal_in53, xas_in53, xln_in53, xal_61, xal_in62, xas_in62, xln_in62, xal_70, xal_in71, xas_in71, xln_in71, xal_79, xal_in80, xas_in80, xln_in80, xal_91, xal_in92, xas_in92, xln_in92, cl_some, nm_b, nn_some, qn_some, qn_none, zk_0, zk_1, zk_n0, zk_n1, nI_add, pk_mul, pk_sub, nI_leE, nI_ltE, nI_eqE, nI_lt0, nI_ge0, nI_eq0, nI_gt0, nI_le0, ilt_t, ilt_f, ile_t, ile_f, ieq_t, ieq_f, if_tt, if_ff, Nat.add_sub_cancel]
  by_cases c1 : bIn d (nI 1) (nI 20) = 0
  · rw [if_pos c1, if_pos c1, if_pos c1]
    exact ⟨c, rfl, FrX.rf, hC⟩
  · rw [if_neg c1, if_neg c1, if_neg c1]
    obtain ⟨d, hd1, hd3, rfl⟩ := bIn_lh (by omega) (by omega) c1
    rw [nI_clamp (by omega)]
    simp (maxSteps := 3000000) (disch := omega) only [n1, xi_xsi_s, xi_xsi_n, xl_xsi, xa_xsi, xj_xsi, xr_xsi, xsi_xsi, xi_xsl, xl_xsl_s, xl_xsl_n, xa_xsl, xj_xsl, xr_xsl, xsl_xsl, xi_xsa, xl_xsa, xa_xsa_s, xa_xsa_n, xj_xsa, xr_xsa, xsa_xsa, xi_xsj, xl_xsj, xa_xsj, xj_xsj_s, xj_xsj_n, xr_xsj, xsj_xsj, xi_xsr, xl_xsr, xa_xsr, xj_xsr, xr_xsr_s, xr_xsr_n, xsr_xsr, xk_0, xg_0_0, xg_0_1, xg_0_2, xp_0_2, xg_0_3, xg_0_4, xg_0_5, xg_0_6, xk_1, xg_1_0, xg_1_1, xp_1_1, xg_1_2, xg_1_3, xp_1_3, xg_1_4, xg_1_5, xg_1_6, xg_1_7, xg_1_8, xg_1_9, xg_1_10, xg_1_11, xp_1_11, xg_1_12, xg_1_13, xg_1_14, xg_1_15, xp_1_15, xg_1_16, xp_1_16, xg_1_17, xp_1_17, xk_26, xg_26_0, xg_26_1, xp_26_1, xg_26_2, xg_26_3, xp_26_3, xg_26_4, xg_26_5, xg_26_6, xg_26_7, xg_26_8, xg_26_9, xg_26_10, xg_26_11, xp_26_11, xg_26_12, xg_26_13, xg_26_14, xg_26_15, xp_26_15, xg_26_16, xp_26_16, xg_26_17, xp_26_17, xk_51, xg_51_0, xg_51_1, xg_51_2, xg_51_3, xg_51_4, xg_51_5, xg_51_6, xg_51_7, xp_51_7, xg_51_8, xp_51_8, xk_90, xg_90_0, xg_90_1, xg_90_2, xg_90_3, xp_90_3, xg_90_4, xg_90_5, xp_90_5, xg_90_6, xg_90_7, xp_90_7, xg_90_8, xp_90_8, xg_90_9, xp_90_9, xg_90_10, xas_2, xal_2, xal_3, xas_4, xal_4, xln_4, xas_5, xal_5, xln_5, xas_6, xal_6, xln_6, xas_7, xal_7, xln_7, xas_8, xal_8, xln_8, xas_9, xal_9, xln_9, xas0_10, xas1_10, xasb_10, xal_10, xal_11, xas_12, xal_12, xln_12, xas_27, xal_27, xal_28, xas_29, xal_29, xln_29, xas_30, xal_30, xln_30, xas_31, xal_31, xln_31, xas_32, xal_32, xln_32, xas_33, xal_33, xln_33, xas_34, xal_34, xln_34, xas0_35, xas1_35, xasb_35, xal_35, xal_36, xas_37, xal_37, xln_37, xas_88, xal_88, xln_88, xal_89, xas_89, xln_89, xas_103, xal_103, xln_103, xas_104, xal_104, xln_104, xas_105, xal_105, xln_105, xas_106, xal_106, xln_106, xas_107, xal_107, xln_107, xal_13, xal_in14, xas_in14, xln_in14, xal_38, xal_in39, xas_in39, xln_in39, xal_52, xal_in53, xas_in53, xln_in53, xal_61, xal_in62, xas_in62, xln_in62, xal_70, xal_in71, xas_in71, xln_in71, xal_79, xal_in80, xas_in80, xln_in80, xal_91, xal_in92, xas_in92, xln_in92, cl_some, nm_b, nn_some, qn_some, qn_none, zk_0, zk_1, zk_n0, zk_n1, nI_add, pk_mul, pk_sub, nI_leE, nI_ltE, nI_eqE, nI_lt0, nI_ge0, nI_eq0, nI_gt0, nI_le0, ilt_t, ilt_f, ile_t, ile_f, ieq_t, ieq_f, if_tt, if_ff, Nat.add_sub_cancel]
    by_cases c2 : td + d ≤ 999
    · rw [if_pos c2, if_pos c2, if_pos c2]
      have hC0 : XC G X lo h0 c (upK (ovN S nt (ma S 1) 0) 3 (nI (td + 0))) ns nt np lk (td + 0) q := by
        show XC G X lo h0 c (upK (ma S 1) 3 (nI td)) ns nt np lk td q
        rw [← n2, upK_self]
        exact hC
      obtain ⟨c', r1, r2, r3⟩ := x_days30 (nx := nx) h10 c2 d 0 fuelL c (by omega) (by unfold fuelL; omega) hC0
      exact ⟨c', r1, r2.mono (fun k z => by unfold PK at z; unfold PD; omega), r3⟩
    · rw [if_neg c2, if_neg c2, if_neg c2]
      exact ⟨c, rfl, FrX.rf, hC⟩
set_option maxRecDepth 100000 in
set_option maxHeartbeats 1000000 in
theorem x_seen (hC : XC G X lo h0 c (ma S 1) ns nt np lk td q) (t : Int32) {w : Int32} (hw : w = nI 0 ∨ w = nI 1) : ∃ c' : CS, F_X11_seen G (encX G X c h0) nx X t w = some ((seenF S t w).1, encX G X c' h0, nx) ∧ FrX PD c c' ∧ XC G X lo h0 c' (seenF S t w).2 ns nt np lk td q := by
  have h5 := x_thC hC
  have h8 := x_nt8 hC
  have h1 : ma S 1 1 = nI nt := hC.2.2.2.2.1
  have eh := fun t => x_hasThing (G := G) (X := X) (h0 := h0) (nx := nx) h5 h8 (t := t)
  unfold F_X11_seen F_X11_seen_51 seenF
  rw [h1]
  simp (maxSteps := 3000000) (disch := omega) only [eh, xi_xsi_s, xi_xsi_n, xl_xsi, xa_xsi, xj_xsi, xr_xsi, xsi_xsi, xi_xsl, xl_xsl_s, xl_xsl_n, xa_xsl, xj_xsl, xr_xsl, xsl_xsl, xi_xsa, xl_xsa, xa_xsa_s, xa_xsa_n, xj_xsa, xr_xsa, xsa_xsa, xi_xsj, xl_xsj, xa_xsj, xj_xsj_s, xj_xsj_n, xr_xsj, xsj_xsj, xi_xsr, xl_xsr, xa_xsr, xj_xsr, xr_xsr_s, xr_xsr_n, xsr_xsr, xk_0, xg_0_0, xg_0_1, xg_0_2, xp_0_2, xg_0_3, xg_0_4, xg_0_5, xg_0_6, xk_1, xg_1_0, xg_1_1, xp_1_1, xg_1_2, xg_1_3, xp_1_3, xg_1_4, xg_1_5, xg_1_6, xg_1_7, xg_1_8, xg_1_9, xg_1_10, xg_1_11, xp_1_11, xg_1_12, xg_1_13, xg_1_14, xg_1_15, xp_1_15, xg_1_16, xp_1_16, xg_1_17, xp_1_17, xk_26, xg_26_0, xg_26_1, xp_26_1, xg_26_2, xg_26_3, xp_26_3, xg_26_4, xg_26_5, xg_26_6, xg_26_7, xg_26_8, xg_26_9, xg_26_10, xg_26_11, xp_26_11, xg_26_12, xg_26_13, xg_26_14, xg_26_15, xp_26_15, xg_26_16, xp_26_16, xg_26_17, xp_26_17, xk_51, xg_51_0, xg_51_1, xg_51_2, xg_51_3, xg_51_4, xg_51_5, xg_51_6, xg_51_7, xp_51_7, xg_51_8, xp_51_8, xk_90, xg_90_0, xg_90_1, xg_90_2, xg_90_3, xp_90_3, xg_90_4, xg_90_5, xp_90_5, xg_90_6, xg_90_7, xp_90_7, xg_90_8, xp_90_8, xg_90_9, xp_90_9, xg_90_10, xas_2, xal_2, xal_3, xas_4, xal_4, xln_4, xas_5, xal_5, xln_5, xas_6, xal_6, xln_6, xas_7, xal_7, xln_7, xas_8, xal_8, xln_8, xas_9, xal_9, xln_9, xas0_10, xas1_10, xasb_10, xal_10, xal_11, xas_12, xal_12, xln_12, xas_27, xal_27, xal_28, xas_29, xal_29, xln_29, xas_30, xal_30, xln_30, xas_31, xal_31, xln_31, xas_32, xal_32, xln_32, xas_33, xal_33, xln_33, xas_34, xal_34, xln_34, xas0_35, xas1_35, xasb_35, xal_35, xal_36, xas_37, xal_37, xln_37, xas_88, xal_88, xln_88, xal_89, xas_89, xln_89, xas_103, xal_103, xln_103, xas_104, xal_104, xln_104, xas_105, xal_105, xln_105, xas_106, xal_106, xln_106, xas_107, xal_107, xln_107, xal_13, xal_in14, xas_in14, xln_in14, xal_38, xal_in39, xas_in39, xln_in39, xal_52, xal_in53, xas_in53, xln_in53, xal_61, xal_in62, xas_in62, xln_in62, xal_70, xal_in71, xas_in71, xln_in71, xal_79, xal_in80, xas_in80, xln_in80, xal_91, xal_in92, xas_in92, xln_in92, cl_some, nm_b, nn_some, qn_some, qn_none, zk_0, zk_1, zk_n0, zk_n1, nI_add, pk_mul, pk_sub, nI_leE, nI_ltE, nI_eqE, nI_lt0, nI_ge0, nI_eq0, nI_gt0, nI_le0, ilt_t, ilt_f, ile_t, ile_f, ieq_t, ieq_f, if_tt, if_ff, Nat.add_sub_cancel]
  by_cases c1 : bIn t (nI 0) (nI nt - nI 1) = 0
  · rw [if_pos c1, if_pos c1]
    exact ⟨c, rfl, FrX.rf, hC⟩
  · rw [if_neg c1, if_neg c1]
    obtain ⟨t, ht, rfl⟩ := bIn_nI (by omega) c1
    rw [nI_clamp (by omega)]
    obtain ⟨t6, t7, t8, t9, t10⟩ := hC.T ht
    have pd : ∀ k, PL2 k → PD k := fun k z => by unfold PL2 at z; unfold PD; omega
    have fin : ∀ (x y : Int32), (x = nI 0 ∨ x = nI 1) → (y = nI 0 ∨ y = nI 1000000) → FrX PL2 c (xsa (xsa (xsa c 10 (upK (xa c 10) t x)) 6 (upK (xa c 6) t y)) 7 (upK (xa c 7) t (nI 0))) ∧ XC G X lo h0 (xsa (xsa (xsa c 10 (upK (xa c 10) t x)) 6 (upK (xa c 6) t y)) 7 (upK (xa c 7) t (nI 0))) (upK (upK (upK (ma S 1) (1034 + t) y) (1042 + t) (nI 0)) (1026 + t) x) ns nt np lk td q := by
      intro x y hx hy
      have f : FrX PL2 c (xsa (xsa (xsa c 10 (upK (xa c 10) t x)) 6 (upK (xa c 6) t y)) 7 (upK (xa c 7) t (nI 0))) := ((FrX.sa (P := PL2) (by unfold PL2; omega)).trans (FrX.sa (P := PL2) (by unfold PL2; omega)) (fun _ z => z) (fun _ z => z)).trans (FrX.sa (P := PL2) (by unfold PL2; omega)) (fun _ z => z) (fun _ z => z)
      refine ⟨f, hC.one (P := PL2) ht f (fun k z => by unfold PL2 at z; omega) (fun k h1 h2 h3 h4 h5 => by rw [upK_n h1, upK_n h3, upK_n h2]) (fun i hi => ?_) ?_ ?_⟩
      · rw [xa_xsa_n (by omega), xa_xsa_s, xa_xsa_s, xa_xsa_n (by omega), xa_xsa_n (by omega), xa_xsa_n (by omega), xa_xsa_n (by omega), xa_xsa_n (by omega), xa_xsa_n (by omega), xa_xsa_n (by omega), xa_xsa_n (by omega), xa_xsa_s, upK_n hi, upK_n hi, upK_n hi]
        exact ⟨rfl, rfl, rfl, rfl, rfl⟩
      · rw [xa_xsa_n (by omega), xa_xsa_s, xa_xsa_s, xa_xsa_n (by omega), xa_xsa_n (by omega), xa_xsa_n (by omega), xa_xsa_n (by omega), xa_xsa_n (by omega), xa_xsa_n (by omega), xa_xsa_n (by omega), xa_xsa_n (by omega), xa_xsa_s, upK_s, upK_s, upK_s, upK_s, upK_n (by omega), upK_n (by omega), upK_s, upK_n (by omega), upK_s, upK_n (by omega), upK_n (by omega), upK_n (by omega), upK_n (by omega), upK_n (by omega), upK_n (by omega)]
        exact ⟨rfl, rfl, t8, t9, rfl⟩
      · rw [upK_n (by omega), upK_n (by omega), upK_s, upK_n (by omega), upK_s, upK_s]
        refine ⟨?_, ⟨0, by omega, rfl⟩, hx⟩
        rcases hy with rfl | rfl
        · exact ⟨0, by omega, rfl⟩
        · exact ⟨1000000, by omega, rfl⟩
    rcases hw with rfl | rfl
    · obtain ⟨f, q⟩ := fin (nI 0) (nI 0) (Or.inl rfl) (Or.inl rfl)
      refine ⟨_, ?_, f.mono pd, q⟩
      simp (maxSteps := 3000000) (disch := omega) only [t6, xi_xsi_s, xi_xsi_n, xl_xsi, xa_xsi, xj_xsi, xr_xsi, xsi_xsi, xi_xsl, xl_xsl_s, xl_xsl_n, xa_xsl, xj_xsl, xr_xsl, xsl_xsl, xi_xsa, xl_xsa, xa_xsa_s, xa_xsa_n, xj_xsa, xr_xsa, xsa_xsa, xi_xsj, xl_xsj, xa_xsj, xj_xsj_s, xj_xsj_n, xr_xsj, xsj_xsj, xi_xsr, xl_xsr, xa_xsr, xj_xsr, xr_xsr_s, xr_xsr_n, xsr_xsr, xk_0, xg_0_0, xg_0_1, xg_0_2, xp_0_2, xg_0_3, xg_0_4, xg_0_5, xg_0_6, xk_1, xg_1_0, xg_1_1, xp_1_1, xg_1_2, xg_1_3, xp_1_3, xg_1_4, xg_1_5, xg_1_6, xg_1_7, xg_1_8, xg_1_9, xg_1_10, xg_1_11, xp_1_11, xg_1_12, xg_1_13, xg_1_14, xg_1_15, xp_1_15, xg_1_16, xp_1_16, xg_1_17, xp_1_17, xk_26, xg_26_0, xg_26_1, xp_26_1, xg_26_2, xg_26_3, xp_26_3, xg_26_4, xg_26_5, xg_26_6, xg_26_7, xg_26_8, xg_26_9, xg_26_10, xg_26_11, xp_26_11, xg_26_12, xg_26_13, xg_26_14, xg_26_15, xp_26_15, xg_26_16, xp_26_16, xg_26_17, xp_26_17, xk_51, xg_51_0, xg_51_1, xg_51_2, xg_51_3, xg_51_4, xg_51_5, xg_51_6, xg_51_7, xp_51_7, xg_51_8, xp_51_8, xk_90, xg_90_0, xg_90_1, xg_90_2, xg_90_3, xp_90_3, xg_90_4, xg_90_5, xp_90_5, xg_90_6, xg_90_7, xp_90_7, xg_90_8, xp_90_8, xg_90_9, xp_90_9, xg_90_10, xas_2, xal_2, xal_3, xas_4, xal_4, xln_4, xas_5, xal_5, xln_5, xas_6, xal_6, xln_6, xas_7, xal_7, xln_7, xas_8, xal_8, xln_8, xas_9, xal_9, xln_9, xas0_10, xas1_10, xasb_10, xal_10, xal_11, xas_12, xal_12, xln_12, xas_27, xal_27, xal_28, xas_29, xal_29, xln_29, xas_30, xal_30, xln_30, xas_31, xal_31, xln_31, xas_32, xal_32, xln_32, xas_33, xal_33, xln_33, xas_34, xal_34, xln_34, xas0_35, xas1_35, xasb_35, xal_35, xal_36, xas_37, xal_37, xln_37, xas_88, xal_88, xln_88, xal_89, xas_89, xln_89, xas_103, xal_103, xln_103, xas_104, xal_104, xln_104, xas_105, xal_105, xln_105, xas_106, xal_106, xln_106, xas_107, xal_107, xln_107, xal_13, xal_in14, xas_in14, xln_in14, xal_38, xal_in39, xas_in39, xln_in39, xal_52, xal_in53, xas_in53, xln_in53, xal_61, xal_in62, xas_in62, xln_in62, xal_70, xal_in71, xas_in71, xln_in71, xal_79, xal_in80, xas_in80, xln_in80, xal_91, xal_in92, xas_in92, xln_in92, cl_some, nm_b, nn_some, qn_some, qn_none, zk_0, zk_1, zk_n0, zk_n1, nI_add, pk_mul, pk_sub, nI_leE, nI_ltE, nI_eqE, nI_lt0, nI_ge0, nI_eq0, nI_gt0, nI_le0, ilt_t, ilt_f, ile_t, ile_f, ieq_t, ieq_f, if_tt, if_ff, Nat.add_sub_cancel]
    · obtain ⟨f, q⟩ := fin (nI 1) (nI 1000000) (Or.inr rfl) (Or.inr rfl)
      refine ⟨_, ?_, f.mono pd, q⟩
      simp (maxSteps := 3000000) (disch := omega) only [t6, xi_xsi_s, xi_xsi_n, xl_xsi, xa_xsi, xj_xsi, xr_xsi, xsi_xsi, xi_xsl, xl_xsl_s, xl_xsl_n, xa_xsl, xj_xsl, xr_xsl, xsl_xsl, xi_xsa, xl_xsa, xa_xsa_s, xa_xsa_n, xj_xsa, xr_xsa, xsa_xsa, xi_xsj, xl_xsj, xa_xsj, xj_xsj_s, xj_xsj_n, xr_xsj, xsj_xsj, xi_xsr, xl_xsr, xa_xsr, xj_xsr, xr_xsr_s, xr_xsr_n, xsr_xsr, xk_0, xg_0_0, xg_0_1, xg_0_2, xp_0_2, xg_0_3, xg_0_4, xg_0_5, xg_0_6, xk_1, xg_1_0, xg_1_1, xp_1_1, xg_1_2, xg_1_3, xp_1_3, xg_1_4, xg_1_5, xg_1_6, xg_1_7, xg_1_8, xg_1_9, xg_1_10, xg_1_11, xp_1_11, xg_1_12, xg_1_13, xg_1_14, xg_1_15, xp_1_15, xg_1_16, xp_1_16, xg_1_17, xp_1_17, xk_26, xg_26_0, xg_26_1, xp_26_1, xg_26_2, xg_26_3, xp_26_3, xg_26_4, xg_26_5, xg_26_6, xg_26_7, xg_26_8, xg_26_9, xg_26_10, xg_26_11, xp_26_11, xg_26_12, xg_26_13, xg_26_14, xg_26_15, xp_26_15, xg_26_16, xp_26_16, xg_26_17, xp_26_17, xk_51, xg_51_0, xg_51_1, xg_51_2, xg_51_3, xg_51_4, xg_51_5, xg_51_6, xg_51_7, xp_51_7, xg_51_8, xp_51_8, xk_90, xg_90_0, xg_90_1, xg_90_2, xg_90_3, xp_90_3, xg_90_4, xg_90_5, xp_90_5, xg_90_6, xg_90_7, xp_90_7, xg_90_8, xp_90_8, xg_90_9, xp_90_9, xg_90_10, xas_2, xal_2, xal_3, xas_4, xal_4, xln_4, xas_5, xal_5, xln_5, xas_6, xal_6, xln_6, xas_7, xal_7, xln_7, xas_8, xal_8, xln_8, xas_9, xal_9, xln_9, xas0_10, xas1_10, xasb_10, xal_10, xal_11, xas_12, xal_12, xln_12, xas_27, xal_27, xal_28, xas_29, xal_29, xln_29, xas_30, xal_30, xln_30, xas_31, xal_31, xln_31, xas_32, xal_32, xln_32, xas_33, xal_33, xln_33, xas_34, xal_34, xln_34, xas0_35, xas1_35, xasb_35, xal_35, xal_36, xas_37, xal_37, xln_37, xas_88, xal_88, xln_88, xal_89, xas_89, xln_89, xas_103, xal_103, xln_103, xas_104, xal_104, xln_104, xas_105, xal_105, xln_105, xas_106, xal_106, xln_106, xas_107, xal_107, xln_107, xal_13, xal_in14, xas_in14, xln_in14, xal_38, xal_in39, xas_in39, xln_in39, xal_52, xal_in53, xas_in53, xln_in53, xal_61, xal_in62, xas_in62, xln_in62, xal_70, xal_in71, xas_in71, xln_in71, xal_79, xal_in80, xas_in80, xln_in80, xal_91, xal_in92, xas_in92, xln_in92, cl_some, nm_b, nn_some, qn_some, qn_none, zk_0, zk_1, zk_n0, zk_n1, nI_add, pk_mul, pk_sub, nI_leE, nI_ltE, nI_eqE, nI_lt0, nI_ge0, nI_eq0, nI_gt0, nI_le0, ilt_t, ilt_f, ile_t, ile_f, ieq_t, ieq_f, if_tt, if_ff, Nat.add_sub_cancel]
end XRN
