/-! THE CLASS: runs -/
theorem lks_s {set : Int32} {s : Nat → Int32} {acc : Int64} {t : Nat} : lksF set s acc (t + 1) = if bitI set t = nI 1 then (lnF (lksF set s acc t).1 t, (lksF set s acc t).2 + lnA (lksF set s acc t).1 t) else ((lksF set s acc t).1, (lksF set s acc t).2 + 0) := rfl
theorem lks_1 {set : Int32} {s : Nat → Int32} {a b : Int64} : ∀ t, (lksF set s a t).1 = (lksF set s b t).1
  | 0 => rfl
  | t + 1 => by
    rw [lks_s, lks_s, lks_1 (a := a) (b := b) t]
    split <;> rfl
theorem lks_2 {set : Int32} {s : Nat → Int32} {a b : Int64} : ∀ t, (lksF set s (a + b) t).2 = (lksF set s a t).2 + b
  | 0 => rfl
  | t + 1 => by
    rw [lks_s, lks_s, lks_1 (a := a + b) (b := a) t]
    have ih := lks_2 (set := set) (s := s) (a := a) (b := b) t
    split
    · show (lksF set s (a + b) t).2 + lnA _ t = (lksF set s a t).2 + lnA _ t + b
      rw [ih, Int64.add_assoc, Int64.add_comm b, ← Int64.add_assoc]
    · show (lksF set s (a + b) t).2 + 0 = (lksF set s a t).2 + 0 + b
      rw [ih, Int64.add_zero, Int64.add_zero]
theorem wgs_2 {s : Nat → Int32} {b : Int64} : ∀ (t : Nat) (a : Int64), wgsF s t (a + b) = wgsF s t a + b
  | 0, _ => rfl
  | t + 1, a => by
    show wgsF s t (a + b) + _ = wgsF s t a + _ + b
    rw [wgs_2 t a, Int64.add_assoc, Int64.add_comm b, ← Int64.add_assoc]
theorem ln_keep {s : Nat → Int32} {t k : Nat} (h : ∀ i, i = 1026 ∨ i = 1034 ∨ i = 1042 ∨ i = 1050 ∨ i = 1058 → k ≠ i + t) : lnF s t k = s k := by
  unfold lnF shF lnC
  rw [upK_n (h 1026 (by omega)), upK_n (h 1042 (by omega)), upK_n (h 1034 (by omega))]
  split
  · exact upK_n (h 1050 (by omega))
  · exact upK_n (h 1058 (by omega))
theorem lks_keep {set : Int32} {s : Nat → Int32} {a : Int64} {j : Nat} (hj : j < 8) : ∀ t, t ≤ j → (lksF set s a t).1 (1026 + j) = s (1026 + j)
  | 0, _ => rfl
  | t + 1, h => by
    have ih := lks_keep (set := set) (s := s) (a := a) hj t (by omega)
    rw [lks_s]
    split
    · show lnF _ t (1026 + j) = _
      rw [ln_keep (fun i hi => by omega)]
      exact ih
    · exact ih
theorem neg_w {v : Nat} (hv : v ≤ 999) : 1000 * (-(nI v)).toInt64 = -1000 * (nI v).toInt64 := by
  have e : (-(nI v)).toInt64 = -((nI v).toInt64) := by
    refine i64_ext ?_
    have e1 : (nI v).toInt = (v : Int) := nI_toInt (by omega)
    have e2 : (lN v).toInt = (v : Int) := lN_toInt (by omega)
    rw [toI_w, fb_negI (by omega), nI_l (by omega), e1]
    rw [← Int64.zero_sub, fb_subL (by rw [e2]; show -9223372036854775808 ≤ (0 : Int) - v; omega) (by rw [e2]; show (0 : Int) - v < _; omega), e2]
    show -(v : Int) = 0 - v
    omega
  rw [e, Int64.mul_neg, Int64.neg_mul]
theorem pay_eq {x : Int64} {v r : Nat} (hv : v ≤ 999) (hr : r ≤ 999) : x - (1000 * (nI v).toInt64 + 1000 * (nI r).toInt64) = x + -1000 * (nI v + nI r).toInt64 := by
  rw [nI_add, nI_l (by omega), nI_l (by omega), nI_l (by omega), Int64.neg_mul, ← Int64.sub_eq_add_neg, lN_1000, lN_mul, lN_mul, lN_mul, lN_add, Nat.mul_add]
section XRU
variable {G : Gx} {X lo nx : Nat} {h0 : Hp} {c : CS} {S : MS} {s : Nat → Int32} {ns nt np lk td q : Nat}
theorem XC.ths (h : XC G X lo h0 c s ns nt np lk td q) {t : Nat} (ht : t < nt) : ∃ a p, XT G X lo h0 c s t a p := by
  have := XC.th (c := c) h ht
  exact this
theorem XC.thk (h : XC G X lo h0 c s ns nt np lk td q) {t : Nat} (ht : t < nt) : ThOk s t := x_ThOk (c := c) h ht
theorem vals_V {t a p : Nat} (hX : XT G X lo h0 c s t a p) {w : Nat} (hw : w < 4) : ∃ v, v ≤ 999 ∧ valF s t w = nI v ∧ valF s t w = s (140 + 4 * a + w) := by
  obtain ⟨_, ha, _, _, _, hs, _⟩ := hX
  obtain ⟨v, hv, ev⟩ := (hs c).val hw
  have e : valF s t w = s (140 + 4 * a + w) := by unfold valF; rw [ha]
  exact ⟨v, hv, e.trans ev, e⟩
set_option maxRecDepth 100000 in
set_option maxHeartbeats 1000000 in
theorem x_lookAt {t a p : Nat} (hC : XC G X lo h0 c s ns nt np lk td q) (ht : t < nt) (hX : XT G X lo h0 c s t a p) : ∃ c' : CS, F_X0_lookAt G (encX G X c h0) nx (X + 1) (nI t) p = some (if s (1026 + t) = nI 1 then 0 else 1000 * (valF s t 3).toInt64, encX G X c' h0, nx) ∧ FrX PL2 c c' ∧ XC G X lo h0 c' (lnF s t) ns nt np lk td q := by
  have h8 : nt ≤ 8 := hC.2.2.2.2.2.1
  obtain ⟨t6, t7, t8, t9, t10⟩ := hC.T ht
  have hs := hX.2.2.2.2.2.1
  have ck7 : ∀ (c2 : CS) {β : Type} {f : Nat → Option β}, ck (encX G X c2 h0) p [7] f = f 7 := fun c2 => x_ck7 (hs c2)
  obtain ⟨v3, hv3, ev3, e3⟩ := vals_V hX (w := 3) (by omega)
  have em : ∀ (c2 : CS), F_X7_mendCost G (encX G X c2 h0) nx p = some (1000 * (valF s t 3).toInt64, encX G X c2 h0, nx) := fun c2 => by rw [e3]; exact x_mendCost (hs c2)
  have ems : ∀ (c2 : CS), F_X7_mends G (encX G X c2 h0) nx p = some (if valF s t 3 ≤ 0 then nI 0 else nI 1, encX G X c2 h0, nx) := fun c2 => by rw [e3]; exact x_mends (hs c2)
  have evc : valF (lnC s t) t 3 = valF s t 3 := valF_agR (lnC_ag (by omega)) (hC.thk ht) (by omega)
  have lnk : ∀ k, k ≠ 1026 + t → k ≠ 1034 + t → k ≠ 1042 + t → k ≠ 1050 + t → k ≠ 1058 + t → lnF s t k = s k := fun k h1 h2 h3 h4 h5 => ln_keep (fun i hi => by omega)
  have f6 : ∀ (cc : CS) (x : Nat → Int32), FrX PL2 cc (xsa cc 6 x) := fun cc x => FrX.sa (P := PL2) (by unfold PL2; omega)
  have f7 : ∀ (cc : CS) (x : Nat → Int32), FrX PL2 cc (xsa cc 7 x) := fun cc x => FrX.sa (P := PL2) (by unfold PL2; omega)
  have f8 : ∀ (cc : CS) (x : Nat → Int32), FrX PL2 cc (xsa cc 8 x) := fun cc x => FrX.sa (P := PL2) (by unfold PL2; omega)
  have f9 : ∀ (cc : CS) (x : Nat → Int32), FrX PL2 cc (xsa cc 9 x) := fun cc x => FrX.sa (P := PL2) (by unfold PL2; omega)
  have f10 : ∀ (cc : CS) (x : Nat → Int32), FrX PL2 cc (xsa cc 10 x) := fun cc x => FrX.sa (P := PL2) (by unfold PL2; omega)
  unfold F_X0_lookAt F_X0_lookAt_74
  rcases (hC.V ht).2.2 with hw | hw
  · have hn : ¬ s (1026 + t) = nI 1 := by rw [hw]; decide
    have w10 : xa c 10 t = nI 0 := t10.trans hw
    have key : ∀ (x y : Int32), (x = nI 0 ∨ x = nI 1) → (y = nI 0 ∨ y = nI 1000000) → lnF s t (1026 + t) = x → lnF s t (1034 + t) = y → XC G X lo h0 (xsa (xsa (xsa (xsa c 7 (upK (xa c 7) t (nI 0))) 9 (upK (xa c 9) t (xa c 9 t + nI 1))) 10 (upK (xa c 10) t x)) 6 (upK (xa c 6) t y)) (lnF s t) ns nt np lk td q := by
      intro x y hx hy e26 e34
      have e42 : lnF s t (1042 + t) = nI 0 := by
        unfold lnF
        rw [upK_n (by omega)]
        unfold shF
        rw [upK_s]
      have e50 : lnF s t (1050 + t) = s (1050 + t) := by
        unfold lnF shF lnC
        rw [upK_n (by omega), upK_n (by omega), upK_n (by omega), if_neg hn, upK_n (by omega)]
      have e58 : lnF s t (1058 + t) = s (1058 + t) + nI 1 := by
        unfold lnF shF lnC
        rw [upK_n (by omega), upK_n (by omega), upK_n (by omega), if_neg hn, upK_s]
      refine hC.one (P := PL2) ht ((((f7 _ _).trans (f9 _ _) (fun _ z => z) (fun _ z => z)).trans (f10 _ _) (fun _ z => z) (fun _ z => z)).trans (f6 _ _) (fun _ z => z) (fun _ z => z)) (fun k z => by unfold PL2 at z; omega) lnk (fun i hi => ?_) ?_ ?_
      · simp (disch := omega) only [xa_xsa_s, xa_xsa_n, upK_n, and_self]
      · rw [e26, e34, e42, e50, e58]
        simp (disch := omega) only [xa_xsa_s, xa_xsa_n, upK_s, t8, t9, and_self]
      · rw [e26, e34, e42]
        refine ⟨?_, ⟨0, by omega, rfl⟩, hx⟩
        rcases hy with rfl | rfl
        · exact ⟨0, by omega, rfl⟩
        · exact ⟨1000000, by omega, rfl⟩
    by_cases c3 : valF s t 3 ≤ 0
    · have e26 : lnF s t (1026 + t) = nI 0 := by
        unfold lnF
        rw [upK_s, if_neg hn, if_pos c3]
      have e34 : lnF s t (1034 + t) = nI 0 := by
        unfold lnF
        rw [upK_n (by omega)]
        unfold shF
        rw [upK_n (by omega), upK_s, evc, if_neg hn, if_pos ⟨rfl, c3⟩]
      refine ⟨_, ?_, ((((f7 _ _).trans (f9 _ _) (fun _ z => z) (fun _ z => z)).trans (f10 _ _) (fun _ z => z) (fun _ z => z)).trans (f6 _ _) (fun _ z => z) (fun _ z => z)), key (nI 0) (nI 0) (Or.inl rfl) (Or.inl rfl) e26 e34⟩
      rw [if_neg hn]
      have ems2 : ∀ (c2 : CS), F_X7_mends G (encX G X c2 h0) nx p = some (nI 0, encX G X c2 h0, nx) := fun c2 => by rw [ems, if_pos c3]
      simp (maxSteps := 3000000) (disch := omega) only [w10, ck7, em, ems2, xi_xsi_s, xi_xsi_n, xl_xsi, xa_xsi, xj_xsi, xr_xsi, xsi_xsi, xi_xsl, xl_xsl_s, xl_xsl_n, xa_xsl, xj_xsl, xr_xsl, xsl_xsl, xi_xsa, xl_xsa, xa_xsa_s, xa_xsa_n, xj_xsa, xr_xsa, xsa_xsa, xi_xsj, xl_xsj, xa_xsj, xj_xsj_s, xj_xsj_n, xr_xsj, xsj_xsj, xi_xsr, xl_xsr, xa_xsr, xj_xsr, xr_xsr_s, xr_xsr_n, xsr_xsr, xk_0, xg_0_0, xg_0_1, xg_0_2, xp_0_2, xg_0_3, xg_0_4, xg_0_5, xg_0_6, xk_1, xg_1_0, xg_1_1, xp_1_1, xg_1_2, xg_1_3, xp_1_3, xg_1_4, xg_1_5, xg_1_6, xg_1_7, xg_1_8, xg_1_9, xg_1_10, xg_1_11, xp_1_11, xg_1_12, xg_1_13, xg_1_14, xg_1_15, xp_1_15, xg_1_16, xp_1_16, xg_1_17, xp_1_17, xk_26, xg_26_0, xg_26_1, xp_26_1, xg_26_2, xg_26_3, xp_26_3, xg_26_4, xg_26_5, xg_26_6, xg_26_7, xg_26_8, xg_26_9, xg_26_10, xg_26_11, xp_26_11, xg_26_12, xg_26_13, xg_26_14, xg_26_15, xp_26_15, xg_26_16, xp_26_16, xg_26_17, xp_26_17, xk_51, xg_51_0, xg_51_1, xg_51_2, xg_51_3, xg_51_4, xg_51_5, xg_51_6, xg_51_7, xp_51_7, xg_51_8, xp_51_8, xk_90, xg_90_0, xg_90_1, xg_90_2, xg_90_3, xp_90_3, xg_90_4, xg_90_5, xp_90_5, xg_90_6, xg_90_7, xp_90_7, xg_90_8, xp_90_8, xg_90_9, xp_90_9, xg_90_10, xas_2, xal_2, xal_3, xas_4, xal_4, xln_4, xas_5, xal_5, xln_5, xas_6, xal_6, xln_6, xas_7, xal_7, xln_7, xas_8, xal_8, xln_8, xas_9, xal_9, xln_9, xas0_10, xas1_10, xasb_10, xal_10, xal_11, xas_12, xal_12, xln_12, xas_27, xal_27, xal_28, xas_29, xal_29, xln_29, xas_30, xal_30, xln_30, xas_31, xal_31, xln_31, xas_32, xal_32, xln_32, xas_33, xal_33, xln_33, xas_34, xal_34, xln_34, xas0_35, xas1_35, xasb_35, xal_35, xal_36, xas_37, xal_37, xln_37, xas_88, xal_88, xln_88, xal_89, xas_89, xln_89, xas_103, xal_103, xln_103, xas_104, xal_104, xln_104, xas_105, xal_105, xln_105, xas_106, xal_106, xln_106, xas_107, xal_107, xln_107, xal_13, xal_in14, xas_in14, xln_in14, xal_38, xal_in39, xas_in39, xln_in39, xal_52, xal_in53, xas_in53, xln_in53, xal_61, xal_in62, xas_in62, xln_in62, xal_70, xal_in71, xas_in71, xln_in71, xal_79, xal_in80, xas_in80, xln_in80, xal_91, xal_in92, xas_in92, xln_in92, cl_some, nm_b, nn_some, qn_some, qn_none, zk_0, zk_1, zk_n0, zk_n1, nI_add, pk_mul, pk_sub, nI_leE, nI_ltE, nI_eqE, nI_lt0, nI_ge0, nI_eq0, nI_gt0, nI_le0, ilt_t, ilt_f, ile_t, ile_f, ieq_t, ieq_f, if_tt, if_ff, Nat.add_sub_cancel]
    · have e26 : lnF s t (1026 + t) = nI 1 := by
        unfold lnF
        rw [upK_s, if_neg hn, if_neg c3]
      have e34 : lnF s t (1034 + t) = nI 1000000 := by
        unfold lnF
        rw [upK_n (by omega)]
        unfold shF
        rw [upK_n (by omega), upK_s, evc, if_neg (fun z => c3 z.2)]
      refine ⟨_, ?_, ((((f7 _ _).trans (f9 _ _) (fun _ z => z) (fun _ z => z)).trans (f10 _ _) (fun _ z => z) (fun _ z => z)).trans (f6 _ _) (fun _ z => z) (fun _ z => z)), key (nI 1) (nI 1000000) (Or.inr rfl) (Or.inr rfl) e26 e34⟩
      rw [if_neg hn]
      have ems2 : ∀ (c2 : CS), F_X7_mends G (encX G X c2 h0) nx p = some (nI 1, encX G X c2 h0, nx) := fun c2 => by rw [ems, if_neg c3]
      simp (maxSteps := 3000000) (disch := omega) only [w10, ck7, em, ems2, xi_xsi_s, xi_xsi_n, xl_xsi, xa_xsi, xj_xsi, xr_xsi, xsi_xsi, xi_xsl, xl_xsl_s, xl_xsl_n, xa_xsl, xj_xsl, xr_xsl, xsl_xsl, xi_xsa, xl_xsa, xa_xsa_s, xa_xsa_n, xj_xsa, xr_xsa, xsa_xsa, xi_xsj, xl_xsj, xa_xsj, xj_xsj_s, xj_xsj_n, xr_xsj, xsj_xsj, xi_xsr, xl_xsr, xa_xsr, xj_xsr, xr_xsr_s, xr_xsr_n, xsr_xsr, xk_0, xg_0_0, xg_0_1, xg_0_2, xp_0_2, xg_0_3, xg_0_4, xg_0_5, xg_0_6, xk_1, xg_1_0, xg_1_1, xp_1_1, xg_1_2, xg_1_3, xp_1_3, xg_1_4, xg_1_5, xg_1_6, xg_1_7, xg_1_8, xg_1_9, xg_1_10, xg_1_11, xp_1_11, xg_1_12, xg_1_13, xg_1_14, xg_1_15, xp_1_15, xg_1_16, xp_1_16, xg_1_17, xp_1_17, xk_26, xg_26_0, xg_26_1, xp_26_1, xg_26_2, xg_26_3, xp_26_3, xg_26_4, xg_26_5, xg_26_6, xg_26_7, xg_26_8, xg_26_9, xg_26_10, xg_26_11, xp_26_11, xg_26_12, xg_26_13, xg_26_14, xg_26_15, xp_26_15, xg_26_16, xp_26_16, xg_26_17, xp_26_17, xk_51, xg_51_0, xg_51_1, xg_51_2, xg_51_3, xg_51_4, xg_51_5, xg_51_6, xg_51_7, xp_51_7, xg_51_8, xp_51_8, xk_90, xg_90_0, xg_90_1, xg_90_2, xg_90_3, xp_90_3, xg_90_4, xg_90_5, xp_90_5, xg_90_6, xg_90_7, xp_90_7, xg_90_8, xp_90_8, xg_90_9, xp_90_9, xg_90_10, xas_2, xal_2, xal_3, xas_4, xal_4, xln_4, xas_5, xal_5, xln_5, xas_6, xal_6, xln_6, xas_7, xal_7, xln_7, xas_8, xal_8, xln_8, xas_9, xal_9, xln_9, xas0_10, xas1_10, xasb_10, xal_10, xal_11, xas_12, xal_12, xln_12, xas_27, xal_27, xal_28, xas_29, xal_29, xln_29, xas_30, xal_30, xln_30, xas_31, xal_31, xln_31, xas_32, xal_32, xln_32, xas_33, xal_33, xln_33, xas_34, xal_34, xln_34, xas0_35, xas1_35, xasb_35, xal_35, xal_36, xas_37, xal_37, xln_37, xas_88, xal_88, xln_88, xal_89, xas_89, xln_89, xas_103, xal_103, xln_103, xas_104, xal_104, xln_104, xas_105, xal_105, xln_105, xas_106, xal_106, xln_106, xas_107, xal_107, xln_107, xal_13, xal_in14, xas_in14, xln_in14, xal_38, xal_in39, xas_in39, xln_in39, xal_52, xal_in53, xas_in53, xln_in53, xal_61, xal_in62, xas_in62, xln_in62, xal_70, xal_in71, xas_in71, xln_in71, xal_79, xal_in80, xas_in80, xln_in80, xal_91, xal_in92, xas_in92, xln_in92, cl_some, nm_b, nn_some, qn_some, qn_none, zk_0, zk_1, zk_n0, zk_n1, nI_add, pk_mul, pk_sub, nI_leE, nI_ltE, nI_eqE, nI_lt0, nI_ge0, nI_eq0, nI_gt0, nI_le0, ilt_t, ilt_f, ile_t, ile_f, ieq_t, ieq_f, if_tt, if_ff, Nat.add_sub_cancel]
  · have w10 : xa c 10 t = nI 1 := t10.trans hw
    have e26 : lnF s t (1026 + t) = nI 1 := by
      unfold lnF
      rw [upK_s, if_pos hw]
    have e34 : lnF s t (1034 + t) = nI 1000000 := by
      unfold lnF
      rw [upK_n (by omega)]
      unfold shF
      rw [upK_n (by omega), upK_s, if_neg (fun z => by rw [if_pos hw] at z; exact absurd z.1 (by decide))]
    have e42 : lnF s t (1042 + t) = nI 0 := by
      unfold lnF
      rw [upK_n (by omega)]
      unfold shF
      rw [upK_s]
    have e50 : lnF s t (1050 + t) = s (1050 + t) + nI 1 := by
      unfold lnF shF lnC
      rw [upK_n (by omega), upK_n (by omega), upK_n (by omega), if_pos hw, upK_s]
    have e58 : lnF s t (1058 + t) = s (1058 + t) := by
      unfold lnF shF lnC
      rw [upK_n (by omega), upK_n (by omega), upK_n (by omega), if_pos hw, upK_n (by omega)]
    have f : FrX PL2 c (xsa (xsa (xsa c 7 (upK (xa c 7) t (nI 0))) 8 (upK (xa c 8) t (xa c 8 t + nI 1))) 6 (upK (xa c 6) t (nI 1000000))) := ((f7 _ _).trans (f8 _ _) (fun _ z => z) (fun _ z => z)).trans (f6 _ _) (fun _ z => z) (fun _ z => z)
    refine ⟨xsa (xsa (xsa c 7 (upK (xa c 7) t (nI 0))) 8 (upK (xa c 8) t (xa c 8 t + nI 1))) 6 (upK (xa c 6) t (nI 1000000)), ?_, f, ?_⟩
    · rw [if_pos hw]
      simp (maxSteps := 3000000) (disch := omega) only [w10, xi_xsi_s, xi_xsi_n, xl_xsi, xa_xsi, xj_xsi, xr_xsi, xsi_xsi, xi_xsl, xl_xsl_s, xl_xsl_n, xa_xsl, xj_xsl, xr_xsl, xsl_xsl, xi_xsa, xl_xsa, xa_xsa_s, xa_xsa_n, xj_xsa, xr_xsa, xsa_xsa, xi_xsj, xl_xsj, xa_xsj, xj_xsj_s, xj_xsj_n, xr_xsj, xsj_xsj, xi_xsr, xl_xsr, xa_xsr, xj_xsr, xr_xsr_s, xr_xsr_n, xsr_xsr, xk_0, xg_0_0, xg_0_1, xg_0_2, xp_0_2, xg_0_3, xg_0_4, xg_0_5, xg_0_6, xk_1, xg_1_0, xg_1_1, xp_1_1, xg_1_2, xg_1_3, xp_1_3, xg_1_4, xg_1_5, xg_1_6, xg_1_7, xg_1_8, xg_1_9, xg_1_10, xg_1_11, xp_1_11, xg_1_12, xg_1_13, xg_1_14, xg_1_15, xp_1_15, xg_1_16, xp_1_16, xg_1_17, xp_1_17, xk_26, xg_26_0, xg_26_1, xp_26_1, xg_26_2, xg_26_3, xp_26_3, xg_26_4, xg_26_5, xg_26_6, xg_26_7, xg_26_8, xg_26_9, xg_26_10, xg_26_11, xp_26_11, xg_26_12, xg_26_13, xg_26_14, xg_26_15, xp_26_15, xg_26_16, xp_26_16, xg_26_17, xp_26_17, xk_51, xg_51_0, xg_51_1, xg_51_2, xg_51_3, xg_51_4, xg_51_5, xg_51_6, xg_51_7, xp_51_7, xg_51_8, xp_51_8, xk_90, xg_90_0, xg_90_1, xg_90_2, xg_90_3, xp_90_3, xg_90_4, xg_90_5, xp_90_5, xg_90_6, xg_90_7, xp_90_7, xg_90_8, xp_90_8, xg_90_9, xp_90_9, xg_90_10, xas_2, xal_2, xal_3, xas_4, xal_4, xln_4, xas_5, xal_5, xln_5, xas_6, xal_6, xln_6, xas_7, xal_7, xln_7, xas_8, xal_8, xln_8, xas_9, xal_9, xln_9, xas0_10, xas1_10, xasb_10, xal_10, xal_11, xas_12, xal_12, xln_12, xas_27, xal_27, xal_28, xas_29, xal_29, xln_29, xas_30, xal_30, xln_30, xas_31, xal_31, xln_31, xas_32, xal_32, xln_32, xas_33, xal_33, xln_33, xas_34, xal_34, xln_34, xas0_35, xas1_35, xasb_35, xal_35, xal_36, xas_37, xal_37, xln_37, xas_88, xal_88, xln_88, xal_89, xas_89, xln_89, xas_103, xal_103, xln_103, xas_104, xal_104, xln_104, xas_105, xal_105, xln_105, xas_106, xal_106, xln_106, xas_107, xal_107, xln_107, xal_13, xal_in14, xas_in14, xln_in14, xal_38, xal_in39, xas_in39, xln_in39, xal_52, xal_in53, xas_in53, xln_in53, xal_61, xal_in62, xas_in62, xln_in62, xal_70, xal_in71, xas_in71, xln_in71, xal_79, xal_in80, xas_in80, xln_in80, xal_91, xal_in92, xas_in92, xln_in92, cl_some, nm_b, nn_some, qn_some, qn_none, zk_0, zk_1, zk_n0, zk_n1, nI_add, pk_mul, pk_sub, nI_leE, nI_ltE, nI_eqE, nI_lt0, nI_ge0, nI_eq0, nI_gt0, nI_le0, ilt_t, ilt_f, ile_t, ile_f, ieq_t, ieq_f, if_tt, if_ff, Nat.add_sub_cancel]
    · refine hC.one (P := PL2) ht f (fun k z => by unfold PL2 at z; omega) lnk (fun i hi => ?_) ?_ ?_
      · simp (disch := omega) only [xa_xsa_s, xa_xsa_n, upK_n, and_self]
      · rw [e26, e34, e42, e50, e58]
        simp (disch := omega) only [xa_xsa_s, xa_xsa_n, upK_s, t8, t9, w10, and_self]
      · rw [e26, e34, e42]
        exact ⟨⟨1000000, by omega, rfl⟩, ⟨0, by omega, rfl⟩, Or.inr rfl⟩
set_option maxRecDepth 100000 in
set_option maxHeartbeats 1000000 in
theorem x_lap5 {set : Int32} {acc : Int64} (hth : ∀ t, t < nt → ThOk s t) : ∀ (r t m : Nat) (c : CS), t + r = nt → r < m → XC G X lo h0 c (lksF set s 0 t).1 ns nt np lk td q → ∃ c' : CS, F_X0_lookAndPay_5 G m (encX G X c h0) nx (X + 1) set (lksF set s (wgsF s t acc) t).2 (nI t) = some ((lksF set s (wgsF s nt acc) nt).2, encX G X c' h0, nx) ∧ FrX PL2 c c' ∧ XC G X lo h0 c' (lksF set s 0 nt).1 ns nt np lk td q := by
  intro r
  induction r with
  | zero =>
    intro t m c ht hm hC
    obtain ⟨m, rfl⟩ : ∃ q, m = q + 1 := ⟨m - 1, by omega⟩
    obtain rfl : t = nt := by omega
    have h8 : t ≤ 8 := hC.2.2.2.2.2.1
    have h5 : xi c 113 = nI t := hC.2.1.1.2.2.1.trans hC.2.2.2.2.1
    refine ⟨c, ?_, FrX.rf, hC⟩
    rw [F_X0_lookAndPay_5_s]
    simp (maxSteps := 3000000) (disch := omega) only [h5, xi_xsi_s, xi_xsi_n, xl_xsi, xa_xsi, xj_xsi, xr_xsi, xsi_xsi, xi_xsl, xl_xsl_s, xl_xsl_n, xa_xsl, xj_xsl, xr_xsl, xsl_xsl, xi_xsa, xl_xsa, xa_xsa_s, xa_xsa_n, xj_xsa, xr_xsa, xsa_xsa, xi_xsj, xl_xsj, xa_xsj, xj_xsj_s, xj_xsj_n, xr_xsj, xsj_xsj, xi_xsr, xl_xsr, xa_xsr, xj_xsr, xr_xsr_s, xr_xsr_n, xsr_xsr, xk_0, xg_0_0, xg_0_1, xg_0_2, xp_0_2, xg_0_3, xg_0_4, xg_0_5, xg_0_6, xk_1, xg_1_0, xg_1_1, xp_1_1, xg_1_2, xg_1_3, xp_1_3, xg_1_4, xg_1_5, xg_1_6, xg_1_7, xg_1_8, xg_1_9, xg_1_10, xg_1_11, xp_1_11, xg_1_12, xg_1_13, xg_1_14, xg_1_15, xp_1_15, xg_1_16, xp_1_16, xg_1_17, xp_1_17, xk_26, xg_26_0, xg_26_1, xp_26_1, xg_26_2, xg_26_3, xp_26_3, xg_26_4, xg_26_5, xg_26_6, xg_26_7, xg_26_8, xg_26_9, xg_26_10, xg_26_11, xp_26_11, xg_26_12, xg_26_13, xg_26_14, xg_26_15, xp_26_15, xg_26_16, xp_26_16, xg_26_17, xp_26_17, xk_51, xg_51_0, xg_51_1, xg_51_2, xg_51_3, xg_51_4, xg_51_5, xg_51_6, xg_51_7, xp_51_7, xg_51_8, xp_51_8, xk_90, xg_90_0, xg_90_1, xg_90_2, xg_90_3, xp_90_3, xg_90_4, xg_90_5, xp_90_5, xg_90_6, xg_90_7, xp_90_7, xg_90_8, xp_90_8, xg_90_9, xp_90_9, xg_90_10, xas_2, xal_2, xal_3, xas_4, xal_4, xln_4, xas_5, xal_5, xln_5, xas_6, xal_6, xln_6, xas_7, xal_7, xln_7, xas_8, xal_8, xln_8, xas_9, xal_9, xln_9, xas0_10, xas1_10, xasb_10, xal_10, xal_11, xas_12, xal_12, xln_12, xas_27, xal_27, xal_28, xas_29, xal_29, xln_29, xas_30, xal_30, xln_30, xas_31, xal_31, xln_31, xas_32, xal_32, xln_32, xas_33, xal_33, xln_33, xas_34, xal_34, xln_34, xas0_35, xas1_35, xasb_35, xal_35, xal_36, xas_37, xal_37, xln_37, xas_88, xal_88, xln_88, xal_89, xas_89, xln_89, xas_103, xal_103, xln_103, xas_104, xal_104, xln_104, xas_105, xal_105, xln_105, xas_106, xal_106, xln_106, xas_107, xal_107, xln_107, xal_13, xal_in14, xas_in14, xln_in14, xal_38, xal_in39, xas_in39, xln_in39, xal_52, xal_in53, xas_in53, xln_in53, xal_61, xal_in62, xas_in62, xln_in62, xal_70, xal_in71, xas_in71, xln_in71, xal_79, xal_in80, xas_in80, xln_in80, xal_91, xal_in92, xas_in92, xln_in92, cl_some, nm_b, nn_some, qn_some, qn_none, zk_0, zk_1, zk_n0, zk_n1, nI_add, pk_mul, pk_sub, nI_leE, nI_ltE, nI_eqE, nI_lt0, nI_ge0, nI_eq0, nI_gt0, nI_le0, ilt_t, ilt_f, ile_t, ile_f, ieq_t, ieq_f, if_tt, if_ff, Nat.add_sub_cancel]
  | succ r ih =>
    intro t m c ht hm hC
    obtain ⟨m, rfl⟩ : ∃ q, m = q + 1 := ⟨m - 1, by omega⟩
    have h8 : nt ≤ 8 := hC.2.2.2.2.2.1
    have h5 : xi c 113 = nI nt := hC.2.1.1.2.2.1.trans hC.2.2.2.2.1
    have htn : t < nt := by omega
    obtain ⟨a, p, hX⟩ := hC.ths htn
    obtain ⟨t6, t7, t8, t9, t10⟩ := hC.T htn
    have hs := hX.2.2.2.2.2.1
    have es := x_sortAt (nx := nx) hX (by omega)
    have ck7 : ∀ (c2 : CS) {β : Type} {f : Nat → Option β}, ck (encX G X c2 h0) p [7] f = f 7 := fun c2 => x_ck7 (hs c2)
    have ag := (lks_ag (set := set) (s := s) (acc := 0) (t := t) (by omega)).1
    have ek := lks_keep (set := set) (s := s) (a := 0) (j := t) (by omega) t (Nat.le_refl _)
    have el1 : ∀ b, (lksF set s b t).1 = (lksF set s 0 t).1 := fun b => lks_1 t
    obtain ⟨v0, hv0, ev0, e0⟩ := vals_V hX (w := 0) (by omega)
    obtain ⟨v1, hv1, ev1, e1⟩ := vals_V hX (w := 1) (by omega)
    obtain ⟨v2, hv2, ev2, e2⟩ := vals_V hX (w := 2) (by omega)
    obtain ⟨v3, hv3, ev3, e3⟩ := vals_V hX (w := 3) (by omega)
    have va : ∀ w, w < 4 → valF (lksF set s 0 t).1 t w = valF s t w := fun w hw => valF_agR ag (hth t htn) hw
    have l2 : ∀ {β : Type} {f : Int32 → Option β}, (gfR (encX G X c h0) p [7] 0 fun v => nn v fun q => alI (g_c G 0) (encX G X c h0) q (nI 2) f) = f (nI v0) := fun {β f} => (x_last2 (hs c) (w := 0) (by omega)).trans (by rw [← e0, ev0])
    have l3 : ∀ {β : Type} {f : Int32 → Option β}, (gfR (encX G X c h0) p [7] 0 fun v => nn v fun q => alI (g_c G 0) (encX G X c h0) q (nI 3) f) = f (nI v1) := fun {β f} => (x_last2 (hs c) (w := 1) (by omega)).trans (by rw [← e1, ev1])
    have elc : F_X7_lookCost G (encX G X c h0) nx p = some (1000 * (nI v2).toInt64, encX G X c h0, nx) := by rw [← ev2, e2]; exact x_lookCost (hs c)
    -- the sums
    have ew : wgsF s (t + 1) acc = wgsF s t acc + (if s (1026 + t) = nI 1 then 1000 * (nI v0).toInt64 else -1000 * (nI v1).toInt64) := by
      rw [← ev0, ← ev1, va 0 (by omega), va 1 (by omega)]
      rfl
    have es2 : ∀ W : Int64, wgsF s (t + 1) acc = wgsF s t acc + W → (lksF set s (wgsF s (t + 1) acc) (t + 1)).2 = if bitI set t = nI 1 then (lksF set s (wgsF s t acc) t).2 + W + lnA (lksF set s 0 t).1 t else (lksF set s (wgsF s t acc) t).2 + W := by
      intro W hW
      rw [lks_s, hW]
      split
      · show (lksF set s (wgsF s t acc + W) t).2 + lnA _ t = _
        rw [lks_2, el1]
      · show (lksF set s (wgsF s t acc + W) t).2 + 0 = _
        rw [lks_2, Int64.add_zero]
    have e1s : (lksF set s 0 (t + 1)).1 = if bitI set t = nI 1 then lnF (lksF set s 0 t).1 t else (lksF set s 0 t).1 := by
      rw [lks_s]
      split <;> rfl
    have eA : lnA (lksF set s 0 t).1 t = -1000 * (nI v2 + (if s (1026 + t) = nI 1 then nI 0 else nI v3)).toInt64 := by
      unfold lnA
      rw [ev2, ev3, ek]
    generalize (lksF set s (wgsF s t acc) t).2 = L at *
    generalize hrow : (lksF set s 0 t).1 = row at *
    rw [F_X0_lookAndPay_5_s]
    unfold F_X0_lookAndPay_54 F_X0_lookAndPay_85
    by_cases cb : bitI set t = nI 1
    · have cb' : set >>> (nI t &&& 31) &&& nI 1 = nI 1 := cb
      obtain ⟨c2, r2, f2, hC2⟩ := x_lookAt (nx := nx) hC htn hX
      rw [if_pos cb] at e1s
      rw [ek, ev3] at r2
      rw [← e1s] at hC2
      obtain ⟨c', r1, f1, hC3⟩ := ih (t + 1) m c2 (by omega) (by omega) hC2
      refine ⟨c', ?_, f2.trans f1 (fun _ z => z) (fun _ z => z), hC3⟩
      rcases (hC.V htn).2.2 with hw | hw
      · have hn : ¬ s (1026 + t) = nI 1 := by rw [← ek, hw]; decide
        have w10 : xa c 10 t = nI 0 := t10.trans hw
        rw [if_neg hn] at ew r2 eA
        rw [es2 _ ew, if_pos cb, eA, ← pay_eq hv2 hv3, ← neg_w hv1] at r1
        simp (maxSteps := 3000000) (disch := omega) only [h5, es, w10, l3, cb', ck7, elc, r2, xi_xsi_s, xi_xsi_n, xl_xsi, xa_xsi, xj_xsi, xr_xsi, xsi_xsi, xi_xsl, xl_xsl_s, xl_xsl_n, xa_xsl, xj_xsl, xr_xsl, xsl_xsl, xi_xsa, xl_xsa, xa_xsa_s, xa_xsa_n, xj_xsa, xr_xsa, xsa_xsa, xi_xsj, xl_xsj, xa_xsj, xj_xsj_s, xj_xsj_n, xr_xsj, xsj_xsj, xi_xsr, xl_xsr, xa_xsr, xj_xsr, xr_xsr_s, xr_xsr_n, xsr_xsr, xk_0, xg_0_0, xg_0_1, xg_0_2, xp_0_2, xg_0_3, xg_0_4, xg_0_5, xg_0_6, xk_1, xg_1_0, xg_1_1, xp_1_1, xg_1_2, xg_1_3, xp_1_3, xg_1_4, xg_1_5, xg_1_6, xg_1_7, xg_1_8, xg_1_9, xg_1_10, xg_1_11, xp_1_11, xg_1_12, xg_1_13, xg_1_14, xg_1_15, xp_1_15, xg_1_16, xp_1_16, xg_1_17, xp_1_17, xk_26, xg_26_0, xg_26_1, xp_26_1, xg_26_2, xg_26_3, xp_26_3, xg_26_4, xg_26_5, xg_26_6, xg_26_7, xg_26_8, xg_26_9, xg_26_10, xg_26_11, xp_26_11, xg_26_12, xg_26_13, xg_26_14, xg_26_15, xp_26_15, xg_26_16, xp_26_16, xg_26_17, xp_26_17, xk_51, xg_51_0, xg_51_1, xg_51_2, xg_51_3, xg_51_4, xg_51_5, xg_51_6, xg_51_7, xp_51_7, xg_51_8, xp_51_8, xk_90, xg_90_0, xg_90_1, xg_90_2, xg_90_3, xp_90_3, xg_90_4, xg_90_5, xp_90_5, xg_90_6, xg_90_7, xp_90_7, xg_90_8, xp_90_8, xg_90_9, xp_90_9, xg_90_10, xas_2, xal_2, xal_3, xas_4, xal_4, xln_4, xas_5, xal_5, xln_5, xas_6, xal_6, xln_6, xas_7, xal_7, xln_7, xas_8, xal_8, xln_8, xas_9, xal_9, xln_9, xas0_10, xas1_10, xasb_10, xal_10, xal_11, xas_12, xal_12, xln_12, xas_27, xal_27, xal_28, xas_29, xal_29, xln_29, xas_30, xal_30, xln_30, xas_31, xal_31, xln_31, xas_32, xal_32, xln_32, xas_33, xal_33, xln_33, xas_34, xal_34, xln_34, xas0_35, xas1_35, xasb_35, xal_35, xal_36, xas_37, xal_37, xln_37, xas_88, xal_88, xln_88, xal_89, xas_89, xln_89, xas_103, xal_103, xln_103, xas_104, xal_104, xln_104, xas_105, xal_105, xln_105, xas_106, xal_106, xln_106, xas_107, xal_107, xln_107, xal_13, xal_in14, xas_in14, xln_in14, xal_38, xal_in39, xas_in39, xln_in39, xal_52, xal_in53, xas_in53, xln_in53, xal_61, xal_in62, xas_in62, xln_in62, xal_70, xal_in71, xas_in71, xln_in71, xal_79, xal_in80, xas_in80, xln_in80, xal_91, xal_in92, xas_in92, xln_in92, cl_some, nm_b, nn_some, qn_some, qn_none, zk_0, zk_1, zk_n0, zk_n1, nI_add, pk_mul, pk_sub, nI_leE, nI_ltE, nI_eqE, nI_lt0, nI_ge0, nI_eq0, nI_gt0, nI_le0, ilt_t, ilt_f, ile_t, ile_f, ieq_t, ieq_f, if_tt, if_ff, Nat.add_sub_cancel]
        exact r1
      · have hn : s (1026 + t) = nI 1 := by rw [← ek, hw]
        have w10 : xa c 10 t = nI 1 := t10.trans hw
        rw [if_pos hn] at ew r2 eA
        have z0 : (0 : Int64) = 1000 * (nI 0).toInt64 := by decide
        rw [z0] at r2
        rw [es2 _ ew, if_pos cb, eA, ← pay_eq hv2 (by omega)] at r1
        simp (maxSteps := 3000000) (disch := omega) only [h5, es, w10, l2, cb', ck7, elc, r2, xi_xsi_s, xi_xsi_n, xl_xsi, xa_xsi, xj_xsi, xr_xsi, xsi_xsi, xi_xsl, xl_xsl_s, xl_xsl_n, xa_xsl, xj_xsl, xr_xsl, xsl_xsl, xi_xsa, xl_xsa, xa_xsa_s, xa_xsa_n, xj_xsa, xr_xsa, xsa_xsa, xi_xsj, xl_xsj, xa_xsj, xj_xsj_s, xj_xsj_n, xr_xsj, xsj_xsj, xi_xsr, xl_xsr, xa_xsr, xj_xsr, xr_xsr_s, xr_xsr_n, xsr_xsr, xk_0, xg_0_0, xg_0_1, xg_0_2, xp_0_2, xg_0_3, xg_0_4, xg_0_5, xg_0_6, xk_1, xg_1_0, xg_1_1, xp_1_1, xg_1_2, xg_1_3, xp_1_3, xg_1_4, xg_1_5, xg_1_6, xg_1_7, xg_1_8, xg_1_9, xg_1_10, xg_1_11, xp_1_11, xg_1_12, xg_1_13, xg_1_14, xg_1_15, xp_1_15, xg_1_16, xp_1_16, xg_1_17, xp_1_17, xk_26, xg_26_0, xg_26_1, xp_26_1, xg_26_2, xg_26_3, xp_26_3, xg_26_4, xg_26_5, xg_26_6, xg_26_7, xg_26_8, xg_26_9, xg_26_10, xg_26_11, xp_26_11, xg_26_12, xg_26_13, xg_26_14, xg_26_15, xp_26_15, xg_26_16, xp_26_16, xg_26_17, xp_26_17, xk_51, xg_51_0, xg_51_1, xg_51_2, xg_51_3, xg_51_4, xg_51_5, xg_51_6, xg_51_7, xp_51_7, xg_51_8, xp_51_8, xk_90, xg_90_0, xg_90_1, xg_90_2, xg_90_3, xp_90_3, xg_90_4, xg_90_5, xp_90_5, xg_90_6, xg_90_7, xp_90_7, xg_90_8, xp_90_8, xg_90_9, xp_90_9, xg_90_10, xas_2, xal_2, xal_3, xas_4, xal_4, xln_4, xas_5, xal_5, xln_5, xas_6, xal_6, xln_6, xas_7, xal_7, xln_7, xas_8, xal_8, xln_8, xas_9, xal_9, xln_9, xas0_10, xas1_10, xasb_10, xal_10, xal_11, xas_12, xal_12, xln_12, xas_27, xal_27, xal_28, xas_29, xal_29, xln_29, xas_30, xal_30, xln_30, xas_31, xal_31, xln_31, xas_32, xal_32, xln_32, xas_33, xal_33, xln_33, xas_34, xal_34, xln_34, xas0_35, xas1_35, xasb_35, xal_35, xal_36, xas_37, xal_37, xln_37, xas_88, xal_88, xln_88, xal_89, xas_89, xln_89, xas_103, xal_103, xln_103, xas_104, xal_104, xln_104, xas_105, xal_105, xln_105, xas_106, xal_106, xln_106, xas_107, xal_107, xln_107, xal_13, xal_in14, xas_in14, xln_in14, xal_38, xal_in39, xas_in39, xln_in39, xal_52, xal_in53, xas_in53, xln_in53, xal_61, xal_in62, xas_in62, xln_in62, xal_70, xal_in71, xas_in71, xln_in71, xal_79, xal_in80, xas_in80, xln_in80, xal_91, xal_in92, xas_in92, xln_in92, cl_some, nm_b, nn_some, qn_some, qn_none, zk_0, zk_1, zk_n0, zk_n1, nI_add, pk_mul, pk_sub, nI_leE, nI_ltE, nI_eqE, nI_lt0, nI_ge0, nI_eq0, nI_gt0, nI_le0, ilt_t, ilt_f, ile_t, ile_f, ieq_t, ieq_f, if_tt, if_ff, Nat.add_sub_cancel]
        exact r1
    · have cb' : ¬ set >>> (nI t &&& 31) &&& nI 1 = nI 1 := cb
      rw [if_neg cb] at e1s
      obtain ⟨c', r1, f1, hC3⟩ := ih (t + 1) m c (by omega) (by omega) (by rw [e1s]; exact hC)
      refine ⟨c', ?_, f1, hC3⟩
      rcases (hC.V htn).2.2 with hw | hw
      · have hn : ¬ s (1026 + t) = nI 1 := by rw [← ek, hw]; decide
        have w10 : xa c 10 t = nI 0 := t10.trans hw
        rw [if_neg hn] at ew
        rw [es2 _ ew, if_neg cb, ← neg_w hv1] at r1
        simp (maxSteps := 3000000) (disch := omega) only [h5, es, w10, l3, cb', ck7, xi_xsi_s, xi_xsi_n, xl_xsi, xa_xsi, xj_xsi, xr_xsi, xsi_xsi, xi_xsl, xl_xsl_s, xl_xsl_n, xa_xsl, xj_xsl, xr_xsl, xsl_xsl, xi_xsa, xl_xsa, xa_xsa_s, xa_xsa_n, xj_xsa, xr_xsa, xsa_xsa, xi_xsj, xl_xsj, xa_xsj, xj_xsj_s, xj_xsj_n, xr_xsj, xsj_xsj, xi_xsr, xl_xsr, xa_xsr, xj_xsr, xr_xsr_s, xr_xsr_n, xsr_xsr, xk_0, xg_0_0, xg_0_1, xg_0_2, xp_0_2, xg_0_3, xg_0_4, xg_0_5, xg_0_6, xk_1, xg_1_0, xg_1_1, xp_1_1, xg_1_2, xg_1_3, xp_1_3, xg_1_4, xg_1_5, xg_1_6, xg_1_7, xg_1_8, xg_1_9, xg_1_10, xg_1_11, xp_1_11, xg_1_12, xg_1_13, xg_1_14, xg_1_15, xp_1_15, xg_1_16, xp_1_16, xg_1_17, xp_1_17, xk_26, xg_26_0, xg_26_1, xp_26_1, xg_26_2, xg_26_3, xp_26_3, xg_26_4, xg_26_5, xg_26_6, xg_26_7, xg_26_8, xg_26_9, xg_26_10, xg_26_11, xp_26_11, xg_26_12, xg_26_13, xg_26_14, xg_26_15, xp_26_15, xg_26_16, xp_26_16, xg_26_17, xp_26_17, xk_51, xg_51_0, xg_51_1, xg_51_2, xg_51_3, xg_51_4, xg_51_5, xg_51_6, xg_51_7, xp_51_7, xg_51_8, xp_51_8, xk_90, xg_90_0, xg_90_1, xg_90_2, xg_90_3, xp_90_3, xg_90_4, xg_90_5, xp_90_5, xg_90_6, xg_90_7, xp_90_7, xg_90_8, xp_90_8, xg_90_9, xp_90_9, xg_90_10, xas_2, xal_2, xal_3, xas_4, xal_4, xln_4, xas_5, xal_5, xln_5, xas_6, xal_6, xln_6, xas_7, xal_7, xln_7, xas_8, xal_8, xln_8, xas_9, xal_9, xln_9, xas0_10, xas1_10, xasb_10, xal_10, xal_11, xas_12, xal_12, xln_12, xas_27, xal_27, xal_28, xas_29, xal_29, xln_29, xas_30, xal_30, xln_30, xas_31, xal_31, xln_31, xas_32, xal_32, xln_32, xas_33, xal_33, xln_33, xas_34, xal_34, xln_34, xas0_35, xas1_35, xasb_35, xal_35, xal_36, xas_37, xal_37, xln_37, xas_88, xal_88, xln_88, xal_89, xas_89, xln_89, xas_103, xal_103, xln_103, xas_104, xal_104, xln_104, xas_105, xal_105, xln_105, xas_106, xal_106, xln_106, xas_107, xal_107, xln_107, xal_13, xal_in14, xas_in14, xln_in14, xal_38, xal_in39, xas_in39, xln_in39, xal_52, xal_in53, xas_in53, xln_in53, xal_61, xal_in62, xas_in62, xln_in62, xal_70, xal_in71, xas_in71, xln_in71, xal_79, xal_in80, xas_in80, xln_in80, xal_91, xal_in92, xas_in92, xln_in92, cl_some, nm_b, nn_some, qn_some, qn_none, zk_0, zk_1, zk_n0, zk_n1, nI_add, pk_mul, pk_sub, nI_leE, nI_ltE, nI_eqE, nI_lt0, nI_ge0, nI_eq0, nI_gt0, nI_le0, ilt_t, ilt_f, ile_t, ile_f, ieq_t, ieq_f, if_tt, if_ff, Nat.add_sub_cancel]
        exact r1
      · have hn : s (1026 + t) = nI 1 := by rw [← ek, hw]
        have w10 : xa c 10 t = nI 1 := t10.trans hw
        rw [if_pos hn] at ew
        rw [es2 _ ew, if_neg cb] at r1
        simp (maxSteps := 3000000) (disch := omega) only [h5, es, w10, l2, cb', ck7, xi_xsi_s, xi_xsi_n, xl_xsi, xa_xsi, xj_xsi, xr_xsi, xsi_xsi, xi_xsl, xl_xsl_s, xl_xsl_n, xa_xsl, xj_xsl, xr_xsl, xsl_xsl, xi_xsa, xl_xsa, xa_xsa_s, xa_xsa_n, xj_xsa, xr_xsa, xsa_xsa, xi_xsj, xl_xsj, xa_xsj, xj_xsj_s, xj_xsj_n, xr_xsj, xsj_xsj, xi_xsr, xl_xsr, xa_xsr, xj_xsr, xr_xsr_s, xr_xsr_n, xsr_xsr, xk_0, xg_0_0, xg_0_1, xg_0_2, xp_0_2, xg_0_3, xg_0_4, xg_0_5, xg_0_6, xk_1, xg_1_0, xg_1_1, xp_1_1, xg_1_2, xg_1_3, xp_1_3, xg_1_4, xg_1_5, xg_1_6, xg_1_7, xg_1_8, xg_1_9, xg_1_10, xg_1_11, xp_1_11, xg_1_12, xg_1_13, xg_1_14, xg_1_15, xp_1_15, xg_1_16, xp_1_16, xg_1_17, xp_1_17, xk_26, xg_26_0, xg_26_1, xp_26_1, xg_26_2, xg_26_3, xp_26_3, xg_26_4, xg_26_5, xg_26_6, xg_26_7, xg_26_8, xg_26_9, xg_26_10, xg_26_11, xp_26_11, xg_26_12, xg_26_13, xg_26_14, xg_26_15, xp_26_15, xg_26_16, xp_26_16, xg_26_17, xp_26_17, xk_51, xg_51_0, xg_51_1, xg_51_2, xg_51_3, xg_51_4, xg_51_5, xg_51_6, xg_51_7, xp_51_7, xg_51_8, xp_51_8, xk_90, xg_90_0, xg_90_1, xg_90_2, xg_90_3, xp_90_3, xg_90_4, xg_90_5, xp_90_5, xg_90_6, xg_90_7, xp_90_7, xg_90_8, xp_90_8, xg_90_9, xp_90_9, xg_90_10, xas_2, xal_2, xal_3, xas_4, xal_4, xln_4, xas_5, xal_5, xln_5, xas_6, xal_6, xln_6, xas_7, xal_7, xln_7, xas_8, xal_8, xln_8, xas_9, xal_9, xln_9, xas0_10, xas1_10, xasb_10, xal_10, xal_11, xas_12, xal_12, xln_12, xas_27, xal_27, xal_28, xas_29, xal_29, xln_29, xas_30, xal_30, xln_30, xas_31, xal_31, xln_31, xas_32, xal_32, xln_32, xas_33, xal_33, xln_33, xas_34, xal_34, xln_34, xas0_35, xas1_35, xasb_35, xal_35, xal_36, xas_37, xal_37, xln_37, xas_88, xal_88, xln_88, xal_89, xas_89, xln_89, xas_103, xal_103, xln_103, xas_104, xal_104, xln_104, xas_105, xal_105, xln_105, xas_106, xal_106, xln_106, xas_107, xal_107, xln_107, xal_13, xal_in14, xas_in14, xln_in14, xal_38, xal_in39, xas_in39, xln_in39, xal_52, xal_in53, xas_in53, xln_in53, xal_61, xal_in62, xas_in62, xln_in62, xal_70, xal_in71, xas_in71, xln_in71, xal_79, xal_in80, xas_in80, xln_in80, xal_91, xal_in92, xas_in92, xln_in92, cl_some, nm_b, nn_some, qn_some, qn_none, zk_0, zk_1, zk_n0, zk_n1, nI_add, pk_mul, pk_sub, nI_leE, nI_ltE, nI_eqE, nI_lt0, nI_ge0, nI_eq0, nI_gt0, nI_le0, ilt_t, ilt_f, ile_t, ile_f, ieq_t, ieq_f, if_tt, if_ff, Nat.add_sub_cancel]
        exact r1
theorem clip_0 {m : Nat} (h : m ≤ 1000) : clipF (nI m + nI 0) = nI m := by
  rw [nI_add, Nat.add_zero]
  unfold clipF
  rw [if_neg (nI_pos (by omega)), if_neg (by rw [nI_ltE (by omega) (by omega)]; omega)]
theorem tns_s {w : Int32} {t : Nat} : tnsF S w s (t + 1) = upK (tnsF S w s t) (1026 + t) (tnV (msa S 1 (tnsF S w s t)) t w) := rfl
def P10 (k : Nat) : Prop := k = 10
set_option maxRecDepth 100000 in
set_option maxHeartbeats 1000000 in
theorem x_turn2 (h10 : mi S 10 = -1) {w : Int32} : ∀ (r t m : Nat) (c : CS), t + r = nt → r < m → XC G X lo h0 c (tnsF S w s t) ns nt np lk td q → ∃ c' : CS, F_X0_turnAll_2 G m (encX G X c h0) nx (X + 1) w (nI t) = some ((), encX G X c' h0, nx) ∧ FrX P10 c c' ∧ XC G X lo h0 c' (tnsF S w s nt) ns nt np lk td q := by
  intro r
  induction r with
  | zero =>
    intro t m c ht hm hC
    obtain ⟨m, rfl⟩ : ∃ q, m = q + 1 := ⟨m - 1, by omega⟩
    obtain rfl : t = nt := by omega
    have h8 : t ≤ 8 := hC.2.2.2.2.2.1
    have h5 : xi c 113 = nI t := hC.2.1.1.2.2.1.trans hC.2.2.2.2.1
    refine ⟨c, ?_, FrX.rf, hC⟩
    rw [F_X0_turnAll_2_s]
    simp (maxSteps := 3000000) (disch := omega) only [h5, xi_xsi_s, xi_xsi_n, xl_xsi, xa_xsi, xj_xsi, xr_xsi, xsi_xsi, xi_xsl, xl_xsl_s, xl_xsl_n, xa_xsl, xj_xsl, xr_xsl, xsl_xsl, xi_xsa, xl_xsa, xa_xsa_s, xa_xsa_n, xj_xsa, xr_xsa, xsa_xsa, xi_xsj, xl_xsj, xa_xsj, xj_xsj_s, xj_xsj_n, xr_xsj, xsj_xsj, xi_xsr, xl_xsr, xa_xsr, xj_xsr, xr_xsr_s, xr_xsr_n, xsr_xsr, xk_0, xg_0_0, xg_0_1, xg_0_2, xp_0_2, xg_0_3, xg_0_4, xg_0_5, xg_0_6, xk_1, xg_1_0, xg_1_1, xp_1_1, xg_1_2, xg_1_3, xp_1_3, xg_1_4, xg_1_5, xg_1_6, xg_1_7, xg_1_8, xg_1_9, xg_1_10, xg_1_11, xp_1_11, xg_1_12, xg_1_13, xg_1_14, xg_1_15, xp_1_15, xg_1_16, xp_1_16, xg_1_17, xp_1_17, xk_26, xg_26_0, xg_26_1, xp_26_1, xg_26_2, xg_26_3, xp_26_3, xg_26_4, xg_26_5, xg_26_6, xg_26_7, xg_26_8, xg_26_9, xg_26_10, xg_26_11, xp_26_11, xg_26_12, xg_26_13, xg_26_14, xg_26_15, xp_26_15, xg_26_16, xp_26_16, xg_26_17, xp_26_17, xk_51, xg_51_0, xg_51_1, xg_51_2, xg_51_3, xg_51_4, xg_51_5, xg_51_6, xg_51_7, xp_51_7, xg_51_8, xp_51_8, xk_90, xg_90_0, xg_90_1, xg_90_2, xg_90_3, xp_90_3, xg_90_4, xg_90_5, xp_90_5, xg_90_6, xg_90_7, xp_90_7, xg_90_8, xp_90_8, xg_90_9, xp_90_9, xg_90_10, xas_2, xal_2, xal_3, xas_4, xal_4, xln_4, xas_5, xal_5, xln_5, xas_6, xal_6, xln_6, xas_7, xal_7, xln_7, xas_8, xal_8, xln_8, xas_9, xal_9, xln_9, xas0_10, xas1_10, xasb_10, xal_10, xal_11, xas_12, xal_12, xln_12, xas_27, xal_27, xal_28, xas_29, xal_29, xln_29, xas_30, xal_30, xln_30, xas_31, xal_31, xln_31, xas_32, xal_32, xln_32, xas_33, xal_33, xln_33, xas_34, xal_34, xln_34, xas0_35, xas1_35, xasb_35, xal_35, xal_36, xas_37, xal_37, xln_37, xas_88, xal_88, xln_88, xal_89, xas_89, xln_89, xas_103, xal_103, xln_103, xas_104, xal_104, xln_104, xas_105, xal_105, xln_105, xas_106, xal_106, xln_106, xas_107, xal_107, xln_107, xal_13, xal_in14, xas_in14, xln_in14, xal_38, xal_in39, xas_in39, xln_in39, xal_52, xal_in53, xas_in53, xln_in53, xal_61, xal_in62, xas_in62, xln_in62, xal_70, xal_in71, xas_in71, xln_in71, xal_79, xal_in80, xas_in80, xln_in80, xal_91, xal_in92, xas_in92, xln_in92, cl_some, nm_b, nn_some, qn_some, qn_none, zk_0, zk_1, zk_n0, zk_n1, nI_add, pk_mul, pk_sub, nI_leE, nI_ltE, nI_eqE, nI_lt0, nI_ge0, nI_eq0, nI_gt0, nI_le0, ilt_t, ilt_f, ile_t, ile_f, ieq_t, ieq_f, if_tt, if_ff, Nat.add_sub_cancel]
  | succ r ih =>
    intro t m c ht hm hC
    obtain ⟨m, rfl⟩ : ∃ q, m = q + 1 := ⟨m - 1, by omega⟩
    have h8 : nt ≤ 8 := hC.2.2.2.2.2.1
    have h5 : xi c 113 = nI nt := hC.2.1.1.2.2.1.trans hC.2.2.2.2.1
    have htn : t < nt := by omega
    obtain ⟨a, p, hX⟩ := hC.ths htn
    obtain ⟨t6, t7, t8, t9, t10⟩ := hC.T htn
    obtain ⟨n1, n2, n3⟩ := hC.now
    have hs := hX.2.2.2.2.2.1
    have ha : sN (tnsF S w s t) (1010 + t) = a := hX.2.1
    have e5 : xa c 5 t = tnsF S w s t (1018 + t) := hX.2.2.2.2.2.2.1
    have es := x_sortAt (nx := nx) hX (by omega)
    have ck7 : ∀ (c2 : CS) {β : Type} {f : Nat → Option β}, ck (encX G X c2 h0) p [7] f = f 7 := fun c2 => x_ck7 (hs c2)
    have ed : (w * nI 31 + xi c 115 * nI 17 + nI t * nI 7 + nI 13) * nI 7 - (w * nI 31 + xi c 115 * nI 17 + nI t * nI 7 + nI 13) * nI 7 / nI 1000 * nI 1000 = trN (tnsF S w s t) t w := by
      unfold trN
      rw [n1, n2, Int32.mul_comm w (nI 31), Int32.mul_comm (nI td) (nI 17), pk_mul (a := t) (b := 7), Nat.mul_comm t 7]
    have hill : illF (msa S 1 (tnsF S w s t)) t (tnsF S w s t (1042 + t)) = sumF (tnsF S w s t) a (nI 0) (tnsF S w s t (1042 + t)) (tnsF S w s t (1018 + t)) := by
      obtain ⟨m0, hm0, em0⟩ := (hs c).sum_le (w := 0) (by omega) (tnsF S w s t (1042 + t)) (tnsF S w s t (1018 + t))
      unfold illF
      rw [ma_msa_s, ha, x_y0 (S := msa S 1 (tnsF S w s t)) h10 (by omega), em0, clip_0 hm0]
    have hheal : healF (tnsF S w s t) t (tnsF S w s t (1042 + t)) = sumF (tnsF S w s t) a (nI 1) (tnsF S w s t (1042 + t)) (tnsF S w s t (1018 + t)) := by
      unfold healF
      rw [ha]
    have ec : ∀ w0, w0 ≤ 1 → F_X7_chance G (encX G X c h0) nx p (nI w0) (tnsF S w s t (1042 + t)) (tnsF S w s t (1018 + t)) = some (sumF (tnsF S w s t) a (nI w0) (tnsF S w s t (1042 + t)) (tnsF S w s t (1018 + t)), encX G X c h0, nx) := fun w0 hw0 => x_chance (hs c) hw0
    have ec0 := ec 0 (by omega)
    have ec1 := ec 1 (by omega)
    have etn : tnV (msa S 1 (tnsF S w s t)) t w = if tnsF S w s t (1026 + t) = nI 1 then (if illF (msa S 1 (tnsF S w s t)) t (tnsF S w s t (1042 + t)) ≤ trN (tnsF S w s t) t w then nI 1 else nI 0) else (if healF (tnsF S w s t) t (tnsF S w s t (1042 + t)) ≤ trN (tnsF S w s t) t w then nI 0 else nI 1) := by
      unfold tnV
      rw [ma_msa_s]
    rw [hill, hheal] at etn
    have ets := tns_s (S := S) (s := s) (w := w) (t := t)
    generalize hrow : tnsF S w s t = row at *
    have keep : ∀ x, row (1026 + t) = x → upK row (1026 + t) x = row := fun x hx => by rw [← hx, upK_self]
    have flip : ∀ x, (x = nI 0 ∨ x = nI 1) → XC G X lo h0 (xsa c 10 (upK (xa c 10) t x)) (upK row (1026 + t) x) ns nt np lk td q := fun x hx => by
      refine hC.one (P := P10) htn (FrX.sa (P := P10) rfl) (fun k z => by unfold P10 at z; omega) (fun k h1 h2 h3 h4 h5 => upK_n h1) (fun i hi => ?_) ?_ ?_
      · simp (disch := omega) only [xa_xsa_s, xa_xsa_n, upK_n, and_self]
      · rw [upK_s, upK_n (by omega), upK_n (by omega), upK_n (by omega), upK_n (by omega)]
        simp (disch := omega) only [xa_xsa_s, xa_xsa_n, upK_s, t6, t7, t8, t9, and_self]
      · rw [upK_s, upK_n (by omega), upK_n (by omega)]
        exact ⟨(hC.V htn).1, (hC.V htn).2.1, hx⟩
    have stay : upK row (1026 + t) (tnV (msa S 1 row) t w) = row → ∃ c' : CS, F_X0_turnAll_2 G m (encX G X c h0) nx (X + 1) w (nI t + nI 1) = some ((), encX G X c' h0, nx) ∧ FrX P10 c c' ∧ XC G X lo h0 c' (tnsF S w s nt) ns nt np lk td q := fun he => by
      rw [he] at ets
      rw [nI_add]
      exact ih (t + 1) m c (by omega) (by omega) (by rw [ets]; exact hC)
    have turn : ∀ x, (x = nI 0 ∨ x = nI 1) → tnV (msa S 1 row) t w = x → ∃ c' : CS, F_X0_turnAll_2 G m (encX G X (xsa c 10 (upK (xa c 10) t x)) h0) nx (X + 1) w (nI t + nI 1) = some ((), encX G X c' h0, nx) ∧ FrX P10 c c' ∧ XC G X lo h0 c' (tnsF S w s nt) ns nt np lk td q := fun x hx he => by
      rw [he] at ets
      rw [nI_add]
      obtain ⟨c', r1, r2, r3⟩ := ih (t + 1) m _ (by omega) (by omega) (by rw [ets]; exact flip x hx)
      exact ⟨c', r1, (FrX.sa (P := P10) rfl).trans r2 (fun _ z => z) (fun _ z => z), r3⟩
    rw [F_X0_turnAll_2_s]
    unfold F_X0_turnAll_57 F_X0_turnAll_99 F_X0_turnAll_100
    rw [xg_1_11, h5, if_neg (by rw [nI_leE (by omega) (by omega)]; omega), xg_1_16, nm_b, ed]
    rcases (hC.V htn).2.2 with hw | hw
    · have w10 : xa c 10 t = nI 0 := t10.trans hw
      rw [if_neg (by rw [hw]; decide)] at etn
      simp (maxSteps := 3000000) (disch := omega) only [es, w10, t7, e5, ck7, ec1, xi_xsi_s, xi_xsi_n, xl_xsi, xa_xsi, xj_xsi, xr_xsi, xsi_xsi, xi_xsl, xl_xsl_s, xl_xsl_n, xa_xsl, xj_xsl, xr_xsl, xsl_xsl, xi_xsa, xl_xsa, xa_xsa_s, xa_xsa_n, xj_xsa, xr_xsa, xsa_xsa, xi_xsj, xl_xsj, xa_xsj, xj_xsj_s, xj_xsj_n, xr_xsj, xsj_xsj, xi_xsr, xl_xsr, xa_xsr, xj_xsr, xr_xsr_s, xr_xsr_n, xsr_xsr, xk_0, xg_0_0, xg_0_1, xg_0_2, xp_0_2, xg_0_3, xg_0_4, xg_0_5, xg_0_6, xk_1, xg_1_0, xg_1_1, xp_1_1, xg_1_2, xg_1_3, xp_1_3, xg_1_4, xg_1_5, xg_1_6, xg_1_7, xg_1_8, xg_1_9, xg_1_10, xg_1_11, xp_1_11, xg_1_12, xg_1_13, xg_1_14, xg_1_15, xp_1_15, xg_1_16, xp_1_16, xg_1_17, xp_1_17, xk_26, xg_26_0, xg_26_1, xp_26_1, xg_26_2, xg_26_3, xp_26_3, xg_26_4, xg_26_5, xg_26_6, xg_26_7, xg_26_8, xg_26_9, xg_26_10, xg_26_11, xp_26_11, xg_26_12, xg_26_13, xg_26_14, xg_26_15, xp_26_15, xg_26_16, xp_26_16, xg_26_17, xp_26_17, xk_51, xg_51_0, xg_51_1, xg_51_2, xg_51_3, xg_51_4, xg_51_5, xg_51_6, xg_51_7, xp_51_7, xg_51_8, xp_51_8, xk_90, xg_90_0, xg_90_1, xg_90_2, xg_90_3, xp_90_3, xg_90_4, xg_90_5, xp_90_5, xg_90_6, xg_90_7, xp_90_7, xg_90_8, xp_90_8, xg_90_9, xp_90_9, xg_90_10, xas_2, xal_2, xal_3, xas_4, xal_4, xln_4, xas_5, xal_5, xln_5, xas_6, xal_6, xln_6, xas_7, xal_7, xln_7, xas_8, xal_8, xln_8, xas_9, xal_9, xln_9, xas0_10, xas1_10, xasb_10, xal_10, xal_11, xas_12, xal_12, xln_12, xas_27, xal_27, xal_28, xas_29, xal_29, xln_29, xas_30, xal_30, xln_30, xas_31, xal_31, xln_31, xas_32, xal_32, xln_32, xas_33, xal_33, xln_33, xas_34, xal_34, xln_34, xas0_35, xas1_35, xasb_35, xal_35, xal_36, xas_37, xal_37, xln_37, xas_88, xal_88, xln_88, xal_89, xas_89, xln_89, xas_103, xal_103, xln_103, xas_104, xal_104, xln_104, xas_105, xal_105, xln_105, xas_106, xal_106, xln_106, xas_107, xal_107, xln_107, xal_13, xal_in14, xas_in14, xln_in14, xal_38, xal_in39, xas_in39, xln_in39, xal_52, xal_in53, xas_in53, xln_in53, xal_61, xal_in62, xas_in62, xln_in62, xal_70, xal_in71, xas_in71, xln_in71, xal_79, xal_in80, xas_in80, xln_in80, xal_91, xal_in92, xas_in92, xln_in92, cl_some, nm_b, nn_some, qn_some, qn_none, zk_0, zk_1, zk_n0, zk_n1, nI_add, pk_mul, pk_sub, nI_leE, nI_ltE, nI_eqE, nI_lt0, nI_ge0, nI_eq0, nI_gt0, nI_le0, ilt_t, ilt_f, ile_t, ile_f, ieq_t, ieq_f, if_tt, if_ff, Nat.add_sub_cancel]
      generalize trN row t w = T at etn ⊢
      generalize sumF row a (nI 1) (row (1042 + t)) (row (1018 + t)) = C at etn ⊢
      by_cases cc : C ≤ T
      · rw [if_pos cc] at etn ⊢
        have := stay (keep _ (hw.trans etn.symm))
        rw [nI_add] at this
        exact this
      · rw [if_neg cc] at etn ⊢
        have := turn (nI 1) (Or.inr rfl) etn
        rw [nI_add] at this
        exact this
    · have w10 : xa c 10 t = nI 1 := t10.trans hw
      rw [if_pos hw] at etn
      simp (maxSteps := 3000000) (disch := omega) only [es, w10, t7, e5, ck7, ec0, xi_xsi_s, xi_xsi_n, xl_xsi, xa_xsi, xj_xsi, xr_xsi, xsi_xsi, xi_xsl, xl_xsl_s, xl_xsl_n, xa_xsl, xj_xsl, xr_xsl, xsl_xsl, xi_xsa, xl_xsa, xa_xsa_s, xa_xsa_n, xj_xsa, xr_xsa, xsa_xsa, xi_xsj, xl_xsj, xa_xsj, xj_xsj_s, xj_xsj_n, xr_xsj, xsj_xsj, xi_xsr, xl_xsr, xa_xsr, xj_xsr, xr_xsr_s, xr_xsr_n, xsr_xsr, xk_0, xg_0_0, xg_0_1, xg_0_2, xp_0_2, xg_0_3, xg_0_4, xg_0_5, xg_0_6, xk_1, xg_1_0, xg_1_1, xp_1_1, xg_1_2, xg_1_3, xp_1_3, xg_1_4, xg_1_5, xg_1_6, xg_1_7, xg_1_8, xg_1_9, xg_1_10, xg_1_11, xp_1_11, xg_1_12, xg_1_13, xg_1_14, xg_1_15, xp_1_15, xg_1_16, xp_1_16, xg_1_17, xp_1_17, xk_26, xg_26_0, xg_26_1, xp_26_1, xg_26_2, xg_26_3, xp_26_3, xg_26_4, xg_26_5, xg_26_6, xg_26_7, xg_26_8, xg_26_9, xg_26_10, xg_26_11, xp_26_11, xg_26_12, xg_26_13, xg_26_14, xg_26_15, xp_26_15, xg_26_16, xp_26_16, xg_26_17, xp_26_17, xk_51, xg_51_0, xg_51_1, xg_51_2, xg_51_3, xg_51_4, xg_51_5, xg_51_6, xg_51_7, xp_51_7, xg_51_8, xp_51_8, xk_90, xg_90_0, xg_90_1, xg_90_2, xg_90_3, xp_90_3, xg_90_4, xg_90_5, xp_90_5, xg_90_6, xg_90_7, xp_90_7, xg_90_8, xp_90_8, xg_90_9, xp_90_9, xg_90_10, xas_2, xal_2, xal_3, xas_4, xal_4, xln_4, xas_5, xal_5, xln_5, xas_6, xal_6, xln_6, xas_7, xal_7, xln_7, xas_8, xal_8, xln_8, xas_9, xal_9, xln_9, xas0_10, xas1_10, xasb_10, xal_10, xal_11, xas_12, xal_12, xln_12, xas_27, xal_27, xal_28, xas_29, xal_29, xln_29, xas_30, xal_30, xln_30, xas_31, xal_31, xln_31, xas_32, xal_32, xln_32, xas_33, xal_33, xln_33, xas_34, xal_34, xln_34, xas0_35, xas1_35, xasb_35, xal_35, xal_36, xas_37, xal_37, xln_37, xas_88, xal_88, xln_88, xal_89, xas_89, xln_89, xas_103, xal_103, xln_103, xas_104, xal_104, xln_104, xas_105, xal_105, xln_105, xas_106, xal_106, xln_106, xas_107, xal_107, xln_107, xal_13, xal_in14, xas_in14, xln_in14, xal_38, xal_in39, xas_in39, xln_in39, xal_52, xal_in53, xas_in53, xln_in53, xal_61, xal_in62, xas_in62, xln_in62, xal_70, xal_in71, xas_in71, xln_in71, xal_79, xal_in80, xas_in80, xln_in80, xal_91, xal_in92, xas_in92, xln_in92, cl_some, nm_b, nn_some, qn_some, qn_none, zk_0, zk_1, zk_n0, zk_n1, nI_add, pk_mul, pk_sub, nI_leE, nI_ltE, nI_eqE, nI_lt0, nI_ge0, nI_eq0, nI_gt0, nI_le0, ilt_t, ilt_f, ile_t, ile_f, ieq_t, ieq_f, if_tt, if_ff, Nat.add_sub_cancel]
      generalize trN row t w = T at etn ⊢
      generalize sumF row a (nI 0) (row (1042 + t)) (row (1018 + t)) = C at etn ⊢
      by_cases cc : C ≤ T
      · rw [if_pos cc] at etn ⊢
        have := stay (keep _ (hw.trans etn.symm))
        rw [nI_add] at this
        exact this
      · rw [if_neg cc] at etn ⊢
        have := turn (nI 0) (Or.inl rfl) etn
        rw [nI_add] at this
        exact this
end XRU
section XR3
variable {G : Gx} {X lo nx : Nat} {h0 : Hp} {c : CS} {S : MS} {ns nt np lk td q : Nat}
theorem wh_msa {s : Nat → Int32} {p dd : Nat} : whF (msa (msa S 1 s) 1 s) p dd nt lk = whF (msa S 1 s) p dd nt lk := by rw [msa_msa]
set_option maxRecDepth 100000 in
set_option maxHeartbeats 1000000 in
theorem x_run61 (h10 : mi S 10 = -1) {p q0 days : Nat} {w : Int32} (hp : p < np) (hd : td + days ≤ 999) : ∀ (r i m : Nat) (c : CS), i + r = days → r < m → XC G X lo h0 c (daysF S p nt lk w (ma S 1) i).1 ns nt np lk (td + i) q → xr c 11 p = some q0 → (∀ j, j < 8 → xa c 106 j = nI 0) → ∃ c' : CS, F_X11_run_61 G m (encX G X c h0) nx X (nI days) w q0 (daysF S p nt lk w (ma S 1) i).2 (nI i) = some ((daysF S p nt lk w (ma S 1) days).2, encX G X c' h0, nx) ∧ FrX PD c c' ∧ XC G X lo h0 c' (daysF S p nt lk w (ma S 1) days).1 ns nt np lk (td + days) q := by
  intro r
  induction r with
  | zero =>
    intro i m c hi hm hC hq hT
    obtain ⟨m, rfl⟩ : ∃ q, m = q + 1 := ⟨m - 1, by omega⟩
    obtain rfl : i = days := by omega
    refine ⟨c, ?_, FrX.rf, hC⟩
    rw [F_X11_run_61_s]
    simp (maxSteps := 3000000) (disch := omega) only [cl_some, nm_b, nn_some, qn_some, qn_none, zk_0, zk_1, zk_n0, zk_n1, nI_add, pk_mul, pk_sub, nI_leE, nI_ltE, nI_eqE, nI_lt0, nI_ge0, nI_eq0, nI_gt0, nI_le0, ilt_t, ilt_f, ile_t, ile_f, ieq_t, ieq_f, if_tt, if_ff, Nat.add_sub_cancel]
  | succ r ih =>
    intro i m c hi hm hC hq hT
    obtain ⟨m, rfl⟩ : ∃ q, m = q + 1 := ⟨m - 1, by omega⟩
    have es : daysF S p nt lk w (ma S 1) (i + 1) = dayF S p nt lk w (daysF S p nt lk w (ma S 1) i).1 (daysF S p nt lk w (ma S 1) i).2 := rfl
    generalize hD : daysF S p nt lk w (ma S 1) i = D at hC es ⊢
    obtain ⟨s, acc⟩ := D
    have hC : XC G X lo h0 c s ns nt np lk (td + i) q := hC
    have hC' : XC G X lo h0 c (ma (msa S 1 s) 1) ns nt np lk (td + i) q := by rw [ma_msa_s]; exact hC
    have h8 := x_nt8 hC'
    obtain ⟨n1, n2, n3⟩ := hC.now
    obtain ⟨q1, k, v, hP⟩ := hC'.pl hp
    obtain rfl : q1 = q0 := by
      have := hP.1
      rw [hq] at this
      exact (Option.some.inj this).symm
    obtain ⟨c2, e2, f2⟩ := x_whomNow (nx := nx) hC' h10 hT hP
    have hC2 : XC G X lo h0 c2 s ns nt np lk (td + i) q := hC.po f2
    have e3 : whF (msa S 1 s) p (td + i) nt lk = whF (msa S 1 s) p (sN s 3) nt lk := by
      unfold sN
      rw [n2, nI_clamp (by omega)]
    rw [e3] at e2
    generalize hset : whF (msa S 1 s) p (sN s 3) nt lk = set at e2 es
    obtain ⟨c3, e4, f3, hC3⟩ := x_lap5 (nx := nx) (set := set) (acc := 0) (s := s) (fun t ht => hC.thk ht) nt 0 fuelL c2 (by omega) (by unfold fuelL; omega) hC2
    have e4 : F_X0_lookAndPay G (encX G X c2 h0) nx (X + 1) set = some ((lksF set s (wgsF s nt 0) nt).2, encX G X c3 h0, nx) := e4
    obtain ⟨c4, e5, f4, hC4⟩ := x_turn2 (nx := nx) (S := S) (s := (lksF set s 0 nt).1) h10 (w := w) nt 0 fuelL c3 (by omega) (by unfold fuelL; omega) hC3
    have e5 : F_X0_turnAll G (encX G X c3 h0) nx (X + 1) w = some ((), encX G X c4 h0, nx) := e5
    obtain ⟨c5, e6, f5, hC5⟩ := x_overB (nx := nx) (S := S) h10 (by omega) hC4
    have ed : dayF S p nt lk w s acc = (upK (ovP S (tnsF S w (lksF set s 0 nt).1 nt) nt) 3 (ovP S (tnsF S w (lksF set s 0 nt).1 nt) nt 3 + nI 1), acc + (lksF set s (wgsF s nt 0) nt).2) := by
      rw [dayF_eq, hset, lks_1 (a := wgsF s nt acc) (b := 0) nt]
      refine congrArg (Prod.mk _) ?_
      have e7 : wgsF s nt acc = wgsF s nt 0 + acc := by
        rw [← wgs_2, Int64.zero_add]
      rw [e7, lks_2, Int64.add_comm]
    have es2 := es.trans ed
    have fa : FrX PD c c5 := ((f2.trans f3 po_pd (fun k z => by unfold PL2 at z; unfold PD; omega)).trans f4 (fun _ z => z) (fun k z => by unfold P10 at z; unfold PD; omega)).trans f5 (fun _ z => z) (fun k z => by unfold PK at z; unfold PD; omega)
    obtain ⟨c', r1, r2, r3⟩ := ih (i + 1) m c5 (by omega) (by omega) (by rw [es2]; exact hC5) (by rw [fa.r 11 (by unfold PD; omega)]; exact hq) (fun j hj => by rw [fa.a 106 (by unfold PD; omega)]; exact hT j hj)
    rw [es2] at r1
    refine ⟨c', ?_, fa.trans r2 (fun _ z => z) (fun _ z => z), r3⟩
    rw [F_X11_run_61_s]
    simp (maxSteps := 3000000) (disch := omega) only [e2, e4, e5, e6, xi_xsi_s, xi_xsi_n, xl_xsi, xa_xsi, xj_xsi, xr_xsi, xsi_xsi, xi_xsl, xl_xsl_s, xl_xsl_n, xa_xsl, xj_xsl, xr_xsl, xsl_xsl, xi_xsa, xl_xsa, xa_xsa_s, xa_xsa_n, xj_xsa, xr_xsa, xsa_xsa, xi_xsj, xl_xsj, xa_xsj, xj_xsj_s, xj_xsj_n, xr_xsj, xsj_xsj, xi_xsr, xl_xsr, xa_xsr, xj_xsr, xr_xsr_s, xr_xsr_n, xsr_xsr, xk_0, xg_0_0, xg_0_1, xg_0_2, xp_0_2, xg_0_3, xg_0_4, xg_0_5, xg_0_6, xk_1, xg_1_0, xg_1_1, xp_1_1, xg_1_2, xg_1_3, xp_1_3, xg_1_4, xg_1_5, xg_1_6, xg_1_7, xg_1_8, xg_1_9, xg_1_10, xg_1_11, xp_1_11, xg_1_12, xg_1_13, xg_1_14, xg_1_15, xp_1_15, xg_1_16, xp_1_16, xg_1_17, xp_1_17, xk_26, xg_26_0, xg_26_1, xp_26_1, xg_26_2, xg_26_3, xp_26_3, xg_26_4, xg_26_5, xg_26_6, xg_26_7, xg_26_8, xg_26_9, xg_26_10, xg_26_11, xp_26_11, xg_26_12, xg_26_13, xg_26_14, xg_26_15, xp_26_15, xg_26_16, xp_26_16, xg_26_17, xp_26_17, xk_51, xg_51_0, xg_51_1, xg_51_2, xg_51_3, xg_51_4, xg_51_5, xg_51_6, xg_51_7, xp_51_7, xg_51_8, xp_51_8, xk_90, xg_90_0, xg_90_1, xg_90_2, xg_90_3, xp_90_3, xg_90_4, xg_90_5, xp_90_5, xg_90_6, xg_90_7, xp_90_7, xg_90_8, xp_90_8, xg_90_9, xp_90_9, xg_90_10, xas_2, xal_2, xal_3, xas_4, xal_4, xln_4, xas_5, xal_5, xln_5, xas_6, xal_6, xln_6, xas_7, xal_7, xln_7, xas_8, xal_8, xln_8, xas_9, xal_9, xln_9, xas0_10, xas1_10, xasb_10, xal_10, xal_11, xas_12, xal_12, xln_12, xas_27, xal_27, xal_28, xas_29, xal_29, xln_29, xas_30, xal_30, xln_30, xas_31, xal_31, xln_31, xas_32, xal_32, xln_32, xas_33, xal_33, xln_33, xas_34, xal_34, xln_34, xas0_35, xas1_35, xasb_35, xal_35, xal_36, xas_37, xal_37, xln_37, xas_88, xal_88, xln_88, xal_89, xas_89, xln_89, xas_103, xal_103, xln_103, xas_104, xal_104, xln_104, xas_105, xal_105, xln_105, xas_106, xal_106, xln_106, xas_107, xal_107, xln_107, xal_13, xal_in14, xas_in14, xln_in14, xal_38, xal_in39, xas_in39, xln_in39, xal_52, xal_in53, xas_in53, xln_in53, xal_61, xal_in62, xas_in62, xln_in62, xal_70, xal_in71, xas_in71, xln_in71, xal_79, xal_in80, xas_in80, xln_in80, xal_91, xal_in92, xas_in92, xln_in92, cl_some, nm_b, nn_some, qn_some, qn_none, zk_0, zk_1, zk_n0, zk_n1, nI_add, pk_mul, pk_sub, nI_leE, nI_ltE, nI_eqE, nI_lt0, nI_ge0, nI_eq0, nI_gt0, nI_le0, ilt_t, ilt_f, ile_t, ile_f, ieq_t, ieq_f, if_tt, if_ff, Nat.add_sub_cancel]
    exact r1
def runT (S : MS) (td : Nat) (p d w : Int32) : Nat := if bIn p (nI 0) (ma S 1 2 - nI 1) = 0 then td else if bIn d (nI 1) (nI 30) = 0 then td else if bIn w (nI 0) (nI 999) = 0 then td else if nI td + d ≤ nI 999 then td + d.toNatClampNeg else td
set_option maxRecDepth 100000 in
set_option maxHeartbeats 1000000 in
theorem x_run (hC : XC G X lo h0 c (ma S 1) ns nt np lk td q) (h10 : mi S 10 = -1) (hT : ∀ j, j < 8 → xa c 106 j = nI 0) (p d w : Int32) : ∃ c' : CS, F_X11_run G (encX G X c h0) nx X p d w = some ((runF S nt lk td p d w).1, encX G X c' h0, nx) ∧ FrX PD c c' ∧ XC G X lo h0 c' (runF S nt lk td p d w).2 ns nt np lk (runT S td p d w) q := by
  obtain ⟨h5, h12⟩ := x_npC hC
  have h2 : ma S 1 2 = nI np := hC.2.2.2.2.2.2.1
  have ep : F_X0_planAt G (encX G X c h0) nx (X + 1) p = _ := x_planAt h5 h12
  obtain ⟨n1, n2, n3⟩ := hC.now
  unfold F_X11_run F_X11_run_51 runF runT
  rw [h2]
  simp (maxSteps := 3000000) (disch := omega) only [ep, xi_xsi_s, xi_xsi_n, xl_xsi, xa_xsi, xj_xsi, xr_xsi, xsi_xsi, xi_xsl, xl_xsl_s, xl_xsl_n, xa_xsl, xj_xsl, xr_xsl, xsl_xsl, xi_xsa, xl_xsa, xa_xsa_s, xa_xsa_n, xj_xsa, xr_xsa, xsa_xsa, xi_xsj, xl_xsj, xa_xsj, xj_xsj_s, xj_xsj_n, xr_xsj, xsj_xsj, xi_xsr, xl_xsr, xa_xsr, xj_xsr, xr_xsr_s, xr_xsr_n, xsr_xsr, xk_0, xg_0_0, xg_0_1, xg_0_2, xp_0_2, xg_0_3, xg_0_4, xg_0_5, xg_0_6, xk_1, xg_1_0, xg_1_1, xp_1_1, xg_1_2, xg_1_3, xp_1_3, xg_1_4, xg_1_5, xg_1_6, xg_1_7, xg_1_8, xg_1_9, xg_1_10, xg_1_11, xp_1_11, xg_1_12, xg_1_13, xg_1_14, xg_1_15, xp_1_15, xg_1_16, xp_1_16, xg_1_17, xp_1_17, xk_26, xg_26_0, xg_26_1, xp_26_1, xg_26_2, xg_26_3, xp_26_3, xg_26_4, xg_26_5, xg_26_6, xg_26_7, xg_26_8, xg_26_9, xg_26_10, xg_26_11, xp_26_11, xg_26_12, xg_26_13, xg_26_14, xg_26_15, xp_26_15, xg_26_16, xp_26_16, xg_26_17, xp_26_17, xk_51, xg_51_0, xg_51_1, xg_51_2, xg_51_3, xg_51_4, xg_51_5, xg_51_6, xg_51_7, xp_51_7, xg_51_8, xp_51_8, xk_90, xg_90_0, xg_90_1, xg_90_2, xg_90_3, xp_90_3, xg_90_4, xg_90_5, xp_90_5, xg_90_6, xg_90_7, xp_90_7, xg_90_8, xp_90_8, xg_90_9, xp_90_9, xg_90_10, xas_2, xal_2, xal_3, xas_4, xal_4, xln_4, xas_5, xal_5, xln_5, xas_6, xal_6, xln_6, xas_7, xal_7, xln_7, xas_8, xal_8, xln_8, xas_9, xal_9, xln_9, xas0_10, xas1_10, xasb_10, xal_10, xal_11, xas_12, xal_12, xln_12, xas_27, xal_27, xal_28, xas_29, xal_29, xln_29, xas_30, xal_30, xln_30, xas_31, xal_31, xln_31, xas_32, xal_32, xln_32, xas_33, xal_33, xln_33, xas_34, xal_34, xln_34, xas0_35, xas1_35, xasb_35, xal_35, xal_36, xas_37, xal_37, xln_37, xas_88, xal_88, xln_88, xal_89, xas_89, xln_89, xas_103, xal_103, xln_103, xas_104, xal_104, xln_104, xas_105, xal_105, xln_105, xas_106, xal_106, xln_106, xas_107, xal_107, xln_107, xal_13, xal_in14, xas_in14, xln_in14, xal_38, xal_in39, xas_in39, xln_in39, xal_52, xal_in53, xas_in53, xln_in53, xal_61, xal_in62, xas_in62, xln_in62, xal_70, xal_in71, xas_in71, xln_in71, xal_79, xal_in80, xas_in80, xln_in80, xal_91, xal_in92, xas_in92, xln_in92, cl_some, nm_b, nn_some, qn_some, qn_none, zk_0, zk_1, zk_n0, zk_n1, nI_add, pk_mul, pk_sub, nI_leE, nI_ltE, nI_eqE, nI_lt0, nI_ge0, nI_eq0, nI_gt0, nI_le0, ilt_t, ilt_f, ile_t, ile_f, ieq_t, ieq_f, if_tt, if_ff, Nat.add_sub_cancel]
  by_cases c1 : bIn p (nI 0) (nI np - nI 1) = 0
  · rw [if_pos c1, if_pos c1, if_pos c1]
    exact ⟨c, rfl, FrX.rf, hC⟩
  · rw [if_neg c1, if_neg c1, if_neg c1]
    obtain ⟨p, hp, rfl⟩ := bIn_nI (by omega) c1
    obtain ⟨q0, k, v, hP⟩ := hC.pl hp
    rw [nI_clamp (by omega), hP.1]
    simp (maxSteps := 3000000) (disch := omega) only [x_within, xi_xsi_s, xi_xsi_n, xl_xsi, xa_xsi, xj_xsi, xr_xsi, xsi_xsi, xi_xsl, xl_xsl_s, xl_xsl_n, xa_xsl, xj_xsl, xr_xsl, xsl_xsl, xi_xsa, xl_xsa, xa_xsa_s, xa_xsa_n, xj_xsa, xr_xsa, xsa_xsa, xi_xsj, xl_xsj, xa_xsj, xj_xsj_s, xj_xsj_n, xr_xsj, xsj_xsj, xi_xsr, xl_xsr, xa_xsr, xj_xsr, xr_xsr_s, xr_xsr_n, xsr_xsr, xk_0, xg_0_0, xg_0_1, xg_0_2, xp_0_2, xg_0_3, xg_0_4, xg_0_5, xg_0_6, xk_1, xg_1_0, xg_1_1, xp_1_1, xg_1_2, xg_1_3, xp_1_3, xg_1_4, xg_1_5, xg_1_6, xg_1_7, xg_1_8, xg_1_9, xg_1_10, xg_1_11, xp_1_11, xg_1_12, xg_1_13, xg_1_14, xg_1_15, xp_1_15, xg_1_16, xp_1_16, xg_1_17, xp_1_17, xk_26, xg_26_0, xg_26_1, xp_26_1, xg_26_2, xg_26_3, xp_26_3, xg_26_4, xg_26_5, xg_26_6, xg_26_7, xg_26_8, xg_26_9, xg_26_10, xg_26_11, xp_26_11, xg_26_12, xg_26_13, xg_26_14, xg_26_15, xp_26_15, xg_26_16, xp_26_16, xg_26_17, xp_26_17, xk_51, xg_51_0, xg_51_1, xg_51_2, xg_51_3, xg_51_4, xg_51_5, xg_51_6, xg_51_7, xp_51_7, xg_51_8, xp_51_8, xk_90, xg_90_0, xg_90_1, xg_90_2, xg_90_3, xp_90_3, xg_90_4, xg_90_5, xp_90_5, xg_90_6, xg_90_7, xp_90_7, xg_90_8, xp_90_8, xg_90_9, xp_90_9, xg_90_10, xas_2, xal_2, xal_3, xas_4, xal_4, xln_4, xas_5, xal_5, xln_5, xas_6, xal_6, xln_6, xas_7, xal_7, xln_7, xas_8, xal_8, xln_8, xas_9, xal_9, xln_9, xas0_10, xas1_10, xasb_10, xal_10, xal_11, xas_12, xal_12, xln_12, xas_27, xal_27, xal_28, xas_29, xal_29, xln_29, xas_30, xal_30, xln_30, xas_31, xal_31, xln_31, xas_32, xal_32, xln_32, xas_33, xal_33, xln_33, xas_34, xal_34, xln_34, xas0_35, xas1_35, xasb_35, xal_35, xal_36, xas_37, xal_37, xln_37, xas_88, xal_88, xln_88, xal_89, xas_89, xln_89, xas_103, xal_103, xln_103, xas_104, xal_104, xln_104, xas_105, xal_105, xln_105, xas_106, xal_106, xln_106, xas_107, xal_107, xln_107, xal_13, xal_in14, xas_in14, xln_in14, xal_38, xal_in39, xas_in39, xln_in39, xal_52, xal_in53, xas_in53, xln_in53, xal_61, xal_in62, xas_in62, xln_in62, xal_70, xal_in71, xas_in71, xln_in71, xal_79, xal_in80, xas_in80, xln_in80, xal_91, xal_in92, xas_in92, xln_in92, cl_some, nm_b, nn_some, qn_some, qn_none, zk_0, zk_1, zk_n0, zk_n1, nI_add, pk_mul, pk_sub, nI_leE, nI_ltE, nI_eqE, nI_lt0, nI_ge0, nI_eq0, nI_gt0, nI_le0, ilt_t, ilt_f, ile_t, ile_f, ieq_t, ieq_f, if_tt, if_ff, Nat.add_sub_cancel]
    by_cases c2 : bIn d (nI 1) (nI 30) = 0
    · rw [if_pos c2, if_pos c2, if_pos c2]
      exact ⟨c, rfl, FrX.rf, hC⟩
    · rw [if_neg c2, if_neg c2, if_neg c2]
      by_cases c3 : bIn w (nI 0) (nI 999) = 0
      · rw [if_pos c3, if_pos c3, if_pos c3]
        exact ⟨c, rfl, FrX.rf, hC⟩
      · rw [if_neg c3, if_neg c3, if_neg c3]
        obtain ⟨d, hd1, hd3, rfl⟩ := bIn_lh (by omega) (by omega) c2
        rw [nI_clamp (by omega)]
        simp (maxSteps := 3000000) (disch := omega) only [n1, xi_xsi_s, xi_xsi_n, xl_xsi, xa_xsi, xj_xsi, xr_xsi, xsi_xsi, xi_xsl, xl_xsl_s, xl_xsl_n, xa_xsl, xj_xsl, xr_xsl, xsl_xsl, xi_xsa, xl_xsa, xa_xsa_s, xa_xsa_n, xj_xsa, xr_xsa, xsa_xsa, xi_xsj, xl_xsj, xa_xsj, xj_xsj_s, xj_xsj_n, xr_xsj, xsj_xsj, xi_xsr, xl_xsr, xa_xsr, xj_xsr, xr_xsr_s, xr_xsr_n, xsr_xsr, xk_0, xg_0_0, xg_0_1, xg_0_2, xp_0_2, xg_0_3, xg_0_4, xg_0_5, xg_0_6, xk_1, xg_1_0, xg_1_1, xp_1_1, xg_1_2, xg_1_3, xp_1_3, xg_1_4, xg_1_5, xg_1_6, xg_1_7, xg_1_8, xg_1_9, xg_1_10, xg_1_11, xp_1_11, xg_1_12, xg_1_13, xg_1_14, xg_1_15, xp_1_15, xg_1_16, xp_1_16, xg_1_17, xp_1_17, xk_26, xg_26_0, xg_26_1, xp_26_1, xg_26_2, xg_26_3, xp_26_3, xg_26_4, xg_26_5, xg_26_6, xg_26_7, xg_26_8, xg_26_9, xg_26_10, xg_26_11, xp_26_11, xg_26_12, xg_26_13, xg_26_14, xg_26_15, xp_26_15, xg_26_16, xp_26_16, xg_26_17, xp_26_17, xk_51, xg_51_0, xg_51_1, xg_51_2, xg_51_3, xg_51_4, xg_51_5, xg_51_6, xg_51_7, xp_51_7, xg_51_8, xp_51_8, xk_90, xg_90_0, xg_90_1, xg_90_2, xg_90_3, xp_90_3, xg_90_4, xg_90_5, xp_90_5, xg_90_6, xg_90_7, xp_90_7, xg_90_8, xp_90_8, xg_90_9, xp_90_9, xg_90_10, xas_2, xal_2, xal_3, xas_4, xal_4, xln_4, xas_5, xal_5, xln_5, xas_6, xal_6, xln_6, xas_7, xal_7, xln_7, xas_8, xal_8, xln_8, xas_9, xal_9, xln_9, xas0_10, xas1_10, xasb_10, xal_10, xal_11, xas_12, xal_12, xln_12, xas_27, xal_27, xal_28, xas_29, xal_29, xln_29, xas_30, xal_30, xln_30, xas_31, xal_31, xln_31, xas_32, xal_32, xln_32, xas_33, xal_33, xln_33, xas_34, xal_34, xln_34, xas0_35, xas1_35, xasb_35, xal_35, xal_36, xas_37, xal_37, xln_37, xas_88, xal_88, xln_88, xal_89, xas_89, xln_89, xas_103, xal_103, xln_103, xas_104, xal_104, xln_104, xas_105, xal_105, xln_105, xas_106, xal_106, xln_106, xas_107, xal_107, xln_107, xal_13, xal_in14, xas_in14, xln_in14, xal_38, xal_in39, xas_in39, xln_in39, xal_52, xal_in53, xas_in53, xln_in53, xal_61, xal_in62, xas_in62, xln_in62, xal_70, xal_in71, xas_in71, xln_in71, xal_79, xal_in80, xas_in80, xln_in80, xal_91, xal_in92, xas_in92, xln_in92, cl_some, nm_b, nn_some, qn_some, qn_none, zk_0, zk_1, zk_n0, zk_n1, nI_add, pk_mul, pk_sub, nI_leE, nI_ltE, nI_eqE, nI_lt0, nI_ge0, nI_eq0, nI_gt0, nI_le0, ilt_t, ilt_f, ile_t, ile_f, ieq_t, ieq_f, if_tt, if_ff, Nat.add_sub_cancel]
        by_cases c4 : td + d ≤ 999
        · rw [if_pos c4, if_pos c4, if_pos c4]
          exact x_run61 (nx := nx) h10 hp c4 d 0 fuelL c (by omega) (by unfold fuelL; omega) hC hP.1 hT
        · rw [if_neg c4, if_neg c4, if_neg c4]
          exact ⟨c, rfl, FrX.rf, hC⟩
end XR3
