/-! THE CLASS's outlook: the paths of a thing -/
def paK (S : MS) (t : Nat) (z : Int32 × Int32) : Nat → Int32 × Int32
  | 0 => z
  | j + 1 => (overF S t (paK S t z j).1 (paK S t z j).2, laterF (paK S t z j).2)
/-- known and days that can be -/
def KdV (z : Int32 × Int32) : Prop := ∃ k d, k ≤ 1000000 ∧ d ≤ 999 ∧ z = (nI k, nI d)
def PT (t k : Nat) : Prop := k = 53 + t ∨ k = 62 + t ∨ k = 71 + t
def PU (t k : Nat) : Prop := k = 53 + t ∨ k = 62 + t ∨ k = 71 + t ∨ k = 80 + t
/-- a path laid from a spot on -/
def LPa (c : CS) (S : MS) (t a : Nat) (z : Int32 × Int32) (fr n : Nat) : Prop := ∀ i, i ≤ n → xa c (53 + t) (fr + i) = (paK S t z i).1 ∧ xa c (62 + t) (fr + i) = (paK S t z i).2 ∧ xa c (71 + t) (fr + i) = brI (ma S 1) a (paK S t z i).1
/-- the beginnings of the three paths -/
def stZ (s : Nat → Int32) (t kk : Nat) : Int32 × Int32 := if kk = 0 then (s (1034 + t), s (1042 + t)) else if kk = 1 then (nI 1000000, nI 0) else (nI 0, nI 0)
def Laid (c : CS) (S : MS) (t a n : Nat) : Prop := ∀ kk, kk < 3 → LPa c S t a (stZ (ma S 1) t kk) (11 * kk) n
theorem later_eq {d : Nat} (hd : d ≤ 999) : laterF (nI d) = mnI (nI 999) (nI (d + 1)) ∧ ∃ d', d' ≤ 999 ∧ laterF (nI d) = nI d' := by
  unfold laterF mnI
  simp (disch := omega) only [nI_ltE, nI_add]
  by_cases c : d < 999
  · rw [if_pos c]
    refine ⟨?_, d + 1, by omega, rfl⟩
    by_cases c2 : d + 1 < 999
    · rw [if_pos c2]
    · rw [if_neg c2, show d + 1 = 999 by omega]
  · rw [if_neg c, if_neg (by omega)]
    exact ⟨rfl, 999, by omega, rfl⟩
section XL
variable {G : Gx} {X lo nx : Nat} {h0 : Hp} {c : CS} {S : MS} {t a p : Nat} {y : Int32}
theorem over_ovI (ha : sN (ma S 1) (1010 + t) = a) (hy : (if nI t = mi S 10 then mi S 11 else nI 0) = y) (kn d : Int32) : overF S t kn d = ovI (ma S 1) a kn d (ma S 1 (1018 + t)) y := by
  unfold overF illF healF ovI
  rw [ha, hy]
theorem br_ovI (hX : XT G X lo h0 c (ma S 1) t a p) {k : Nat} (hk : k ≤ 1000000) : (brI (ma S 1) a (nI k)).toInt64 = brF (ma S 1) t (nI k) ∧ Bd (brF (ma S 1) t (nI k)) 999000 := by
  obtain ⟨a6, ha, _, _, _, hs, _⟩ := hX
  have e := brI_w (hs c) hk
  have e2 : brF (ma S 1) t (nI k) = (nI k).toInt64 * (ma S 1 (140 + 4 * a)).toInt64 / 1000 - (nI 1000000 - nI k).toInt64 * (ma S 1 (140 + 4 * a + 1)).toInt64 / 1000 := by
    unfold brF valF
    rw [ha]
    rfl
  rw [e2, ← e.1]
  exact ⟨rfl, e.2⟩
theorem over_V (hX : XT G X lo h0 c (ma S 1) t a p) {z : Int32 × Int32} (hz : KdV z) : KdV (overF S t z.1 z.2, laterF z.2) := by
  obtain ⟨a6, ha, _, _, _, hs, _⟩ := hX
  obtain ⟨k, d, hk, hd, rfl⟩ := hz
  obtain ⟨k', hk', ek⟩ := ovI_le (hs c) hk (nI d) (ma S 1 (1018 + t)) (if nI t = mi S 10 then mi S 11 else nI 0)
  obtain ⟨_, d', hd', ed⟩ := later_eq hd
  refine ⟨k', d', hk', hd', ?_⟩
  rw [over_ovI ha rfl, ek, ed]
theorem paK_V (hX : XT G X lo h0 c (ma S 1) t a p) {z : Int32 × Int32} (hz : KdV z) : ∀ j, KdV (paK S t z j)
  | 0 => hz
  | j + 1 => over_V hX (paK_V hX hz j)
set_option maxRecDepth 100000 in
set_option maxHeartbeats 1000000 in
theorem x_layPath23 (ht : t < 8) (hX : XT G X lo h0 c (ma S 1) t a p) (hy : (if nI t = mi S 10 then mi S 11 else nI 0) = y) {z : Int32 × Int32} (hz : KdV z) {fr n : Nat} (hn : fr + n < 33) : ∀ (r j m : Nat) (c1 : CS), j + r = n + 1 → r < m → FrX (PT t) c c1 → (∀ i, i ≤ j → i ≤ n → xa c1 (53 + t) (fr + i) = (paK S t z i).1 ∧ xa c1 (62 + t) (fr + i) = (paK S t z i).2) → (∀ i, i < j → xa c1 (71 + t) (fr + i) = brI (ma S 1) a (paK S t z i).1) → (∀ i, i < fr ∨ fr + n < i → xa c1 (53 + t) i = xa c (53 + t) i ∧ xa c1 (62 + t) i = xa c (62 + t) i ∧ xa c1 (71 + t) i = xa c (71 + t) i) →
    ∃ c' : CS, F_X5_layPath_23 G m (encX G X c1 h0) nx (X + 51) (nI t) y (some p) (nI (fr + n)) (nI (fr + j)) = some ((), encX G X c' h0, nx) ∧ FrX (PT t) c c' ∧ LPa c' S t a z fr n ∧ (∀ i, i < fr ∨ fr + n < i → xa c' (53 + t) i = xa c (53 + t) i ∧ xa c' (62 + t) i = xa c (62 + t) i ∧ xa c' (71 + t) i = xa c (71 + t) i) := by
  obtain ⟨a6, ha, _, _, _, hs, e5, _⟩ := id hX
  have ov := fun kn d => over_ovI (t := t) ha hy kn d
  have ck7 : ∀ (c2 : CS) {β : Type} {f : Nat → Option β}, ck (encX G X c2 h0) p [7] f = f 7 := fun c2 => x_ck7 (hs c2)
  have eb : ∀ (c2 : CS) (kn : Int32), F_X7_bringsBy G (encX G X c2 h0) nx p kn = some (brI (ma S 1) a kn, encX G X c2 h0, nx) := fun c2 kn => x_bringsBy (hs c2) kn
  intro r
  induction r with
  | zero =>
    intro j m c1 hj hm hF h1 h2 h3
    obtain ⟨m, rfl⟩ : ∃ q, m = q + 1 := ⟨m - 1, by omega⟩
    refine ⟨c1, ?_, hF, fun i hi => ⟨(h1 i (by omega) hi).1, (h1 i (by omega) hi).2, h2 i (by omega)⟩, h3⟩
    rw [F_X5_layPath_23_s]
    simp (maxSteps := 3000000) (disch := omega) only [cl_some, nm_b, nn_some, qn_some, qn_none, zk_0, zk_1, zk_n0, zk_n1, nI_add, pk_mul, pk_sub, nI_leE, nI_ltE, nI_eqE, nI_lt0, nI_ge0, nI_eq0, nI_gt0, nI_le0, ilt_t, ilt_f, ile_t, ile_f, ieq_t, ieq_f, if_tt, if_ff, Nat.add_sub_cancel]
  | succ r ih =>
    intro j m c1 hj hm hF h1 h2 h3
    obtain ⟨m, rfl⟩ : ∃ q, m = q + 1 := ⟨m - 1, by omega⟩
    obtain ⟨k, d, hk, hd, ez⟩ := paK_V hX hz j
    obtain ⟨q1, q2⟩ := h1 j (by omega) (by omega)
    rw [ez] at q1 q2
    have q1 : xa c1 (53 + t) (fr + j) = nI k := q1
    have q2 : xa c1 (62 + t) (fr + j) = nI d := q2
    have ek : ∀ (c2 : CS), F_X7_knownOver G (encX G X c2 h0) nx p (nI k) (nI d) (ma S 1 (1018 + t)) y = some (overF S t (nI k) (nI d), encX G X c2 h0, nx) := fun c2 => by rw [ov]; exact x_knownOver (hs c2) hk _ _ _
    have e5' : xa c1 5 t = ma S 1 (1018 + t) := (congrFun (hF.a 5 (by unfold PT; omega)) t).trans e5
    have l1 := (later_eq hd).1
    rw [F_X5_layPath_23_s]
    unfold F_X5_layPath_127
    by_cases cl : j = n
    · subst cl
      let c2 : CS := xsa c1 (71 + t) (upK (xa c1 (71 + t)) (fr + j) (brI (ma S 1) a (nI k)))
      obtain ⟨c', r1, r2⟩ := ih (j + 1) m c2 (by omega) (by omega) (hF.trans (FrX.sa (P := PT t) (Or.inr (Or.inr rfl))) (fun _ z => z) (fun _ z => z)) (fun i h4 h5 => by
          show xa (xsa c1 (71 + t) _) (53 + t) _ = _ ∧ xa (xsa c1 (71 + t) _) (62 + t) _ = _
          rw [xa_xsa_n (by omega), xa_xsa_n (by omega)]
          exact h1 i h5 h5) (fun i h4 => by
          show xa (xsa c1 (71 + t) _) (71 + t) _ = _
          rw [xa_xsa_s]
          by_cases ei : i = j
          · subst ei
            rw [upK_s, ez]
          · rw [upK_n (by omega)]
            exact h2 i (by omega)) (fun i h4 => by
          show xa (xsa c1 (71 + t) _) (53 + t) _ = _ ∧ xa (xsa c1 (71 + t) _) (62 + t) _ = _ ∧ xa (xsa c1 (71 + t) _) (71 + t) _ = _
          rw [xa_xsa_n (by omega), xa_xsa_n (by omega), xa_xsa_s, upK_n (by omega)]
          exact h3 i h4)
      refine ⟨c', ?_, r2⟩
      simp (maxSteps := 3000000) (disch := omega) only [q1, q2, ck7, eb, xi_xsi_s, xi_xsi_n, xl_xsi, xa_xsi, xj_xsi, xr_xsi, xsi_xsi, xi_xsl, xl_xsl_s, xl_xsl_n, xa_xsl, xj_xsl, xr_xsl, xsl_xsl, xi_xsa, xl_xsa, xa_xsa_s, xa_xsa_n, xj_xsa, xr_xsa, xsa_xsa, xi_xsj, xl_xsj, xa_xsj, xj_xsj_s, xj_xsj_n, xr_xsj, xsj_xsj, xi_xsr, xl_xsr, xa_xsr, xj_xsr, xr_xsr_s, xr_xsr_n, xsr_xsr, xk_0, xg_0_0, xg_0_1, xg_0_2, xp_0_2, xg_0_3, xg_0_4, xg_0_5, xg_0_6, xk_1, xg_1_0, xg_1_1, xp_1_1, xg_1_2, xg_1_3, xp_1_3, xg_1_4, xg_1_5, xg_1_6, xg_1_7, xg_1_8, xg_1_9, xg_1_10, xg_1_11, xp_1_11, xg_1_12, xg_1_13, xg_1_14, xg_1_15, xp_1_15, xg_1_16, xp_1_16, xg_1_17, xp_1_17, xk_26, xg_26_0, xg_26_1, xp_26_1, xg_26_2, xg_26_3, xp_26_3, xg_26_4, xg_26_5, xg_26_6, xg_26_7, xg_26_8, xg_26_9, xg_26_10, xg_26_11, xp_26_11, xg_26_12, xg_26_13, xg_26_14, xg_26_15, xp_26_15, xg_26_16, xp_26_16, xg_26_17, xp_26_17, xk_51, xg_51_0, xg_51_1, xg_51_2, xg_51_3, xg_51_4, xg_51_5, xg_51_6, xg_51_7, xp_51_7, xg_51_8, xp_51_8, xk_90, xg_90_0, xg_90_1, xg_90_2, xg_90_3, xp_90_3, xg_90_4, xg_90_5, xp_90_5, xg_90_6, xg_90_7, xp_90_7, xg_90_8, xp_90_8, xg_90_9, xp_90_9, xg_90_10, xas_2, xal_2, xal_3, xas_4, xal_4, xln_4, xas_5, xal_5, xln_5, xas_6, xal_6, xln_6, xas_7, xal_7, xln_7, xas_8, xal_8, xln_8, xas_9, xal_9, xln_9, xas0_10, xas1_10, xasb_10, xal_10, xal_11, xas_12, xal_12, xln_12, xas_27, xal_27, xal_28, xas_29, xal_29, xln_29, xas_30, xal_30, xln_30, xas_31, xal_31, xln_31, xas_32, xal_32, xln_32, xas_33, xal_33, xln_33, xas_34, xal_34, xln_34, xas0_35, xas1_35, xasb_35, xal_35, xal_36, xas_37, xal_37, xln_37, xas_88, xal_88, xln_88, xal_89, xas_89, xln_89, xas_103, xal_103, xln_103, xas_104, xal_104, xln_104, xas_105, xal_105, xln_105, xas_106, xal_106, xln_106, xas_107, xal_107, xln_107, xal_13, xal_in14, xas_in14, xln_in14, xal_38, xal_in39, xas_in39, xln_in39, xal_52, xal_in53, xas_in53, xln_in53, xal_61, xal_in62, xas_in62, xln_in62, xal_70, xal_in71, xas_in71, xln_in71, xal_79, xal_in80, xas_in80, xln_in80, xal_91, xal_in92, xas_in92, xln_in92, cl_some, nm_b, nn_some, qn_some, qn_none, zk_0, zk_1, zk_n0, zk_n1, nI_add, pk_mul, pk_sub, nI_leE, nI_ltE, nI_eqE, nI_lt0, nI_ge0, nI_eq0, nI_gt0, nI_le0, ilt_t, ilt_f, ile_t, ile_f, ieq_t, ieq_f, if_tt, if_ff, Nat.add_sub_cancel]
      exact r1
    · let c2 : CS := xsa (xsa (xsa c1 (71 + t) (upK (xa c1 (71 + t)) (fr + j) (brI (ma S 1) a (nI k)))) (53 + t) (upK (xa c1 (53 + t)) (fr + j + 1) (overF S t (nI k) (nI d)))) (62 + t) (upK (xa c1 (62 + t)) (fr + j + 1) (mnI (nI 999) (nI (d + 1))))
      have w53 : xa c2 (53 + t) = upK (xa c1 (53 + t)) (fr + j + 1) (overF S t (nI k) (nI d)) := by
        show xa (xsa (xsa (xsa c1 _ _) _ _) _ _) (53 + t) = _
        rw [xa_xsa_n (by omega), xa_xsa_s]
      have w62 : xa c2 (62 + t) = upK (xa c1 (62 + t)) (fr + j + 1) (mnI (nI 999) (nI (d + 1))) := xa_xsa_s
      have w71 : xa c2 (71 + t) = upK (xa c1 (71 + t)) (fr + j) (brI (ma S 1) a (nI k)) := by
        show xa (xsa (xsa (xsa c1 _ _) _ _) _ _) (71 + t) = _
        rw [xa_xsa_n (by omega), xa_xsa_n (by omega), xa_xsa_s]
      obtain ⟨c', r1, r2⟩ := ih (j + 1) m c2 (by omega) (by omega) (((hF.trans (FrX.sa (P := PT t) (Or.inr (Or.inr rfl))) (fun _ z => z) (fun _ z => z)).trans (FrX.sa (P := PT t) (Or.inl rfl)) (fun _ z => z) (fun _ z => z)).trans (FrX.sa (P := PT t) (Or.inr (Or.inl rfl))) (fun _ z => z) (fun _ z => z)) (fun i h4 h5 => by
          rw [w53, w62]
          by_cases ei : i = j + 1
          · subst ei
            rw [show fr + (j + 1) = fr + j + 1 by omega, upK_s, upK_s]
            show _ = overF S t (paK S t z j).1 (paK S t z j).2 ∧ _ = laterF (paK S t z j).2
            rw [ez]
            exact ⟨rfl, l1.symm⟩
          · rw [upK_n (by omega), upK_n (by omega)]
            exact h1 i (by omega) h5) (fun i h4 => by
          rw [w71]
          by_cases ei : i = j
          · subst ei
            rw [upK_s, ez]
          · rw [upK_n (by omega)]
            exact h2 i (by omega)) (fun i h4 => by
          rw [w53, w62, w71, upK_n (by omega), upK_n (by omega), upK_n (by omega)]
          exact h3 i h4)
      refine ⟨c', ?_, r2⟩
      simp (maxSteps := 3000000) (disch := omega) only [q1, q2, ck7, eb, e5', ek, xi_xsi_s, xi_xsi_n, xl_xsi, xa_xsi, xj_xsi, xr_xsi, xsi_xsi, xi_xsl, xl_xsl_s, xl_xsl_n, xa_xsl, xj_xsl, xr_xsl, xsl_xsl, xi_xsa, xl_xsa, xa_xsa_s, xa_xsa_n, xj_xsa, xr_xsa, xsa_xsa, xi_xsj, xl_xsj, xa_xsj, xj_xsj_s, xj_xsj_n, xr_xsj, xsj_xsj, xi_xsr, xl_xsr, xa_xsr, xj_xsr, xr_xsr_s, xr_xsr_n, xsr_xsr, xk_0, xg_0_0, xg_0_1, xg_0_2, xp_0_2, xg_0_3, xg_0_4, xg_0_5, xg_0_6, xk_1, xg_1_0, xg_1_1, xp_1_1, xg_1_2, xg_1_3, xp_1_3, xg_1_4, xg_1_5, xg_1_6, xg_1_7, xg_1_8, xg_1_9, xg_1_10, xg_1_11, xp_1_11, xg_1_12, xg_1_13, xg_1_14, xg_1_15, xp_1_15, xg_1_16, xp_1_16, xg_1_17, xp_1_17, xk_26, xg_26_0, xg_26_1, xp_26_1, xg_26_2, xg_26_3, xp_26_3, xg_26_4, xg_26_5, xg_26_6, xg_26_7, xg_26_8, xg_26_9, xg_26_10, xg_26_11, xp_26_11, xg_26_12, xg_26_13, xg_26_14, xg_26_15, xp_26_15, xg_26_16, xp_26_16, xg_26_17, xp_26_17, xk_51, xg_51_0, xg_51_1, xg_51_2, xg_51_3, xg_51_4, xg_51_5, xg_51_6, xg_51_7, xp_51_7, xg_51_8, xp_51_8, xk_90, xg_90_0, xg_90_1, xg_90_2, xg_90_3, xp_90_3, xg_90_4, xg_90_5, xp_90_5, xg_90_6, xg_90_7, xp_90_7, xg_90_8, xp_90_8, xg_90_9, xp_90_9, xg_90_10, xas_2, xal_2, xal_3, xas_4, xal_4, xln_4, xas_5, xal_5, xln_5, xas_6, xal_6, xln_6, xas_7, xal_7, xln_7, xas_8, xal_8, xln_8, xas_9, xal_9, xln_9, xas0_10, xas1_10, xasb_10, xal_10, xal_11, xas_12, xal_12, xln_12, xas_27, xal_27, xal_28, xas_29, xal_29, xln_29, xas_30, xal_30, xln_30, xas_31, xal_31, xln_31, xas_32, xal_32, xln_32, xas_33, xal_33, xln_33, xas_34, xal_34, xln_34, xas0_35, xas1_35, xasb_35, xal_35, xal_36, xas_37, xal_37, xln_37, xas_88, xal_88, xln_88, xal_89, xas_89, xln_89, xas_103, xal_103, xln_103, xas_104, xal_104, xln_104, xas_105, xal_105, xln_105, xas_106, xal_106, xln_106, xas_107, xal_107, xln_107, xal_13, xal_in14, xas_in14, xln_in14, xal_38, xal_in39, xas_in39, xln_in39, xal_52, xal_in53, xas_in53, xln_in53, xal_61, xal_in62, xas_in62, xln_in62, xal_70, xal_in71, xas_in71, xln_in71, xal_79, xal_in80, xas_in80, xln_in80, xal_91, xal_in92, xas_in92, xln_in92, cl_some, nm_b, nn_some, qn_some, qn_none, zk_0, zk_1, zk_n0, zk_n1, nI_add, pk_mul, pk_sub, nI_leE, nI_ltE, nI_eqE, nI_lt0, nI_ge0, nI_eq0, nI_gt0, nI_le0, ilt_t, ilt_f, ile_t, ile_f, ieq_t, ieq_f, if_tt, if_ff, Nat.add_sub_cancel]
      exact r1
theorem x_layPath (ht : t < 8) (hX : XT G X lo h0 c (ma S 1) t a p) (hy : (if nI t = mi S 10 then mi S 11 else nI 0) = y) {z : Int32 × Int32} (hz : KdV z) {fr n : Nat} (hn : n ≤ 10) (hf : fr ≤ 22) (h1 : xa c (53 + t) fr = z.1) (h2 : xa c (62 + t) fr = z.2) : ∃ c' : CS, F_X5_layPath G (encX G X c h0) nx (X + 51) (nI t) (nI fr) (nI n) y = some ((), encX G X c' h0, nx) ∧ FrX (PT t) c c' ∧ LPa c' S t a z fr n ∧ (∀ i, i < fr ∨ fr + n < i → xa c' (53 + t) i = xa c (53 + t) i ∧ xa c' (62 + t) i = xa c (62 + t) i ∧ xa c' (71 + t) i = xa c (71 + t) i) := by
  obtain ⟨c', r1, r2⟩ := x_layPath23 (nx := nx) ht hX hy hz (fr := fr) (n := n) (by omega) (n + 1) 0 fuelL c (by omega) (by unfold fuelL; omega) FrX.rf (fun i h3 _ => by
    obtain rfl : i = 0 := by omega
    exact ⟨h1, h2⟩) (fun i h3 => absurd h3 (by omega)) (fun i _ => ⟨rfl, rfl, rfl⟩)
  have es := x_sortAt (nx := nx) hX ht
  have em : mnI (nI n) (nI 10) = nI n := by
    unfold mnI
    simp (disch := omega) only [nI_ltE]
    rw [if_neg (by omega)]
  refine ⟨c', ?_, r2⟩
  unfold F_X5_layPath
  simp (maxSteps := 3000000) (disch := omega) only [es, em, xi_xsi_s, xi_xsi_n, xl_xsi, xa_xsi, xj_xsi, xr_xsi, xsi_xsi, xi_xsl, xl_xsl_s, xl_xsl_n, xa_xsl, xj_xsl, xr_xsl, xsl_xsl, xi_xsa, xl_xsa, xa_xsa_s, xa_xsa_n, xj_xsa, xr_xsa, xsa_xsa, xi_xsj, xl_xsj, xa_xsj, xj_xsj_s, xj_xsj_n, xr_xsj, xsj_xsj, xi_xsr, xl_xsr, xa_xsr, xj_xsr, xr_xsr_s, xr_xsr_n, xsr_xsr, xk_0, xg_0_0, xg_0_1, xg_0_2, xp_0_2, xg_0_3, xg_0_4, xg_0_5, xg_0_6, xk_1, xg_1_0, xg_1_1, xp_1_1, xg_1_2, xg_1_3, xp_1_3, xg_1_4, xg_1_5, xg_1_6, xg_1_7, xg_1_8, xg_1_9, xg_1_10, xg_1_11, xp_1_11, xg_1_12, xg_1_13, xg_1_14, xg_1_15, xp_1_15, xg_1_16, xp_1_16, xg_1_17, xp_1_17, xk_26, xg_26_0, xg_26_1, xp_26_1, xg_26_2, xg_26_3, xp_26_3, xg_26_4, xg_26_5, xg_26_6, xg_26_7, xg_26_8, xg_26_9, xg_26_10, xg_26_11, xp_26_11, xg_26_12, xg_26_13, xg_26_14, xg_26_15, xp_26_15, xg_26_16, xp_26_16, xg_26_17, xp_26_17, xk_51, xg_51_0, xg_51_1, xg_51_2, xg_51_3, xg_51_4, xg_51_5, xg_51_6, xg_51_7, xp_51_7, xg_51_8, xp_51_8, xk_90, xg_90_0, xg_90_1, xg_90_2, xg_90_3, xp_90_3, xg_90_4, xg_90_5, xp_90_5, xg_90_6, xg_90_7, xp_90_7, xg_90_8, xp_90_8, xg_90_9, xp_90_9, xg_90_10, xas_2, xal_2, xal_3, xas_4, xal_4, xln_4, xas_5, xal_5, xln_5, xas_6, xal_6, xln_6, xas_7, xal_7, xln_7, xas_8, xal_8, xln_8, xas_9, xal_9, xln_9, xas0_10, xas1_10, xasb_10, xal_10, xal_11, xas_12, xal_12, xln_12, xas_27, xal_27, xal_28, xas_29, xal_29, xln_29, xas_30, xal_30, xln_30, xas_31, xal_31, xln_31, xas_32, xal_32, xln_32, xas_33, xal_33, xln_33, xas_34, xal_34, xln_34, xas0_35, xas1_35, xasb_35, xal_35, xal_36, xas_37, xal_37, xln_37, xas_88, xal_88, xln_88, xal_89, xas_89, xln_89, xas_103, xal_103, xln_103, xas_104, xal_104, xln_104, xas_105, xal_105, xln_105, xas_106, xal_106, xln_106, xas_107, xal_107, xln_107, xal_13, xal_in14, xas_in14, xln_in14, xal_38, xal_in39, xas_in39, xln_in39, xal_52, xal_in53, xas_in53, xln_in53, xal_61, xal_in62, xas_in62, xln_in62, xal_70, xal_in71, xas_in71, xln_in71, xal_79, xal_in80, xas_in80, xln_in80, xal_91, xal_in92, xas_in92, xln_in92, cl_some, nm_b, nn_some, qn_some, qn_none, zk_0, zk_1, zk_n0, zk_n1, nI_add, pk_mul, pk_sub, nI_leE, nI_ltE, nI_eqE, nI_lt0, nI_ge0, nI_eq0, nI_gt0, nI_le0, ilt_t, ilt_f, ile_t, ile_f, ieq_t, ieq_f, if_tt, if_ff, Nat.add_sub_cancel]
  exact r1
set_option maxRecDepth 100000 in
set_option maxHeartbeats 1000000 in
theorem x_fill5 (ht : t < 8) {v : Int32} : ∀ (r i m : Nat) (g : Nat → Int32), i + r = 33 → r < m → (∀ j, j < i → g j = v) → ∃ g' : Nat → Int32, F_J7_fill_53178_5 G m (encX G X (xsa c (80 + t) g) h0) nx (X + 80 + t) v (nI i) (nI 33) = some ((), encX G X (xsa c (80 + t) g') h0, nx) ∧ ∀ j, j < 33 → g' j = v := by
  intro r
  induction r with
  | zero =>
    intro i m g hi hm hg
    obtain ⟨m, rfl⟩ : ∃ q, m = q + 1 := ⟨m - 1, by omega⟩
    refine ⟨g, ?_, fun j hj => hg j (by omega)⟩
    rw [F_J7_fill_53178_5_s]
    simp (maxSteps := 3000000) (disch := omega) only [cl_some, nm_b, nn_some, qn_some, qn_none, zk_0, zk_1, zk_n0, zk_n1, nI_add, pk_mul, pk_sub, nI_leE, nI_ltE, nI_eqE, nI_lt0, nI_ge0, nI_eq0, nI_gt0, nI_le0, ilt_t, ilt_f, ile_t, ile_f, ieq_t, ieq_f, if_tt, if_ff, Nat.add_sub_cancel]
  | succ r ih =>
    intro i m g hi hm hg
    obtain ⟨m, rfl⟩ : ∃ q, m = q + 1 := ⟨m - 1, by omega⟩
    obtain ⟨g', r1, r2⟩ := ih (i + 1) m (upK g i v) (by omega) (by omega) (fun j hj => by
      by_cases e : j = i
      · subst e; exact upK_s
      · rw [upK_n e]; exact hg j (by omega))
    refine ⟨g', ?_, r2⟩
    rw [F_J7_fill_53178_5_s]
    simp (maxSteps := 3000000) (disch := omega) only [xi_xsi_s, xi_xsi_n, xl_xsi, xa_xsi, xj_xsi, xr_xsi, xsi_xsi, xi_xsl, xl_xsl_s, xl_xsl_n, xa_xsl, xj_xsl, xr_xsl, xsl_xsl, xi_xsa, xl_xsa, xa_xsa_s, xa_xsa_n, xj_xsa, xr_xsa, xsa_xsa, xi_xsj, xl_xsj, xa_xsj, xj_xsj_s, xj_xsj_n, xr_xsj, xsj_xsj, xi_xsr, xl_xsr, xa_xsr, xj_xsr, xr_xsr_s, xr_xsr_n, xsr_xsr, xk_0, xg_0_0, xg_0_1, xg_0_2, xp_0_2, xg_0_3, xg_0_4, xg_0_5, xg_0_6, xk_1, xg_1_0, xg_1_1, xp_1_1, xg_1_2, xg_1_3, xp_1_3, xg_1_4, xg_1_5, xg_1_6, xg_1_7, xg_1_8, xg_1_9, xg_1_10, xg_1_11, xp_1_11, xg_1_12, xg_1_13, xg_1_14, xg_1_15, xp_1_15, xg_1_16, xp_1_16, xg_1_17, xp_1_17, xk_26, xg_26_0, xg_26_1, xp_26_1, xg_26_2, xg_26_3, xp_26_3, xg_26_4, xg_26_5, xg_26_6, xg_26_7, xg_26_8, xg_26_9, xg_26_10, xg_26_11, xp_26_11, xg_26_12, xg_26_13, xg_26_14, xg_26_15, xp_26_15, xg_26_16, xp_26_16, xg_26_17, xp_26_17, xk_51, xg_51_0, xg_51_1, xg_51_2, xg_51_3, xg_51_4, xg_51_5, xg_51_6, xg_51_7, xp_51_7, xg_51_8, xp_51_8, xk_90, xg_90_0, xg_90_1, xg_90_2, xg_90_3, xp_90_3, xg_90_4, xg_90_5, xp_90_5, xg_90_6, xg_90_7, xp_90_7, xg_90_8, xp_90_8, xg_90_9, xp_90_9, xg_90_10, xas_2, xal_2, xal_3, xas_4, xal_4, xln_4, xas_5, xal_5, xln_5, xas_6, xal_6, xln_6, xas_7, xal_7, xln_7, xas_8, xal_8, xln_8, xas_9, xal_9, xln_9, xas0_10, xas1_10, xasb_10, xal_10, xal_11, xas_12, xal_12, xln_12, xas_27, xal_27, xal_28, xas_29, xal_29, xln_29, xas_30, xal_30, xln_30, xas_31, xal_31, xln_31, xas_32, xal_32, xln_32, xas_33, xal_33, xln_33, xas_34, xal_34, xln_34, xas0_35, xas1_35, xasb_35, xal_35, xal_36, xas_37, xal_37, xln_37, xas_88, xal_88, xln_88, xal_89, xas_89, xln_89, xas_103, xal_103, xln_103, xas_104, xal_104, xln_104, xas_105, xal_105, xln_105, xas_106, xal_106, xln_106, xas_107, xal_107, xln_107, xal_13, xal_in14, xas_in14, xln_in14, xal_38, xal_in39, xas_in39, xln_in39, xal_52, xal_in53, xas_in53, xln_in53, xal_61, xal_in62, xas_in62, xln_in62, xal_70, xal_in71, xas_in71, xln_in71, xal_79, xal_in80, xas_in80, xln_in80, xal_91, xal_in92, xas_in92, xln_in92, cl_some, nm_b, nn_some, qn_some, qn_none, zk_0, zk_1, zk_n0, zk_n1, nI_add, pk_mul, pk_sub, nI_leE, nI_ltE, nI_eqE, nI_lt0, nI_ge0, nI_eq0, nI_gt0, nI_le0, ilt_t, ilt_f, ile_t, ile_f, ieq_t, ieq_f, if_tt, if_ff, Nat.add_sub_cancel]
    exact r1
theorem x_fillW (ht : t < 8) {v : Int32} : ∃ g' : Nat → Int32, F_J7_fill_53178 G (encX G X c h0) nx (X + 80 + t) v = some ((), encX G X (xsa c (80 + t) g') h0, nx) ∧ ∀ j, j < 33 → g' j = v := by
  obtain ⟨g', r1, r2⟩ := x_fill5 (G := G) (X := X) (nx := nx) (h0 := h0) (c := c) ht (v := v) 33 0 fuelL (xa c (80 + t)) (by omega) (by unfold fuelL; omega) (fun j hj => absurd hj (by omega))
  refine ⟨g', ?_, r2⟩
  unfold F_J7_fill_53178
  rw [xsa_self] at r1
  simp (maxSteps := 3000000) (disch := omega) only [xi_xsi_s, xi_xsi_n, xl_xsi, xa_xsi, xj_xsi, xr_xsi, xsi_xsi, xi_xsl, xl_xsl_s, xl_xsl_n, xa_xsl, xj_xsl, xr_xsl, xsl_xsl, xi_xsa, xl_xsa, xa_xsa_s, xa_xsa_n, xj_xsa, xr_xsa, xsa_xsa, xi_xsj, xl_xsj, xa_xsj, xj_xsj_s, xj_xsj_n, xr_xsj, xsj_xsj, xi_xsr, xl_xsr, xa_xsr, xj_xsr, xr_xsr_s, xr_xsr_n, xsr_xsr, xk_0, xg_0_0, xg_0_1, xg_0_2, xp_0_2, xg_0_3, xg_0_4, xg_0_5, xg_0_6, xk_1, xg_1_0, xg_1_1, xp_1_1, xg_1_2, xg_1_3, xp_1_3, xg_1_4, xg_1_5, xg_1_6, xg_1_7, xg_1_8, xg_1_9, xg_1_10, xg_1_11, xp_1_11, xg_1_12, xg_1_13, xg_1_14, xg_1_15, xp_1_15, xg_1_16, xp_1_16, xg_1_17, xp_1_17, xk_26, xg_26_0, xg_26_1, xp_26_1, xg_26_2, xg_26_3, xp_26_3, xg_26_4, xg_26_5, xg_26_6, xg_26_7, xg_26_8, xg_26_9, xg_26_10, xg_26_11, xp_26_11, xg_26_12, xg_26_13, xg_26_14, xg_26_15, xp_26_15, xg_26_16, xp_26_16, xg_26_17, xp_26_17, xk_51, xg_51_0, xg_51_1, xg_51_2, xg_51_3, xg_51_4, xg_51_5, xg_51_6, xg_51_7, xp_51_7, xg_51_8, xp_51_8, xk_90, xg_90_0, xg_90_1, xg_90_2, xg_90_3, xp_90_3, xg_90_4, xg_90_5, xp_90_5, xg_90_6, xg_90_7, xp_90_7, xg_90_8, xp_90_8, xg_90_9, xp_90_9, xg_90_10, xas_2, xal_2, xal_3, xas_4, xal_4, xln_4, xas_5, xal_5, xln_5, xas_6, xal_6, xln_6, xas_7, xal_7, xln_7, xas_8, xal_8, xln_8, xas_9, xal_9, xln_9, xas0_10, xas1_10, xasb_10, xal_10, xal_11, xas_12, xal_12, xln_12, xas_27, xal_27, xal_28, xas_29, xal_29, xln_29, xas_30, xal_30, xln_30, xas_31, xal_31, xln_31, xas_32, xal_32, xln_32, xas_33, xal_33, xln_33, xas_34, xal_34, xln_34, xas0_35, xas1_35, xasb_35, xal_35, xal_36, xas_37, xal_37, xln_37, xas_88, xal_88, xln_88, xal_89, xas_89, xln_89, xas_103, xal_103, xln_103, xas_104, xal_104, xln_104, xas_105, xal_105, xln_105, xas_106, xal_106, xln_106, xas_107, xal_107, xln_107, xal_13, xal_in14, xas_in14, xln_in14, xal_38, xal_in39, xas_in39, xln_in39, xal_52, xal_in53, xas_in53, xln_in53, xal_61, xal_in62, xas_in62, xln_in62, xal_70, xal_in71, xas_in71, xln_in71, xal_79, xal_in80, xas_in80, xln_in80, xal_91, xal_in92, xas_in92, xln_in92, cl_some, nm_b, nn_some, qn_some, qn_none, zk_0, zk_1, zk_n0, zk_n1, nI_add, pk_mul, pk_sub, nI_leE, nI_ltE, nI_eqE, nI_lt0, nI_ge0, nI_eq0, nI_gt0, nI_le0, ilt_t, ilt_f, ile_t, ile_f, ieq_t, ieq_f, if_tt, if_ff, Nat.add_sub_cancel]
  exact r1
set_option maxRecDepth 100000 in
set_option maxHeartbeats 1000000 in
theorem x_lay (ht : t < 8) (hX : XT G X lo h0 c (ma S 1) t a p) (hy : (if nI t = mi S 10 then mi S 11 else nI 0) = y) {n : Nat} (hn : n ≤ 10) : ∃ c' : CS, F_X5_lay G (encX G X c h0) nx (X + 51) (nI t) (nI n) y = some ((), encX G X c' h0, nx) ∧ FrX (PU t) c c' ∧ Laid c' S t a n ∧ ∀ j, j < 33 → xa c' (80 + t) j = -1 := by
  obtain ⟨g, ef, hg⟩ := x_fillW (G := G) (X := X) (nx := nx) (h0 := h0) (c := c) ht (v := -1)
  obtain ⟨a6, ha, _, _, _, hs, e5, e6, e7, e8, ⟨_, ⟨k, hk, ek⟩, ⟨d, hd, ed⟩, _⟩⟩ := id hX
  have pu : ∀ k, PU t k → 26 ≤ k ∧ k < 111 := fun k z => by unfold PU at z; omega
  have pt : ∀ k, PT t k → PU t k := fun k z => by unfold PU PT at *; omega
  let c1 : CS := xsa (xsa (xsa c (80 + t) g) (53 + t) (upK (xa c (53 + t)) 0 (nI k))) (62 + t) (upK (xa c (62 + t)) 0 (nI d))
  have f1 : FrX (PU t) c c1 := ((FrX.sa (P := PU t) (Or.inr (Or.inr (Or.inr rfl)))).trans (FrX.sa (P := PU t) (Or.inl rfl)) (fun _ z => z) (fun _ z => z)).trans (FrX.sa (P := PU t) (Or.inr (Or.inl rfl))) (fun _ z => z) (fun _ z => z)
  have X1 := hX.fr f1 pu
  have a53 : xa c1 (53 + t) = upK (xa c (53 + t)) 0 (nI k) := by
    show xa (xsa (xsa (xsa c _ _) _ _) _ _) (53 + t) = _
    rw [xa_xsa_n (by omega), xa_xsa_s]
  have a62 : xa c1 (62 + t) = upK (xa c (62 + t)) 0 (nI d) := xa_xsa_s
  have a80 : xa c1 (80 + t) = g := by
    show xa (xsa (xsa (xsa c _ _) _ _) _ _) (80 + t) = _
    rw [xa_xsa_n (by omega), xa_xsa_n (by omega), xa_xsa_s]
  obtain ⟨c2, r1, f2, l2, o2⟩ := x_layPath (nx := nx) ht X1 hy (z := (nI k, nI d)) ⟨k, d, hk, hd, rfl⟩ (fr := 0) hn (by omega) (by rw [a53, upK_s]) (by rw [a62, upK_s])
  let c3 : CS := xsa (xsa c2 (53 + t) (upK (xa c2 (53 + t)) 11 (nI 1000000))) (62 + t) (upK (xa c2 (62 + t)) 11 (nI 0))
  have f3 : FrX (PT t) c2 c3 := (FrX.sa (P := PT t) (Or.inl rfl)).trans (FrX.sa (P := PT t) (Or.inr (Or.inl rfl))) (fun _ z => z) (fun _ z => z)
  have b53 : xa c3 (53 + t) = upK (xa c2 (53 + t)) 11 (nI 1000000) := by
    show xa (xsa (xsa c2 _ _) _ _) (53 + t) = _
    rw [xa_xsa_n (by omega), xa_xsa_s]
  have b62 : xa c3 (62 + t) = upK (xa c2 (62 + t)) 11 (nI 0) := xa_xsa_s
  have b71 : xa c3 (71 + t) = xa c2 (71 + t) := by
    show xa (xsa (xsa c2 _ _) _ _) (71 + t) = _
    rw [xa_xsa_n (by omega), xa_xsa_n (by omega)]
  have f13 : FrX (PU t) c c3 := (f1.trans f2 (fun _ z => z) pt).trans f3 (fun _ z => z) pt
  obtain ⟨c4, r4, f4, l4, o4⟩ := x_layPath (nx := nx) ht (hX.fr f13 pu) hy (z := (nI 1000000, nI 0)) ⟨1000000, 0, by omega, by omega, rfl⟩ (fr := 11) hn (by omega) (by rw [b53, upK_s]) (by rw [b62, upK_s])
  let c5 : CS := xsa (xsa c4 (53 + t) (upK (xa c4 (53 + t)) 22 (nI 0))) (62 + t) (upK (xa c4 (62 + t)) 22 (nI 0))
  have f5 : FrX (PT t) c4 c5 := (FrX.sa (P := PT t) (Or.inl rfl)).trans (FrX.sa (P := PT t) (Or.inr (Or.inl rfl))) (fun _ z => z) (fun _ z => z)
  have d53 : xa c5 (53 + t) = upK (xa c4 (53 + t)) 22 (nI 0) := by
    show xa (xsa (xsa c4 _ _) _ _) (53 + t) = _
    rw [xa_xsa_n (by omega), xa_xsa_s]
  have d62 : xa c5 (62 + t) = upK (xa c4 (62 + t)) 22 (nI 0) := xa_xsa_s
  have d71 : xa c5 (71 + t) = xa c4 (71 + t) := by
    show xa (xsa (xsa c4 _ _) _ _) (71 + t) = _
    rw [xa_xsa_n (by omega), xa_xsa_n (by omega)]
  have f15 : FrX (PU t) c c5 := (f13.trans f4 (fun _ z => z) pt).trans f5 (fun _ z => z) pt
  obtain ⟨c6, r6, f6, l6, o6⟩ := x_layPath (nx := nx) ht (hX.fr f15 pu) hy (z := (nI 0, nI 0)) ⟨0, 0, by omega, by omega, rfl⟩ (fr := 22) hn (by omega) (by rw [d53, upK_s]) (by rw [d62, upK_s])
  have p80 : ¬ PT t (80 + t) := by unfold PT; omega
  refine ⟨c6, ?_, f15.trans f6 (fun _ z => z) pt, ?_, ?_⟩
  · have k6 : xa c 6 t = nI k := e6.trans ek
    have k7 : xa c 7 t = nI d := e7.trans ed
    unfold F_X5_lay
    simp (maxSteps := 3000000) (disch := omega) only [ef, k6, k7, xi_xsi_s, xi_xsi_n, xl_xsi, xa_xsi, xj_xsi, xr_xsi, xsi_xsi, xi_xsl, xl_xsl_s, xl_xsl_n, xa_xsl, xj_xsl, xr_xsl, xsl_xsl, xi_xsa, xl_xsa, xa_xsa_s, xa_xsa_n, xj_xsa, xr_xsa, xsa_xsa, xi_xsj, xl_xsj, xa_xsj, xj_xsj_s, xj_xsj_n, xr_xsj, xsj_xsj, xi_xsr, xl_xsr, xa_xsr, xj_xsr, xr_xsr_s, xr_xsr_n, xsr_xsr, xk_0, xg_0_0, xg_0_1, xg_0_2, xp_0_2, xg_0_3, xg_0_4, xg_0_5, xg_0_6, xk_1, xg_1_0, xg_1_1, xp_1_1, xg_1_2, xg_1_3, xp_1_3, xg_1_4, xg_1_5, xg_1_6, xg_1_7, xg_1_8, xg_1_9, xg_1_10, xg_1_11, xp_1_11, xg_1_12, xg_1_13, xg_1_14, xg_1_15, xp_1_15, xg_1_16, xp_1_16, xg_1_17, xp_1_17, xk_26, xg_26_0, xg_26_1, xp_26_1, xg_26_2, xg_26_3, xp_26_3, xg_26_4, xg_26_5, xg_26_6, xg_26_7, xg_26_8, xg_26_9, xg_26_10, xg_26_11, xp_26_11, xg_26_12, xg_26_13, xg_26_14, xg_26_15, xp_26_15, xg_26_16, xp_26_16, xg_26_17, xp_26_17, xk_51, xg_51_0, xg_51_1, xg_51_2, xg_51_3, xg_51_4, xg_51_5, xg_51_6, xg_51_7, xp_51_7, xg_51_8, xp_51_8, xk_90, xg_90_0, xg_90_1, xg_90_2, xg_90_3, xp_90_3, xg_90_4, xg_90_5, xp_90_5, xg_90_6, xg_90_7, xp_90_7, xg_90_8, xp_90_8, xg_90_9, xp_90_9, xg_90_10, xas_2, xal_2, xal_3, xas_4, xal_4, xln_4, xas_5, xal_5, xln_5, xas_6, xal_6, xln_6, xas_7, xal_7, xln_7, xas_8, xal_8, xln_8, xas_9, xal_9, xln_9, xas0_10, xas1_10, xasb_10, xal_10, xal_11, xas_12, xal_12, xln_12, xas_27, xal_27, xal_28, xas_29, xal_29, xln_29, xas_30, xal_30, xln_30, xas_31, xal_31, xln_31, xas_32, xal_32, xln_32, xas_33, xal_33, xln_33, xas_34, xal_34, xln_34, xas0_35, xas1_35, xasb_35, xal_35, xal_36, xas_37, xal_37, xln_37, xas_88, xal_88, xln_88, xal_89, xas_89, xln_89, xas_103, xal_103, xln_103, xas_104, xal_104, xln_104, xas_105, xal_105, xln_105, xas_106, xal_106, xln_106, xas_107, xal_107, xln_107, xal_13, xal_in14, xas_in14, xln_in14, xal_38, xal_in39, xas_in39, xln_in39, xal_52, xal_in53, xas_in53, xln_in53, xal_61, xal_in62, xas_in62, xln_in62, xal_70, xal_in71, xas_in71, xln_in71, xal_79, xal_in80, xas_in80, xln_in80, xal_91, xal_in92, xas_in92, xln_in92, cl_some, nm_b, nn_some, qn_some, qn_none, zk_0, zk_1, zk_n0, zk_n1, nI_add, pk_mul, pk_sub, nI_leE, nI_ltE, nI_eqE, nI_lt0, nI_ge0, nI_eq0, nI_gt0, nI_le0, ilt_t, ilt_f, ile_t, ile_f, ieq_t, ieq_f, if_tt, if_ff, Nat.add_sub_cancel]
    rw [r1]
    simp (maxSteps := 3000000) (disch := omega) only [xi_xsi_s, xi_xsi_n, xl_xsi, xa_xsi, xj_xsi, xr_xsi, xsi_xsi, xi_xsl, xl_xsl_s, xl_xsl_n, xa_xsl, xj_xsl, xr_xsl, xsl_xsl, xi_xsa, xl_xsa, xa_xsa_s, xa_xsa_n, xj_xsa, xr_xsa, xsa_xsa, xi_xsj, xl_xsj, xa_xsj, xj_xsj_s, xj_xsj_n, xr_xsj, xsj_xsj, xi_xsr, xl_xsr, xa_xsr, xj_xsr, xr_xsr_s, xr_xsr_n, xsr_xsr, xk_0, xg_0_0, xg_0_1, xg_0_2, xp_0_2, xg_0_3, xg_0_4, xg_0_5, xg_0_6, xk_1, xg_1_0, xg_1_1, xp_1_1, xg_1_2, xg_1_3, xp_1_3, xg_1_4, xg_1_5, xg_1_6, xg_1_7, xg_1_8, xg_1_9, xg_1_10, xg_1_11, xp_1_11, xg_1_12, xg_1_13, xg_1_14, xg_1_15, xp_1_15, xg_1_16, xp_1_16, xg_1_17, xp_1_17, xk_26, xg_26_0, xg_26_1, xp_26_1, xg_26_2, xg_26_3, xp_26_3, xg_26_4, xg_26_5, xg_26_6, xg_26_7, xg_26_8, xg_26_9, xg_26_10, xg_26_11, xp_26_11, xg_26_12, xg_26_13, xg_26_14, xg_26_15, xp_26_15, xg_26_16, xp_26_16, xg_26_17, xp_26_17, xk_51, xg_51_0, xg_51_1, xg_51_2, xg_51_3, xg_51_4, xg_51_5, xg_51_6, xg_51_7, xp_51_7, xg_51_8, xp_51_8, xk_90, xg_90_0, xg_90_1, xg_90_2, xg_90_3, xp_90_3, xg_90_4, xg_90_5, xp_90_5, xg_90_6, xg_90_7, xp_90_7, xg_90_8, xp_90_8, xg_90_9, xp_90_9, xg_90_10, xas_2, xal_2, xal_3, xas_4, xal_4, xln_4, xas_5, xal_5, xln_5, xas_6, xal_6, xln_6, xas_7, xal_7, xln_7, xas_8, xal_8, xln_8, xas_9, xal_9, xln_9, xas0_10, xas1_10, xasb_10, xal_10, xal_11, xas_12, xal_12, xln_12, xas_27, xal_27, xal_28, xas_29, xal_29, xln_29, xas_30, xal_30, xln_30, xas_31, xal_31, xln_31, xas_32, xal_32, xln_32, xas_33, xal_33, xln_33, xas_34, xal_34, xln_34, xas0_35, xas1_35, xasb_35, xal_35, xal_36, xas_37, xal_37, xln_37, xas_88, xal_88, xln_88, xal_89, xas_89, xln_89, xas_103, xal_103, xln_103, xas_104, xal_104, xln_104, xas_105, xal_105, xln_105, xas_106, xal_106, xln_106, xas_107, xal_107, xln_107, xal_13, xal_in14, xas_in14, xln_in14, xal_38, xal_in39, xas_in39, xln_in39, xal_52, xal_in53, xas_in53, xln_in53, xal_61, xal_in62, xas_in62, xln_in62, xal_70, xal_in71, xas_in71, xln_in71, xal_79, xal_in80, xas_in80, xln_in80, xal_91, xal_in92, xas_in92, xln_in92, cl_some, nm_b, nn_some, qn_some, qn_none, zk_0, zk_1, zk_n0, zk_n1, nI_add, pk_mul, pk_sub, nI_leE, nI_ltE, nI_eqE, nI_lt0, nI_ge0, nI_eq0, nI_gt0, nI_le0, ilt_t, ilt_f, ile_t, ile_f, ieq_t, ieq_f, if_tt, if_ff, Nat.add_sub_cancel]
    rw [r4]
    simp (maxSteps := 3000000) (disch := omega) only [xi_xsi_s, xi_xsi_n, xl_xsi, xa_xsi, xj_xsi, xr_xsi, xsi_xsi, xi_xsl, xl_xsl_s, xl_xsl_n, xa_xsl, xj_xsl, xr_xsl, xsl_xsl, xi_xsa, xl_xsa, xa_xsa_s, xa_xsa_n, xj_xsa, xr_xsa, xsa_xsa, xi_xsj, xl_xsj, xa_xsj, xj_xsj_s, xj_xsj_n, xr_xsj, xsj_xsj, xi_xsr, xl_xsr, xa_xsr, xj_xsr, xr_xsr_s, xr_xsr_n, xsr_xsr, xk_0, xg_0_0, xg_0_1, xg_0_2, xp_0_2, xg_0_3, xg_0_4, xg_0_5, xg_0_6, xk_1, xg_1_0, xg_1_1, xp_1_1, xg_1_2, xg_1_3, xp_1_3, xg_1_4, xg_1_5, xg_1_6, xg_1_7, xg_1_8, xg_1_9, xg_1_10, xg_1_11, xp_1_11, xg_1_12, xg_1_13, xg_1_14, xg_1_15, xp_1_15, xg_1_16, xp_1_16, xg_1_17, xp_1_17, xk_26, xg_26_0, xg_26_1, xp_26_1, xg_26_2, xg_26_3, xp_26_3, xg_26_4, xg_26_5, xg_26_6, xg_26_7, xg_26_8, xg_26_9, xg_26_10, xg_26_11, xp_26_11, xg_26_12, xg_26_13, xg_26_14, xg_26_15, xp_26_15, xg_26_16, xp_26_16, xg_26_17, xp_26_17, xk_51, xg_51_0, xg_51_1, xg_51_2, xg_51_3, xg_51_4, xg_51_5, xg_51_6, xg_51_7, xp_51_7, xg_51_8, xp_51_8, xk_90, xg_90_0, xg_90_1, xg_90_2, xg_90_3, xp_90_3, xg_90_4, xg_90_5, xp_90_5, xg_90_6, xg_90_7, xp_90_7, xg_90_8, xp_90_8, xg_90_9, xp_90_9, xg_90_10, xas_2, xal_2, xal_3, xas_4, xal_4, xln_4, xas_5, xal_5, xln_5, xas_6, xal_6, xln_6, xas_7, xal_7, xln_7, xas_8, xal_8, xln_8, xas_9, xal_9, xln_9, xas0_10, xas1_10, xasb_10, xal_10, xal_11, xas_12, xal_12, xln_12, xas_27, xal_27, xal_28, xas_29, xal_29, xln_29, xas_30, xal_30, xln_30, xas_31, xal_31, xln_31, xas_32, xal_32, xln_32, xas_33, xal_33, xln_33, xas_34, xal_34, xln_34, xas0_35, xas1_35, xasb_35, xal_35, xal_36, xas_37, xal_37, xln_37, xas_88, xal_88, xln_88, xal_89, xas_89, xln_89, xas_103, xal_103, xln_103, xas_104, xal_104, xln_104, xas_105, xal_105, xln_105, xas_106, xal_106, xln_106, xas_107, xal_107, xln_107, xal_13, xal_in14, xas_in14, xln_in14, xal_38, xal_in39, xas_in39, xln_in39, xal_52, xal_in53, xas_in53, xln_in53, xal_61, xal_in62, xas_in62, xln_in62, xal_70, xal_in71, xas_in71, xln_in71, xal_79, xal_in80, xas_in80, xln_in80, xal_91, xal_in92, xas_in92, xln_in92, cl_some, nm_b, nn_some, qn_some, qn_none, zk_0, zk_1, zk_n0, zk_n1, nI_add, pk_mul, pk_sub, nI_leE, nI_ltE, nI_eqE, nI_lt0, nI_ge0, nI_eq0, nI_gt0, nI_le0, ilt_t, ilt_f, ile_t, ile_f, ieq_t, ieq_f, if_tt, if_ff, Nat.add_sub_cancel]
    rw [r6]
    simp (maxSteps := 3000000) (disch := omega) only [xi_xsi_s, xi_xsi_n, xl_xsi, xa_xsi, xj_xsi, xr_xsi, xsi_xsi, xi_xsl, xl_xsl_s, xl_xsl_n, xa_xsl, xj_xsl, xr_xsl, xsl_xsl, xi_xsa, xl_xsa, xa_xsa_s, xa_xsa_n, xj_xsa, xr_xsa, xsa_xsa, xi_xsj, xl_xsj, xa_xsj, xj_xsj_s, xj_xsj_n, xr_xsj, xsj_xsj, xi_xsr, xl_xsr, xa_xsr, xj_xsr, xr_xsr_s, xr_xsr_n, xsr_xsr, xk_0, xg_0_0, xg_0_1, xg_0_2, xp_0_2, xg_0_3, xg_0_4, xg_0_5, xg_0_6, xk_1, xg_1_0, xg_1_1, xp_1_1, xg_1_2, xg_1_3, xp_1_3, xg_1_4, xg_1_5, xg_1_6, xg_1_7, xg_1_8, xg_1_9, xg_1_10, xg_1_11, xp_1_11, xg_1_12, xg_1_13, xg_1_14, xg_1_15, xp_1_15, xg_1_16, xp_1_16, xg_1_17, xp_1_17, xk_26, xg_26_0, xg_26_1, xp_26_1, xg_26_2, xg_26_3, xp_26_3, xg_26_4, xg_26_5, xg_26_6, xg_26_7, xg_26_8, xg_26_9, xg_26_10, xg_26_11, xp_26_11, xg_26_12, xg_26_13, xg_26_14, xg_26_15, xp_26_15, xg_26_16, xp_26_16, xg_26_17, xp_26_17, xk_51, xg_51_0, xg_51_1, xg_51_2, xg_51_3, xg_51_4, xg_51_5, xg_51_6, xg_51_7, xp_51_7, xg_51_8, xp_51_8, xk_90, xg_90_0, xg_90_1, xg_90_2, xg_90_3, xp_90_3, xg_90_4, xg_90_5, xp_90_5, xg_90_6, xg_90_7, xp_90_7, xg_90_8, xp_90_8, xg_90_9, xp_90_9, xg_90_10, xas_2, xal_2, xal_3, xas_4, xal_4, xln_4, xas_5, xal_5, xln_5, xas_6, xal_6, xln_6, xas_7, xal_7, xln_7, xas_8, xal_8, xln_8, xas_9, xal_9, xln_9, xas0_10, xas1_10, xasb_10, xal_10, xal_11, xas_12, xal_12, xln_12, xas_27, xal_27, xal_28, xas_29, xal_29, xln_29, xas_30, xal_30, xln_30, xas_31, xal_31, xln_31, xas_32, xal_32, xln_32, xas_33, xal_33, xln_33, xas_34, xal_34, xln_34, xas0_35, xas1_35, xasb_35, xal_35, xal_36, xas_37, xal_37, xln_37, xas_88, xal_88, xln_88, xal_89, xas_89, xln_89, xas_103, xal_103, xln_103, xas_104, xal_104, xln_104, xas_105, xal_105, xln_105, xas_106, xal_106, xln_106, xas_107, xal_107, xln_107, xal_13, xal_in14, xas_in14, xln_in14, xal_38, xal_in39, xas_in39, xln_in39, xal_52, xal_in53, xas_in53, xln_in53, xal_61, xal_in62, xas_in62, xln_in62, xal_70, xal_in71, xas_in71, xln_in71, xal_79, xal_in80, xas_in80, xln_in80, xal_91, xal_in92, xas_in92, xln_in92, cl_some, nm_b, nn_some, qn_some, qn_none, zk_0, zk_1, zk_n0, zk_n1, nI_add, pk_mul, pk_sub, nI_leE, nI_ltE, nI_eqE, nI_lt0, nI_ge0, nI_eq0, nI_gt0, nI_le0, ilt_t, ilt_f, ile_t, ile_f, ieq_t, ieq_f, if_tt, if_ff, Nat.add_sub_cancel]
  · intro kk hkk
    rcases (show kk = 0 ∨ kk = 1 ∨ kk = 2 by omega) with rfl | rfl | rfl
    · have ez : stZ (ma S 1) t 0 = (nI k, nI d) := by
        unfold stZ
        rw [if_pos rfl, ek, ed]
      rw [ez]
      intro i hi
      obtain ⟨q1, q2, q3⟩ := o6 (0 + i) (by omega)
      obtain ⟨s1, s2, s3⟩ := o4 (0 + i) (by omega)
      have := l2 i hi
      show xa c6 (53 + t) (0 + i) = _ ∧ xa c6 (62 + t) (0 + i) = _ ∧ xa c6 (71 + t) (0 + i) = _
      rw [q1, q2, q3, d53, d62, d71, upK_n (by omega), upK_n (by omega), s1, s2, s3, b53, b62, b71, upK_n (by omega), upK_n (by omega)]
      exact this
    · intro i hi
      obtain ⟨q1, q2, q3⟩ := o6 (11 + i) (by omega)
      have := l4 i hi
      show xa c6 (53 + t) (11 + i) = _ ∧ xa c6 (62 + t) (11 + i) = _ ∧ xa c6 (71 + t) (11 + i) = _
      rw [q1, q2, q3, d53, d62, d71, upK_n (by omega), upK_n (by omega)]
      exact this
    · exact l6
  · intro j hj
    rw [f6.a _ p80]
    show xa (xsa (xsa c4 _ _) _ _) (80 + t) j = _
    rw [xa_xsa_n (by omega), xa_xsa_n (by omega), f4.a _ p80]
    show xa (xsa (xsa c2 _ _) _ _) (80 + t) j = _
    rw [xa_xsa_n (by omega), xa_xsa_n (by omega), f2.a _ p80, a80]
    exact hg j hj
end XL
