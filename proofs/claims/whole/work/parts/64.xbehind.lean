/-! THE CLASS's behindLooks -/
section XBL
variable {G : Gx} {X lo nx : Nat} {h0 : Hp} {S : MS} {ns nt np lk td q N dd days : Nat} {Md : CS → Prop}
theorem TI.look2 (hMd : MdOk Md) {c c2 : CS} {s : Nat → Int32} {Q : Nat → Nat × Nat} {day left t kk : Nat} {x : Int32} (hT : TI G X lo h0 S ns nt np lk td q N dd days Md c s Q day left) (hd10 : day < 11) (hN : dd + left ≤ N) (ht : t < nt) (hk : (kk = 1 ∧ x = nI 1000000) ∨ (kk = 2 ∧ x = nI 0)) (f2 : FrX (PL day) c c2) (hm : MemoA c2 S nt N dd) {f : Nat → Int32} (hf : f = upK (xa c (92 + day)) t (nI (11 * kk))) : TI G X lo h0 S ns nt np lk td q N dd days Md (xsa c2 (92 + day) f) (up2 s t x) (upK Q t (kk, 0)) day left := by
  obtain ⟨hB, hMm, hA, hS⟩ := id hT
  have h8 := x_nt8 hB.1
  have f1 : FrX (PL day) c2 (xsa c2 (92 + day) f) := FrX.sa (P := PL day) (Or.inr (by omega))
  refine ⟨(hB.fr hMd (f2.mono pl_pa)).fr hMd (f1.mono pl_pa), hm.fr (FrX.sa (P := fun k => k = 92 + day) rfl) (fun k h1 h2 z => by omega), (hA.trans (AgN.up1 ht h8)).trans (AgN.up2 ht h8), fun i hi => ?_⟩
  rw [xa_xsa_s, hf]
  by_cases e : i = t
  · subst e
    rw [upK_s, upK_s, (up2_k (by omega)).1, (up2_k (by omega)).2]
    refine ⟨by show kk < 3; omega, by show 0 + _ ≤ _; omega, rfl, ?_⟩
    show stZ (ma S 1) i kk = _
    unfold stZ
    rcases hk with ⟨rfl, rfl⟩ | ⟨rfl, rfl⟩
    · rw [if_neg (show ¬ (1 : Nat) = 0 by decide), if_pos (show (1 : Nat) = 1 from rfl)]
    · rw [if_neg (show ¬ (2 : Nat) = 0 by decide), if_neg (show ¬ (2 : Nat) = 1 by decide)]
  · rw [upK_n e, upK_n e, (up2_o e (by omega) (by omega)).1, (up2_o e (by omega) (by omega)).2]
    exact hS i hi
theorem low_tz {set : Nat} (h : set < 256) (h0 : 0 < set) : tzF (nI set) = nI (lowT set) := tz_low ⟨set, h⟩ h0
theorem low_ot {set : Nat} (h : set < 256) (h0 : 0 < set) : nI set &&& (nI set - nI 1) = nI (set - 2 ^ lowT set) := oth_low ⟨set, h⟩ h0
theorem low_b1 {set : Nat} (h : set < 256) (h0 : 0 < set) (t : Nat) (ht : t < 8) (h1 : t < lowT set) : bitI (nI set) t = 0 := (bit_low ⟨set, h⟩ h0).1 ⟨t, ht⟩ h1
theorem low_b2 {set : Nat} (h : set < 256) (h0 : 0 < set) : bitI (nI set) (lowT set) = nI 1 := (bit_low ⟨set, h⟩ h0).2.1
theorem low_b5 {set : Nat} (h : set < 256) (h0 : 0 < set) (t : Nat) (ht : t < 8) (h1 : lowT set < t) : bitI (nI (set - 2 ^ lowT set)) t = bitI (nI set) t := (bit_low ⟨set, h⟩ h0).2.2.2.2 ⟨t, ht⟩ h1
theorem low_el {set : Nat} (h : set < 256) (h0 : 0 < set) (t : Nat) (ht : t < 8) (h1 : t ≤ lowT set) : bitI (nI (set - 2 ^ lowT set)) t = 0 := low_sub ⟨set, h⟩ h0 ⟨t, ht⟩ h1
theorem bit_z0 {t : Nat} (ht : t < 8) : bitI (nI 0) t = 0 := by
  rcases (show t = 0 ∨ t = 1 ∨ t = 2 ∨ t = 3 ∨ t = 4 ∨ t = 5 ∨ t = 6 ∨ t = 7 by omega) with rfl | rfl | rfl | rfl | rfl | rfl | rfl | rfl <;> decide
theorem nI_v0 {v : Nat} (hv : v ≤ 999) (h : nI v ≤ 0) : v = 0 := by
  rw [nI_le0 (by omega)] at h
  exact h
theorem both_eq {kn v : Nat} {Lw Li x : Int64} (hk : kn ≤ 1000000) (hv : v ≤ 999) : ((nI kn).toInt64 * (if kn = 0 then 0 else Lw) + (nI 1000000 - nI kn).toInt64 * ((if 1000000 ≤ kn then 0 else if nI v ≤ 0 then Li else Lw) - 1000 * (nI v).toInt64)) / 1000000 - x = ((nI kn).toInt64 * Lw + (nI 1000000 - nI kn).toInt64 * (if nI v ≤ 0 then Li else Lw - 1000 * (nI v).toInt64)) / 1000000 - x := by
  have e1 : (nI kn).toInt64 * (if kn = 0 then 0 else Lw) = (nI kn).toInt64 * Lw := by
    by_cases c : kn = 0
    · subst c
      rw [show (nI 0).toInt64 = 0 by decide, Int64.zero_mul, Int64.zero_mul]
    · rw [if_neg c]
  have e2 : (nI 1000000 - nI kn).toInt64 * ((if 1000000 ≤ kn then 0 else if nI v ≤ 0 then Li else Lw) - 1000 * (nI v).toInt64) = (nI 1000000 - nI kn).toInt64 * (if nI v ≤ 0 then Li else Lw - 1000 * (nI v).toInt64) := by
    by_cases c : 1000000 ≤ kn
    · obtain rfl : kn = 1000000 := by omega
      rw [show (nI 1000000 - nI 1000000).toInt64 = 0 by decide, Int64.zero_mul, Int64.zero_mul]
    · rw [if_neg c]
      by_cases c2 : nI v ≤ 0
      · obtain rfl := nI_v0 hv c2
        rw [if_pos c2, if_pos c2, show 1000 * (nI 0).toInt64 = 0 by decide, Int64.sub_zero]
      · rw [if_neg c2, if_neg c2]
  rw [e1, e2]
theorem x_spotIll {c : CS} {t a p : Nat} (ht : t < 8) (hX : XT G X lo h0 c (ma S 1) t a p) : F_X5_spotSeenIll G (encX G X c h0) nx (X + 51) (nI t) = some (if valF (ma S 1) t 3 ≤ 0 then nI 22 else nI 11, encX G X c h0, nx) := by
  have hs := hX.2.2.2.2.2.1
  obtain ⟨_, _, _, e3⟩ := val_V hX (w := 3) (by omega)
  have ck7 : ∀ {β : Type} {f : Nat → Option β}, ck (encX G X c h0) p [7] f = f 7 := x_ck7 (hs c)
  have em : F_X7_mends G (encX G X c h0) nx p = some (if valF (ma S 1) t 3 ≤ 0 then nI 0 else nI 1, encX G X c h0, nx) := by rw [e3]; exact x_mends (hs c)
  have es := x_sortAt (nx := nx) hX ht
  unfold F_X5_spotSeenIll F_X5_spotSeenIll_21
  simp (maxSteps := 3000000) (disch := omega) only [es, ck7, em, xi_xsi_s, xi_xsi_n, xl_xsi, xa_xsi, xj_xsi, xr_xsi, xsi_xsi, xi_xsl, xl_xsl_s, xl_xsl_n, xa_xsl, xj_xsl, xr_xsl, xsl_xsl, xi_xsa, xl_xsa, xa_xsa_s, xa_xsa_n, xj_xsa, xr_xsa, xsa_xsa, xi_xsj, xl_xsj, xa_xsj, xj_xsj_s, xj_xsj_n, xr_xsj, xsj_xsj, xi_xsr, xl_xsr, xa_xsr, xj_xsr, xr_xsr_s, xr_xsr_n, xsr_xsr, xk_0, xg_0_0, xg_0_1, xg_0_2, xp_0_2, xg_0_3, xg_0_4, xg_0_5, xg_0_6, xk_1, xg_1_0, xg_1_1, xp_1_1, xg_1_2, xg_1_3, xp_1_3, xg_1_4, xg_1_5, xg_1_6, xg_1_7, xg_1_8, xg_1_9, xg_1_10, xg_1_11, xp_1_11, xg_1_12, xg_1_13, xg_1_14, xg_1_15, xp_1_15, xg_1_16, xp_1_16, xg_1_17, xp_1_17, xk_26, xg_26_0, xg_26_1, xp_26_1, xg_26_2, xg_26_3, xp_26_3, xg_26_4, xg_26_5, xg_26_6, xg_26_7, xg_26_8, xg_26_9, xg_26_10, xg_26_11, xp_26_11, xg_26_12, xg_26_13, xg_26_14, xg_26_15, xp_26_15, xg_26_16, xp_26_16, xg_26_17, xp_26_17, xk_51, xg_51_0, xg_51_1, xg_51_2, xg_51_3, xg_51_4, xg_51_5, xg_51_6, xg_51_7, xp_51_7, xg_51_8, xp_51_8, xk_90, xg_90_0, xg_90_1, xg_90_2, xg_90_3, xp_90_3, xg_90_4, xg_90_5, xp_90_5, xg_90_6, xg_90_7, xp_90_7, xg_90_8, xp_90_8, xg_90_9, xp_90_9, xg_90_10, xas_2, xal_2, xal_3, xas_4, xal_4, xln_4, xas_5, xal_5, xln_5, xas_6, xal_6, xln_6, xas_7, xal_7, xln_7, xas_8, xal_8, xln_8, xas_9, xal_9, xln_9, xas0_10, xas1_10, xasb_10, xal_10, xal_11, xas_12, xal_12, xln_12, xas_27, xal_27, xal_28, xas_29, xal_29, xln_29, xas_30, xal_30, xln_30, xas_31, xal_31, xln_31, xas_32, xal_32, xln_32, xas_33, xal_33, xln_33, xas_34, xal_34, xln_34, xas0_35, xas1_35, xasb_35, xal_35, xal_36, xas_37, xal_37, xln_37, xas_88, xal_88, xln_88, xal_89, xas_89, xln_89, xas_103, xal_103, xln_103, xas_104, xal_104, xln_104, xas_105, xal_105, xln_105, xas_106, xal_106, xln_106, xas_107, xal_107, xln_107, xal_13, xal_in14, xas_in14, xln_in14, xal_38, xal_in39, xas_in39, xln_in39, xal_52, xal_in53, xas_in53, xln_in53, xal_61, xal_in62, xas_in62, xln_in62, xal_70, xal_in71, xas_in71, xln_in71, xal_79, xal_in80, xas_in80, xln_in80, xal_91, xal_in92, xas_in92, xln_in92, cl_some, nm_b, nn_some, qn_some, qn_none, zk_0, zk_1, zk_n0, zk_n1, nI_add, pk_mul, pk_sub, nI_leE, nI_ltE, nI_eqE, nI_lt0, nI_ge0, nI_eq0, nI_gt0, nI_le0, ilt_t, ilt_f, ile_t, ile_f, ieq_t, ieq_f, if_tt, if_ff, Nat.add_sub_cancel]
  by_cases cm : valF (ma S 1) t 3 ≤ 0
  · rw [if_pos cm, if_pos cm]; rfl
  · rw [if_neg cm, if_neg cm]; rfl
set_option maxRecDepth 100000 in
set_option maxHeartbeats 1000000 in
theorem x_bl (hMd : MdOk Md) {m day left : Nat} {V : (Nat → Int32) → Int64} (h8 : nt ≤ 8) (hl1 : 1 ≤ left) (hdl : day + left = days) (hd10 : days ≤ 10) (hN : dd + days ≤ N) (hN10 : N ≤ 10) (hV : 2 ≤ left → ∀ m', m ≤ m' → FdP G X lo nx h0 S ns nt np lk td q N dd days Md m' (day + 1) (left - 1) V) : ∀ (r f set : Nat) (c : CS) (s : Nat → Int32) (Q : Nat → Nat × Nat), r ≤ nt → m + 2 + r ≤ f → set < 2 ^ nt → (∀ t, t < nt - r → bitI (nI set) t = 0) → TI G X lo h0 S ns nt np lk td q N dd days Md c s Q day left → ∃ c' : CS, F_X9_behindLooks G f (encX G X c h0) nx (X + 90) (nI day) (nI set) = some (loG nt (nI set) (ovC S nt left V) r s, encX G X c' h0, nx) ∧ FrX (PL day) c c' ∧ xa c' (92 + day) = xa c (92 + day) ∧ MemoA c' S nt N dd := by
  intro r
  induction r using Nat.strongRecOn with
  | ind r ih =>
  intro f set c s Q hr hf hset hlow hT
  obtain ⟨f, rfl⟩ : ∃ z, f = z + 1 := ⟨f - 1, by omega⟩
  have h256 := two_le h8
  obtain ⟨⟨hC, hL, h79, hM⟩, hMm, hA, hS⟩ := id hT
  have pl1 : ∀ k, PL (day + 1) k → PL day k := fun k z => by
    rcases z with z | z
    · exact Or.inl z
    · exact Or.inr (by omega)
  rw [F_X9_behindLooks_s]
  by_cases c0 : set = 0
  · subst c0
    obtain ⟨f, rfl⟩ : ∃ z, f = z + 1 := ⟨f - 1, by omega⟩
    obtain ⟨c', e, fr, mm⟩ := x_bd (nx := nx) (m := f) hMd hl1 hdl hd10 (fun h2 => hV h2 f (by omega)) hT
    refine ⟨c', ?_, fr.mono pl1, ?_, mm⟩
    · unfold B_X9_behindLooks
      simp (maxSteps := 3000000) (disch := omega) only [e, xi_xsi_s, xi_xsi_n, xl_xsi, xa_xsi, xj_xsi, xr_xsi, xsi_xsi, xi_xsl, xl_xsl_s, xl_xsl_n, xa_xsl, xj_xsl, xr_xsl, xsl_xsl, xi_xsa, xl_xsa, xa_xsa_s, xa_xsa_n, xj_xsa, xr_xsa, xsa_xsa, xi_xsj, xl_xsj, xa_xsj, xj_xsj_s, xj_xsj_n, xr_xsj, xsj_xsj, xi_xsr, xl_xsr, xa_xsr, xj_xsr, xr_xsr_s, xr_xsr_n, xsr_xsr, xk_0, xg_0_0, xg_0_1, xg_0_2, xp_0_2, xg_0_3, xg_0_4, xg_0_5, xg_0_6, xk_1, xg_1_0, xg_1_1, xp_1_1, xg_1_2, xg_1_3, xp_1_3, xg_1_4, xg_1_5, xg_1_6, xg_1_7, xg_1_8, xg_1_9, xg_1_10, xg_1_11, xp_1_11, xg_1_12, xg_1_13, xg_1_14, xg_1_15, xp_1_15, xg_1_16, xp_1_16, xg_1_17, xp_1_17, xk_26, xg_26_0, xg_26_1, xp_26_1, xg_26_2, xg_26_3, xp_26_3, xg_26_4, xg_26_5, xg_26_6, xg_26_7, xg_26_8, xg_26_9, xg_26_10, xg_26_11, xp_26_11, xg_26_12, xg_26_13, xg_26_14, xg_26_15, xp_26_15, xg_26_16, xp_26_16, xg_26_17, xp_26_17, xk_51, xg_51_0, xg_51_1, xg_51_2, xg_51_3, xg_51_4, xg_51_5, xg_51_6, xg_51_7, xp_51_7, xg_51_8, xp_51_8, xk_90, xg_90_0, xg_90_1, xg_90_2, xg_90_3, xp_90_3, xg_90_4, xg_90_5, xp_90_5, xg_90_6, xg_90_7, xp_90_7, xg_90_8, xp_90_8, xg_90_9, xp_90_9, xg_90_10, xas_2, xal_2, xal_3, xas_4, xal_4, xln_4, xas_5, xal_5, xln_5, xas_6, xal_6, xln_6, xas_7, xal_7, xln_7, xas_8, xal_8, xln_8, xas_9, xal_9, xln_9, xas0_10, xas1_10, xasb_10, xal_10, xal_11, xas_12, xal_12, xln_12, xas_27, xal_27, xal_28, xas_29, xal_29, xln_29, xas_30, xal_30, xln_30, xas_31, xal_31, xln_31, xas_32, xal_32, xln_32, xas_33, xal_33, xln_33, xas_34, xal_34, xln_34, xas0_35, xas1_35, xasb_35, xal_35, xal_36, xas_37, xal_37, xln_37, xas_88, xal_88, xln_88, xal_89, xas_89, xln_89, xas_103, xal_103, xln_103, xas_104, xal_104, xln_104, xas_105, xal_105, xln_105, xas_106, xal_106, xln_106, xas_107, xal_107, xln_107, xal_13, xal_in14, xas_in14, xln_in14, xal_38, xal_in39, xas_in39, xln_in39, xal_52, xal_in53, xas_in53, xln_in53, xal_61, xal_in62, xas_in62, xln_in62, xal_70, xal_in71, xas_in71, xln_in71, xal_79, xal_in80, xas_in80, xln_in80, xal_91, xal_in92, xas_in92, xln_in92, cl_some, nm_b, nn_some, qn_some, qn_none, zk_0, zk_1, zk_n0, zk_n1, nI_add, pk_mul, pk_sub, nI_leE, nI_ltE, nI_eqE, nI_lt0, nI_ge0, nI_eq0, nI_gt0, nI_le0, ilt_t, ilt_f, ile_t, ile_f, ieq_t, ieq_f, if_tt, if_ff, Nat.add_sub_cancel]
      rw [lo_0 r s hr (fun t _ h2 => bit_z0 (by omega))]
    · exact fr.a (92 + day) (fun z => by
        rcases z with z | z
        · unfold PWA PW at z; omega
        · omega)
  · have hs0 : 0 < set := by omega
    obtain ⟨hlt, hset'⟩ := set_low h8 hset hs0
    have s256 : set < 256 := by omega
    have b1 := low_b1 s256 hs0
    have b2 := low_b2 s256 hs0
    have b5 := low_b5 s256 hs0
    have etz0 := low_tz s256 hs0
    have eot0 := low_ot s256 hs0
    have elow0 := low_el s256 hs0
    generalize hl : lowT set = low at *
    generalize hs' : set - 2 ^ low = set' at *
    have hge : nt - r ≤ low := by
      by_cases cc : nt - r ≤ low
      · exact cc
      · have := hlow low (by omega)
        rw [b2] at this
        exact absurd this (by decide)
    obtain ⟨r', hr'⟩ : ∃ z, z = nt - low - 1 := ⟨_, rfl⟩
    have etz : ∀ h : Hp, F_J6_numberOfTrailingZeros_0f7a4 G h nx (nI set) = some (nI low, h, nx) := fun h => by rw [x_ntz, etz0]
    have eot : nI set &&& nI (set - 1) = nI set' := by rw [← pk_sub (by omega)]; exact eot0
    -- the thing
    obtain ⟨a, p, hX⟩ := hC.th hlt
    have hs := hX.2.2.2.2.2.1
    have ha : sN (ma S 1) (1010 + low) = a := hX.2.1
    obtain ⟨v2, hv2, ev2, e2⟩ := val_V hX (w := 2) (by omega)
    obtain ⟨v3, hv3, ev3, e3⟩ := val_V hX (w := 3) (by omega)
    have hth : ThOk (ma S 1) low := x_ThOk hC hlt
    have ag : AgS (ma S 1) s := hA.ag h8
    have ck7 : ∀ (c2 : CS) {β : Type} {f : Nat → Option β}, ck (encX G X c2 h0) p [7] f = f 7 := fun c2 => x_ck7 (hs c2)
    have el : ∀ (c2 : CS), F_X7_lookCost G (encX G X c2 h0) nx p = some (1000 * (nI v2).toInt64, encX G X c2 h0, nx) := fun c2 => by rw [← ev2, e2]; exact x_lookCost (hs c2)
    have em : ∀ (c2 : CS), F_X7_mendCost G (encX G X c2 h0) nx p = some (1000 * (nI v3).toInt64, encX G X c2 h0, nx) := fun c2 => by rw [← ev3, e3]; exact x_mendCost (hs c2)
    have es := x_sortAt (nx := nx) hX (by omega : low < 8)
    obtain ⟨s1, s2, s3, s4⟩ := hS low hlt
    have z0 : KdV (stZ (ma S 1) low (Q low).1) := by
      obtain ⟨_, _, _, _, _, _, _, _, _, _, ⟨_, ⟨k, hk, ek⟩, ⟨d, hd, ed⟩, _⟩⟩ := hX
      unfold stZ
      by_cases q0 : (Q low).1 = 0
      · rw [if_pos q0]; exact ⟨k, d, hk, hd, by rw [ek, ed]⟩
      · rw [if_neg q0]
        split
        · exact ⟨1000000, 0, by omega, by omega, rfl⟩
        · exact ⟨0, 0, by omega, by omega, rfl⟩
    obtain ⟨kn, dn, hkn, hdn, ekd⟩ := paK_V hX z0 (Q low).2
    rw [s4] at ekd
    have ekn : s (1034 + low) = nI kn := congrArg Prod.fst ekd
    have hLt := hL low hlt
    rw [ha] at hLt
    have q1 : xa c (53 + low) (11 * (Q low).1 + (Q low).2) = nI kn := by
      rw [(hLt (Q low).1 s1 (Q low).2 (by omega)).1, s4]; exact ekn
    -- the value
    have eL : loG nt (nI set) (ovC S nt left V) r s = ((nI kn).toInt64 * loG nt (nI set') (ovC S nt left V) r' (up2 s low (nI 1000000)) + (nI 1000000 - nI kn).toInt64 * (if nI v3 ≤ 0 then loG nt (nI set') (ovC S nt left V) r' (up2 s low (nI 0)) else loG nt (nI set') (ovC S nt left V) r' (up2 s low (nI 1000000)) - 1000 * (nI v3).toInt64)) / 1000000 - 1000 * (nI v2).toInt64 := by
      have cg : ∀ s, loG nt (nI set') (ovC S nt left V) r' s = loG nt (nI set) (ovC S nt left V) r' s := fun s => lo_cg r' s (by omega) (fun t h1 h2 => b5 t (by omega) (by omega))
      rw [lo_skip r s hr hge hlt (fun t _ h2 => b1 t (by omega) h2), show nt - low = r' + 1 by omega, lo_s, show nt - (r' + 1) = low by omega, if_neg (by rw [b2]; decide), valF_ag ag hth (by omega), valF_ag ag hth (by omega), ev2, ev3, ekn, cg, cg]
      rfl
    have hlow' : ∀ t, t < nt - r' → bitI (nI set') t = 0 := fun t h1 => elow0 t (by omega) (by omega)
    rw [eL]
    unfold B_X9_behindLooks
    by_cases cl : left = 1
    · unfold F_X9_behindLooks_154
      obtain ⟨c', r1, r2, r3, r4⟩ := ih r' (by omega) f set' c s Q (by omega) (by omega) hset' hlow' hT
      refine ⟨c', ?_, r2, r3, r4⟩
      have lk0 : ∀ x, loG nt (nI set') (ovC S nt left V) r' (up2 s low x) = loG nt (nI set') (ovC S nt left V) r' s := fun x => lo_k (v := 0) h8 (fun s => if_pos cl) r' s (up2 s low x) (by omega) (up2_ag (by omega)) (fun t ht => ThOk_ag ag (x_ThOk hC ht)) (fun t h1 h2 => (up2_o (by omega) (by omega) (by omega)).1)
      rw [lk0, lk0]
      simp (maxSteps := 3000000) (disch := omega) only [etz, eot, eot0, es, s3, q1, h79, r1, ck7, em, x_bothWays, el, xi_xsi_s, xi_xsi_n, xl_xsi, xa_xsi, xj_xsi, xr_xsi, xsi_xsi, xi_xsl, xl_xsl_s, xl_xsl_n, xa_xsl, xj_xsl, xr_xsl, xsl_xsl, xi_xsa, xl_xsa, xa_xsa_s, xa_xsa_n, xj_xsa, xr_xsa, xsa_xsa, xi_xsj, xl_xsj, xa_xsj, xj_xsj_s, xj_xsj_n, xr_xsj, xsj_xsj, xi_xsr, xl_xsr, xa_xsr, xj_xsr, xr_xsr_s, xr_xsr_n, xsr_xsr, xk_0, xg_0_0, xg_0_1, xg_0_2, xp_0_2, xg_0_3, xg_0_4, xg_0_5, xg_0_6, xk_1, xg_1_0, xg_1_1, xp_1_1, xg_1_2, xg_1_3, xp_1_3, xg_1_4, xg_1_5, xg_1_6, xg_1_7, xg_1_8, xg_1_9, xg_1_10, xg_1_11, xp_1_11, xg_1_12, xg_1_13, xg_1_14, xg_1_15, xp_1_15, xg_1_16, xp_1_16, xg_1_17, xp_1_17, xk_26, xg_26_0, xg_26_1, xp_26_1, xg_26_2, xg_26_3, xp_26_3, xg_26_4, xg_26_5, xg_26_6, xg_26_7, xg_26_8, xg_26_9, xg_26_10, xg_26_11, xp_26_11, xg_26_12, xg_26_13, xg_26_14, xg_26_15, xp_26_15, xg_26_16, xp_26_16, xg_26_17, xp_26_17, xk_51, xg_51_0, xg_51_1, xg_51_2, xg_51_3, xg_51_4, xg_51_5, xg_51_6, xg_51_7, xp_51_7, xg_51_8, xp_51_8, xk_90, xg_90_0, xg_90_1, xg_90_2, xg_90_3, xp_90_3, xg_90_4, xg_90_5, xp_90_5, xg_90_6, xg_90_7, xp_90_7, xg_90_8, xp_90_8, xg_90_9, xp_90_9, xg_90_10, xas_2, xal_2, xal_3, xas_4, xal_4, xln_4, xas_5, xal_5, xln_5, xas_6, xal_6, xln_6, xas_7, xal_7, xln_7, xas_8, xal_8, xln_8, xas_9, xal_9, xln_9, xas0_10, xas1_10, xasb_10, xal_10, xal_11, xas_12, xal_12, xln_12, xas_27, xal_27, xal_28, xas_29, xal_29, xln_29, xas_30, xal_30, xln_30, xas_31, xal_31, xln_31, xas_32, xal_32, xln_32, xas_33, xal_33, xln_33, xas_34, xal_34, xln_34, xas0_35, xas1_35, xasb_35, xal_35, xal_36, xas_37, xal_37, xln_37, xas_88, xal_88, xln_88, xal_89, xas_89, xln_89, xas_103, xal_103, xln_103, xas_104, xal_104, xln_104, xas_105, xal_105, xln_105, xas_106, xal_106, xln_106, xas_107, xal_107, xln_107, xal_13, xal_in14, xas_in14, xln_in14, xal_38, xal_in39, xas_in39, xln_in39, xal_52, xal_in53, xas_in53, xln_in53, xal_61, xal_in62, xas_in62, xln_in62, xal_70, xal_in71, xas_in71, xln_in71, xal_79, xal_in80, xas_in80, xln_in80, xal_91, xal_in92, xas_in92, xln_in92, cl_some, nm_b, nn_some, qn_some, qn_none, zk_0, zk_1, zk_n0, zk_n1, nI_add, pk_mul, pk_sub, nI_leE, nI_ltE, nI_eqE, nI_lt0, nI_ge0, nI_eq0, nI_gt0, nI_le0, ilt_t, ilt_f, ile_t, ile_f, ieq_t, ieq_f, if_tt, if_ff, Nat.add_sub_cancel]
      by_cases c2 : v3 = 0
      · rw [if_pos c2, c2, show 1000 * (nI 0).toInt64 = 0 by decide, Int64.sub_zero]
      · rw [if_neg c2]
    · rw [← both_eq hkn hv3]
      have fin : ∀ (c2 : CS) (W : Int64) (z : Int32), FrX (PL day) c c2 → xa c2 (92 + day) = upK (xa c (92 + day)) low z → MemoA c2 S nt N dd → ∃ c' : CS, F_X9_behindLooks_112 G (F_X9_behindBestLooks G f) (F_X9_behindDay G f) (F_X9_behindLooks G f) (F_X9_fromDay G f) (encX G X c2 h0) nx (X + 90) (nI day) (nI low) (nI set') (some p) (nI (11 * (Q low).1 + (Q low).2)) (nI kn) W 0 = some (((nI kn).toInt64 * W + (nI 1000000 - nI kn).toInt64 * ((if 1000000 ≤ kn then 0 else if nI v3 ≤ 0 then loG nt (nI set') (ovC S nt left V) r' (up2 s low (nI 0)) else loG nt (nI set') (ovC S nt left V) r' (up2 s low (nI 1000000))) - 1000 * (nI v3).toInt64)) / 1000000 - 1000 * (nI v2).toInt64, encX G X c' h0, nx) ∧ FrX (PL day) c c' ∧ xa c' (92 + day) = xa c (92 + day) ∧ MemoA c' S nt N dd := by
        intro c2 W z f2 e2r m2
        have rest : ∀ (c3 : CS) (z3 : Int32), FrX (PL day) c c3 → xa c3 (92 + day) = upK (xa c (92 + day)) low z3 → MemoA c3 S nt N dd → FrX (PL day) c (xsa c3 (92 + day) (upK (xa c3 (92 + day)) low (nI (11 * (Q low).1 + (Q low).2)))) ∧ xa (xsa c3 (92 + day) (upK (xa c3 (92 + day)) low (nI (11 * (Q low).1 + (Q low).2)))) (92 + day) = xa c (92 + day) ∧ MemoA (xsa c3 (92 + day) (upK (xa c3 (92 + day)) low (nI (11 * (Q low).1 + (Q low).2)))) S nt N dd := by
          intro c3 z3 f3 e3r m3
          refine ⟨f3.trans (FrX.sa (P := PL day) (Or.inr (by omega))) (fun _ z => z) (fun _ z => z), ?_, m3.fr (FrX.sa (P := fun k => k = 92 + day) rfl) (fun k h1 h2 z => by omega)⟩
          rw [xa_xsa_s, e3r, upK_upK, ← s3, upK_self]
        unfold F_X9_behindLooks_112 F_X9_behindLooks_144 F_X9_behindLooks_154
        by_cases ck : 1000000 ≤ kn
        · refine ⟨_, ?_, rest c2 z f2 e2r m2⟩
          rw [if_pos ck]
          simp (maxSteps := 3000000) (disch := omega) only [ck7, em, x_bothWays, el, xi_xsi_s, xi_xsi_n, xl_xsi, xa_xsi, xj_xsi, xr_xsi, xsi_xsi, xi_xsl, xl_xsl_s, xl_xsl_n, xa_xsl, xj_xsl, xr_xsl, xsl_xsl, xi_xsa, xl_xsa, xa_xsa_s, xa_xsa_n, xj_xsa, xr_xsa, xsa_xsa, xi_xsj, xl_xsj, xa_xsj, xj_xsj_s, xj_xsj_n, xr_xsj, xsj_xsj, xi_xsr, xl_xsr, xa_xsr, xj_xsr, xr_xsr_s, xr_xsr_n, xsr_xsr, xk_0, xg_0_0, xg_0_1, xg_0_2, xp_0_2, xg_0_3, xg_0_4, xg_0_5, xg_0_6, xk_1, xg_1_0, xg_1_1, xp_1_1, xg_1_2, xg_1_3, xp_1_3, xg_1_4, xg_1_5, xg_1_6, xg_1_7, xg_1_8, xg_1_9, xg_1_10, xg_1_11, xp_1_11, xg_1_12, xg_1_13, xg_1_14, xg_1_15, xp_1_15, xg_1_16, xp_1_16, xg_1_17, xp_1_17, xk_26, xg_26_0, xg_26_1, xp_26_1, xg_26_2, xg_26_3, xp_26_3, xg_26_4, xg_26_5, xg_26_6, xg_26_7, xg_26_8, xg_26_9, xg_26_10, xg_26_11, xp_26_11, xg_26_12, xg_26_13, xg_26_14, xg_26_15, xp_26_15, xg_26_16, xp_26_16, xg_26_17, xp_26_17, xk_51, xg_51_0, xg_51_1, xg_51_2, xg_51_3, xg_51_4, xg_51_5, xg_51_6, xg_51_7, xp_51_7, xg_51_8, xp_51_8, xk_90, xg_90_0, xg_90_1, xg_90_2, xg_90_3, xp_90_3, xg_90_4, xg_90_5, xp_90_5, xg_90_6, xg_90_7, xp_90_7, xg_90_8, xp_90_8, xg_90_9, xp_90_9, xg_90_10, xas_2, xal_2, xal_3, xas_4, xal_4, xln_4, xas_5, xal_5, xln_5, xas_6, xal_6, xln_6, xas_7, xal_7, xln_7, xas_8, xal_8, xln_8, xas_9, xal_9, xln_9, xas0_10, xas1_10, xasb_10, xal_10, xal_11, xas_12, xal_12, xln_12, xas_27, xal_27, xal_28, xas_29, xal_29, xln_29, xas_30, xal_30, xln_30, xas_31, xal_31, xln_31, xas_32, xal_32, xln_32, xas_33, xal_33, xln_33, xas_34, xal_34, xln_34, xas0_35, xas1_35, xasb_35, xal_35, xal_36, xas_37, xal_37, xln_37, xas_88, xal_88, xln_88, xal_89, xas_89, xln_89, xas_103, xal_103, xln_103, xas_104, xal_104, xln_104, xas_105, xal_105, xln_105, xas_106, xal_106, xln_106, xas_107, xal_107, xln_107, xal_13, xal_in14, xas_in14, xln_in14, xal_38, xal_in39, xas_in39, xln_in39, xal_52, xal_in53, xas_in53, xln_in53, xal_61, xal_in62, xas_in62, xln_in62, xal_70, xal_in71, xas_in71, xln_in71, xal_79, xal_in80, xas_in80, xln_in80, xal_91, xal_in92, xas_in92, xln_in92, cl_some, nm_b, nn_some, qn_some, qn_none, zk_0, zk_1, zk_n0, zk_n1, nI_add, pk_mul, pk_sub, nI_leE, nI_ltE, nI_eqE, nI_lt0, nI_ge0, nI_eq0, nI_gt0, nI_le0, ilt_t, ilt_f, ile_t, ile_f, ieq_t, ieq_f, if_tt, if_ff, Nat.add_sub_cancel]
        · rw [if_neg ck]
          have hX2 := hX.fr f2 (fun k z => by have := pl_pa k z; unfold PA PWA PW at this; omega)
          have ei := x_spotIll (nx := nx) (by omega : low < 8) hX2
          rw [ev3] at ei
          by_cases c3 : nI v3 ≤ 0
          · rw [if_pos c3] at ei ⊢
            obtain ⟨c4, r1, r2, r3, r4⟩ := ih r' (by omega) f set' (xsa c2 (92 + day) (upK (xa c2 (92 + day)) low (nI 22))) (up2 s low (nI 0)) (upK Q low (2, 0)) (by omega) (by omega) hset' hlow' (hT.look2 hMd (by omega) (by omega) hlt (Or.inr ⟨rfl, rfl⟩) f2 m2 (by rw [e2r, upK_upK]))
            have f4 : FrX (PL day) c c4 := (f2.trans (FrX.sa (P := PL day) (Or.inr (by omega))) (fun _ z => z) (fun _ z => z)).trans r2 (fun _ z => z) (fun _ z => z)
            refine ⟨_, ?_, rest c4 (nI 22) f4 (by rw [r3, xa_xsa_s, e2r, upK_upK]) r4⟩
            simp (maxSteps := 3000000) (disch := omega) only [ei, r1, ck7, em, x_bothWays, el, xi_xsi_s, xi_xsi_n, xl_xsi, xa_xsi, xj_xsi, xr_xsi, xsi_xsi, xi_xsl, xl_xsl_s, xl_xsl_n, xa_xsl, xj_xsl, xr_xsl, xsl_xsl, xi_xsa, xl_xsa, xa_xsa_s, xa_xsa_n, xj_xsa, xr_xsa, xsa_xsa, xi_xsj, xl_xsj, xa_xsj, xj_xsj_s, xj_xsj_n, xr_xsj, xsj_xsj, xi_xsr, xl_xsr, xa_xsr, xj_xsr, xr_xsr_s, xr_xsr_n, xsr_xsr, xk_0, xg_0_0, xg_0_1, xg_0_2, xp_0_2, xg_0_3, xg_0_4, xg_0_5, xg_0_6, xk_1, xg_1_0, xg_1_1, xp_1_1, xg_1_2, xg_1_3, xp_1_3, xg_1_4, xg_1_5, xg_1_6, xg_1_7, xg_1_8, xg_1_9, xg_1_10, xg_1_11, xp_1_11, xg_1_12, xg_1_13, xg_1_14, xg_1_15, xp_1_15, xg_1_16, xp_1_16, xg_1_17, xp_1_17, xk_26, xg_26_0, xg_26_1, xp_26_1, xg_26_2, xg_26_3, xp_26_3, xg_26_4, xg_26_5, xg_26_6, xg_26_7, xg_26_8, xg_26_9, xg_26_10, xg_26_11, xp_26_11, xg_26_12, xg_26_13, xg_26_14, xg_26_15, xp_26_15, xg_26_16, xp_26_16, xg_26_17, xp_26_17, xk_51, xg_51_0, xg_51_1, xg_51_2, xg_51_3, xg_51_4, xg_51_5, xg_51_6, xg_51_7, xp_51_7, xg_51_8, xp_51_8, xk_90, xg_90_0, xg_90_1, xg_90_2, xg_90_3, xp_90_3, xg_90_4, xg_90_5, xp_90_5, xg_90_6, xg_90_7, xp_90_7, xg_90_8, xp_90_8, xg_90_9, xp_90_9, xg_90_10, xas_2, xal_2, xal_3, xas_4, xal_4, xln_4, xas_5, xal_5, xln_5, xas_6, xal_6, xln_6, xas_7, xal_7, xln_7, xas_8, xal_8, xln_8, xas_9, xal_9, xln_9, xas0_10, xas1_10, xasb_10, xal_10, xal_11, xas_12, xal_12, xln_12, xas_27, xal_27, xal_28, xas_29, xal_29, xln_29, xas_30, xal_30, xln_30, xas_31, xal_31, xln_31, xas_32, xal_32, xln_32, xas_33, xal_33, xln_33, xas_34, xal_34, xln_34, xas0_35, xas1_35, xasb_35, xal_35, xal_36, xas_37, xal_37, xln_37, xas_88, xal_88, xln_88, xal_89, xas_89, xln_89, xas_103, xal_103, xln_103, xas_104, xal_104, xln_104, xas_105, xal_105, xln_105, xas_106, xal_106, xln_106, xas_107, xal_107, xln_107, xal_13, xal_in14, xas_in14, xln_in14, xal_38, xal_in39, xas_in39, xln_in39, xal_52, xal_in53, xas_in53, xln_in53, xal_61, xal_in62, xas_in62, xln_in62, xal_70, xal_in71, xas_in71, xln_in71, xal_79, xal_in80, xas_in80, xln_in80, xal_91, xal_in92, xas_in92, xln_in92, cl_some, nm_b, nn_some, qn_some, qn_none, zk_0, zk_1, zk_n0, zk_n1, nI_add, pk_mul, pk_sub, nI_leE, nI_ltE, nI_eqE, nI_lt0, nI_ge0, nI_eq0, nI_gt0, nI_le0, ilt_t, ilt_f, ile_t, ile_f, ieq_t, ieq_f, if_tt, if_ff, Nat.add_sub_cancel]
          · rw [if_neg c3] at ei ⊢
            obtain ⟨c4, r1, r2, r3, r4⟩ := ih r' (by omega) f set' (xsa c2 (92 + day) (upK (xa c2 (92 + day)) low (nI 11))) (up2 s low (nI 1000000)) (upK Q low (1, 0)) (by omega) (by omega) hset' hlow' (hT.look2 hMd (by omega) (by omega) hlt (Or.inl ⟨rfl, rfl⟩) f2 m2 (by rw [e2r, upK_upK]))
            have f4 : FrX (PL day) c c4 := (f2.trans (FrX.sa (P := PL day) (Or.inr (by omega))) (fun _ z => z) (fun _ z => z)).trans r2 (fun _ z => z) (fun _ z => z)
            refine ⟨_, ?_, rest c4 (nI 11) f4 (by rw [r3, xa_xsa_s, e2r, upK_upK]) r4⟩
            simp (maxSteps := 3000000) (disch := omega) only [ei, r1, ck7, em, x_bothWays, el, xi_xsi_s, xi_xsi_n, xl_xsi, xa_xsi, xj_xsi, xr_xsi, xsi_xsi, xi_xsl, xl_xsl_s, xl_xsl_n, xa_xsl, xj_xsl, xr_xsl, xsl_xsl, xi_xsa, xl_xsa, xa_xsa_s, xa_xsa_n, xj_xsa, xr_xsa, xsa_xsa, xi_xsj, xl_xsj, xa_xsj, xj_xsj_s, xj_xsj_n, xr_xsj, xsj_xsj, xi_xsr, xl_xsr, xa_xsr, xj_xsr, xr_xsr_s, xr_xsr_n, xsr_xsr, xk_0, xg_0_0, xg_0_1, xg_0_2, xp_0_2, xg_0_3, xg_0_4, xg_0_5, xg_0_6, xk_1, xg_1_0, xg_1_1, xp_1_1, xg_1_2, xg_1_3, xp_1_3, xg_1_4, xg_1_5, xg_1_6, xg_1_7, xg_1_8, xg_1_9, xg_1_10, xg_1_11, xp_1_11, xg_1_12, xg_1_13, xg_1_14, xg_1_15, xp_1_15, xg_1_16, xp_1_16, xg_1_17, xp_1_17, xk_26, xg_26_0, xg_26_1, xp_26_1, xg_26_2, xg_26_3, xp_26_3, xg_26_4, xg_26_5, xg_26_6, xg_26_7, xg_26_8, xg_26_9, xg_26_10, xg_26_11, xp_26_11, xg_26_12, xg_26_13, xg_26_14, xg_26_15, xp_26_15, xg_26_16, xp_26_16, xg_26_17, xp_26_17, xk_51, xg_51_0, xg_51_1, xg_51_2, xg_51_3, xg_51_4, xg_51_5, xg_51_6, xg_51_7, xp_51_7, xg_51_8, xp_51_8, xk_90, xg_90_0, xg_90_1, xg_90_2, xg_90_3, xp_90_3, xg_90_4, xg_90_5, xp_90_5, xg_90_6, xg_90_7, xp_90_7, xg_90_8, xp_90_8, xg_90_9, xp_90_9, xg_90_10, xas_2, xal_2, xal_3, xas_4, xal_4, xln_4, xas_5, xal_5, xln_5, xas_6, xal_6, xln_6, xas_7, xal_7, xln_7, xas_8, xal_8, xln_8, xas_9, xal_9, xln_9, xas0_10, xas1_10, xasb_10, xal_10, xal_11, xas_12, xal_12, xln_12, xas_27, xal_27, xal_28, xas_29, xal_29, xln_29, xas_30, xal_30, xln_30, xas_31, xal_31, xln_31, xas_32, xal_32, xln_32, xas_33, xal_33, xln_33, xas_34, xal_34, xln_34, xas0_35, xas1_35, xasb_35, xal_35, xal_36, xas_37, xal_37, xln_37, xas_88, xal_88, xln_88, xal_89, xas_89, xln_89, xas_103, xal_103, xln_103, xas_104, xal_104, xln_104, xas_105, xal_105, xln_105, xas_106, xal_106, xln_106, xas_107, xal_107, xln_107, xal_13, xal_in14, xas_in14, xln_in14, xal_38, xal_in39, xas_in39, xln_in39, xal_52, xal_in53, xas_in53, xln_in53, xal_61, xal_in62, xas_in62, xln_in62, xal_70, xal_in71, xas_in71, xln_in71, xal_79, xal_in80, xas_in80, xln_in80, xal_91, xal_in92, xas_in92, xln_in92, cl_some, nm_b, nn_some, qn_some, qn_none, zk_0, zk_1, zk_n0, zk_n1, nI_add, pk_mul, pk_sub, nI_leE, nI_ltE, nI_eqE, nI_lt0, nI_ge0, nI_eq0, nI_gt0, nI_le0, ilt_t, ilt_f, ile_t, ile_f, ieq_t, ieq_f, if_tt, if_ff, Nat.add_sub_cancel]
      by_cases ck : kn = 0
      · obtain ⟨c', r1, r2⟩ := fin c 0 (nI (11 * (Q low).1 + (Q low).2)) FrX.rf (by rw [← s3, upK_self]) hMm
        refine ⟨c', ?_, r2⟩
        rw [if_pos ck]
        refine Eq.trans ?_ r1
        simp (maxSteps := 3000000) (disch := omega) only [etz, eot, eot0, es, s3, q1, h79, xi_xsi_s, xi_xsi_n, xl_xsi, xa_xsi, xj_xsi, xr_xsi, xsi_xsi, xi_xsl, xl_xsl_s, xl_xsl_n, xa_xsl, xj_xsl, xr_xsl, xsl_xsl, xi_xsa, xl_xsa, xa_xsa_s, xa_xsa_n, xj_xsa, xr_xsa, xsa_xsa, xi_xsj, xl_xsj, xa_xsj, xj_xsj_s, xj_xsj_n, xr_xsj, xsj_xsj, xi_xsr, xl_xsr, xa_xsr, xj_xsr, xr_xsr_s, xr_xsr_n, xsr_xsr, xk_0, xg_0_0, xg_0_1, xg_0_2, xp_0_2, xg_0_3, xg_0_4, xg_0_5, xg_0_6, xk_1, xg_1_0, xg_1_1, xp_1_1, xg_1_2, xg_1_3, xp_1_3, xg_1_4, xg_1_5, xg_1_6, xg_1_7, xg_1_8, xg_1_9, xg_1_10, xg_1_11, xp_1_11, xg_1_12, xg_1_13, xg_1_14, xg_1_15, xp_1_15, xg_1_16, xp_1_16, xg_1_17, xp_1_17, xk_26, xg_26_0, xg_26_1, xp_26_1, xg_26_2, xg_26_3, xp_26_3, xg_26_4, xg_26_5, xg_26_6, xg_26_7, xg_26_8, xg_26_9, xg_26_10, xg_26_11, xp_26_11, xg_26_12, xg_26_13, xg_26_14, xg_26_15, xp_26_15, xg_26_16, xp_26_16, xg_26_17, xp_26_17, xk_51, xg_51_0, xg_51_1, xg_51_2, xg_51_3, xg_51_4, xg_51_5, xg_51_6, xg_51_7, xp_51_7, xg_51_8, xp_51_8, xk_90, xg_90_0, xg_90_1, xg_90_2, xg_90_3, xp_90_3, xg_90_4, xg_90_5, xp_90_5, xg_90_6, xg_90_7, xp_90_7, xg_90_8, xp_90_8, xg_90_9, xp_90_9, xg_90_10, xas_2, xal_2, xal_3, xas_4, xal_4, xln_4, xas_5, xal_5, xln_5, xas_6, xal_6, xln_6, xas_7, xal_7, xln_7, xas_8, xal_8, xln_8, xas_9, xal_9, xln_9, xas0_10, xas1_10, xasb_10, xal_10, xal_11, xas_12, xal_12, xln_12, xas_27, xal_27, xal_28, xas_29, xal_29, xln_29, xas_30, xal_30, xln_30, xas_31, xal_31, xln_31, xas_32, xal_32, xln_32, xas_33, xal_33, xln_33, xas_34, xal_34, xln_34, xas0_35, xas1_35, xasb_35, xal_35, xal_36, xas_37, xal_37, xln_37, xas_88, xal_88, xln_88, xal_89, xas_89, xln_89, xas_103, xal_103, xln_103, xas_104, xal_104, xln_104, xas_105, xal_105, xln_105, xas_106, xal_106, xln_106, xas_107, xal_107, xln_107, xal_13, xal_in14, xas_in14, xln_in14, xal_38, xal_in39, xas_in39, xln_in39, xal_52, xal_in53, xas_in53, xln_in53, xal_61, xal_in62, xas_in62, xln_in62, xal_70, xal_in71, xas_in71, xln_in71, xal_79, xal_in80, xas_in80, xln_in80, xal_91, xal_in92, xas_in92, xln_in92, cl_some, nm_b, nn_some, qn_some, qn_none, zk_0, zk_1, zk_n0, zk_n1, nI_add, pk_mul, pk_sub, nI_leE, nI_ltE, nI_eqE, nI_lt0, nI_ge0, nI_eq0, nI_gt0, nI_le0, ilt_t, ilt_f, ile_t, ile_f, ieq_t, ieq_f, if_tt, if_ff, Nat.add_sub_cancel]
      · obtain ⟨c3, u1, u2, u3, u4⟩ := ih r' (by omega) f set' (xsa c (92 + day) (upK (xa c (92 + day)) low (nI 11))) (up2 s low (nI 1000000)) (upK Q low (1, 0)) (by omega) (by omega) hset' hlow' (hT.look2 hMd (by omega) (by omega) hlt (Or.inl ⟨rfl, rfl⟩) FrX.rf hMm rfl)
        have f3 : FrX (PL day) c c3 := (FrX.sa (P := PL day) (Or.inr (by omega))).trans u2 (fun _ z => z) (fun _ z => z)
        obtain ⟨c', r1, r2⟩ := fin c3 (loG nt (nI set') (ovC S nt left V) r' (up2 s low (nI 1000000))) (nI 11) f3 (by rw [u3, xa_xsa_s]) u4
        refine ⟨c', ?_, r2⟩
        rw [if_neg ck]
        refine Eq.trans ?_ r1
        simp (maxSteps := 3000000) (disch := omega) only [etz, eot, eot0, es, s3, q1, h79, u1, xi_xsi_s, xi_xsi_n, xl_xsi, xa_xsi, xj_xsi, xr_xsi, xsi_xsi, xi_xsl, xl_xsl_s, xl_xsl_n, xa_xsl, xj_xsl, xr_xsl, xsl_xsl, xi_xsa, xl_xsa, xa_xsa_s, xa_xsa_n, xj_xsa, xr_xsa, xsa_xsa, xi_xsj, xl_xsj, xa_xsj, xj_xsj_s, xj_xsj_n, xr_xsj, xsj_xsj, xi_xsr, xl_xsr, xa_xsr, xj_xsr, xr_xsr_s, xr_xsr_n, xsr_xsr, xk_0, xg_0_0, xg_0_1, xg_0_2, xp_0_2, xg_0_3, xg_0_4, xg_0_5, xg_0_6, xk_1, xg_1_0, xg_1_1, xp_1_1, xg_1_2, xg_1_3, xp_1_3, xg_1_4, xg_1_5, xg_1_6, xg_1_7, xg_1_8, xg_1_9, xg_1_10, xg_1_11, xp_1_11, xg_1_12, xg_1_13, xg_1_14, xg_1_15, xp_1_15, xg_1_16, xp_1_16, xg_1_17, xp_1_17, xk_26, xg_26_0, xg_26_1, xp_26_1, xg_26_2, xg_26_3, xp_26_3, xg_26_4, xg_26_5, xg_26_6, xg_26_7, xg_26_8, xg_26_9, xg_26_10, xg_26_11, xp_26_11, xg_26_12, xg_26_13, xg_26_14, xg_26_15, xp_26_15, xg_26_16, xp_26_16, xg_26_17, xp_26_17, xk_51, xg_51_0, xg_51_1, xg_51_2, xg_51_3, xg_51_4, xg_51_5, xg_51_6, xg_51_7, xp_51_7, xg_51_8, xp_51_8, xk_90, xg_90_0, xg_90_1, xg_90_2, xg_90_3, xp_90_3, xg_90_4, xg_90_5, xp_90_5, xg_90_6, xg_90_7, xp_90_7, xg_90_8, xp_90_8, xg_90_9, xp_90_9, xg_90_10, xas_2, xal_2, xal_3, xas_4, xal_4, xln_4, xas_5, xal_5, xln_5, xas_6, xal_6, xln_6, xas_7, xal_7, xln_7, xas_8, xal_8, xln_8, xas_9, xal_9, xln_9, xas0_10, xas1_10, xasb_10, xal_10, xal_11, xas_12, xal_12, xln_12, xas_27, xal_27, xal_28, xas_29, xal_29, xln_29, xas_30, xal_30, xln_30, xas_31, xal_31, xln_31, xas_32, xal_32, xln_32, xas_33, xal_33, xln_33, xas_34, xal_34, xln_34, xas0_35, xas1_35, xasb_35, xal_35, xal_36, xas_37, xal_37, xln_37, xas_88, xal_88, xln_88, xal_89, xas_89, xln_89, xas_103, xal_103, xln_103, xas_104, xal_104, xln_104, xas_105, xal_105, xln_105, xas_106, xal_106, xln_106, xas_107, xal_107, xln_107, xal_13, xal_in14, xas_in14, xln_in14, xal_38, xal_in39, xas_in39, xln_in39, xal_52, xal_in53, xas_in53, xln_in53, xal_61, xal_in62, xas_in62, xln_in62, xal_70, xal_in71, xas_in71, xln_in71, xal_79, xal_in80, xas_in80, xln_in80, xal_91, xal_in92, xas_in92, xln_in92, cl_some, nm_b, nn_some, qn_some, qn_none, zk_0, zk_1, zk_n0, zk_n1, nI_add, pk_mul, pk_sub, nI_leE, nI_ltE, nI_eqE, nI_lt0, nI_ge0, nI_eq0, nI_gt0, nI_le0, ilt_t, ilt_f, ile_t, ile_f, ieq_t, ieq_f, if_tt, if_ff, Nat.add_sub_cancel]
end XBL
