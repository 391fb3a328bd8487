/-! THE CLASS's fromDay -/
theorem lt_or2 {a t nt : Nat} (ha : a < 2 ^ nt) (ht : t < nt) : a ||| 2 ^ t < 2 ^ nt := Nat.or_lt_two_pow ha (Nat.pow_lt_pow_right (by decide) ht)
theorem set_gr {W : Nat → Int32} {nt : Nat} (h8 : nt ≤ 8) : ∀ n, n ≤ nt → ∃ m, m < 2 ^ nt ∧ grF W nt n = nI m
  | 0, _ => ⟨0, Nat.two_pow_pos _, rfl⟩
  | n + 1, hn => by
    obtain ⟨m, hm, e⟩ := set_gr (W := W) h8 n (by omega)
    obtain ⟨j, hj, ej⟩ := pick_some (W := W) (n := n) h8 (by omega)
    refine ⟨m ||| 2 ^ j, lt_or2 hm hj, ?_⟩
    show grF W nt n ||| (nI 1 <<< (pickF W (grF W nt n) nt &&& 31)) = _
    rw [ej, e, shl_n (by omega), fa_or]
theorem set_tu {nt b : Nat} (h0 : 0 < nt) (h8 : nt ≤ 8) : ∀ n, ∃ m, m < 2 ^ nt ∧ tuN nt b n = nI m
  | 0 => ⟨0, Nat.two_pow_pos _, rfl⟩
  | n + 1 => by
    obtain ⟨m, hm, e⟩ := set_tu (b := b) h0 h8 n
    have hj : (b + n) % nt < nt := Nat.mod_lt _ h0
    refine ⟨m ||| 2 ^ ((b + n) % nt), lt_or2 hm hj, ?_⟩
    show tuN nt b n ||| (nI 1 <<< (nI ((b + n) % nt) &&& 31)) = _
    rw [e, shl_n (by omega), fa_or]
theorem set_to {nt : Nat} {all lk : Int32} (h8 : nt ≤ 8) : ∀ t, t ≤ nt → ∃ m, m < 2 ^ nt ∧ toF all lk t = nI m
  | 0, _ => ⟨0, Nat.two_pow_pos _, rfl⟩
  | t + 1, ht => by
    obtain ⟨m, hm, e⟩ := set_to (all := all) (lk := lk) h8 t (by omega)
    unfold toF
    by_cases c : bitI all t = nI 1 ∧ cnF (toF all lk t) 8 < lk
    · rw [if_pos c, e, shl_n (by omega), fa_or]
      exact ⟨m ||| 2 ^ t, lt_or2 hm (by omega), rfl⟩
    · rw [if_neg c, e, fa_or]
      exact ⟨m ||| 0, by rw [Nat.or_zero]; exact hm, rfl⟩
theorem set_wh {st : MS} {p dd nt lk : Nat} (h8 : nt ≤ 8) (hlk : lk ≤ nt) : ∃ m, m < 2 ^ nt ∧ whF st p dd nt lk = nI m := by
  unfold whF
  by_cases c0 : nt = 0
  · rw [if_pos c0]; exact ⟨0, Nat.two_pow_pos _, rfl⟩
  · rw [if_neg c0]
    have h0 : 0 < nt := by omega
    by_cases c1 : sN (ma st 1) (1070 + p) = 2
    · rw [if_pos c1, tu_tuN h0 h8 lk (by omega)]
      exact set_tu h0 h8 lk
    · rw [if_neg c1]
      by_cases c2 : sN (ma st 1) (1070 + p) = 4
      · rw [if_pos c2, tu_tuN h0 h8 lk (by omega)]
        exact set_tu h0 h8 lk
      · rw [if_neg c2]
        by_cases c3 : sN (ma st 1) (1070 + p) = 6
        · rw [if_pos c3]
          unfold tdF
          by_cases c4 : sN (ma st 1) (1094 + p) = 0
          · rw [if_pos c4]; exact ⟨0, Nat.two_pow_pos _, rfl⟩
          · rw [if_neg c4]; exact set_to h8 nt (Nat.le_refl _)
        · rw [if_neg c3]; exact set_gr h8 lk hlk
/-- the fuel of days -/
def MFX (nt : Nat) : Nat → Nat
  | 0 => 0
  | l + 1 => MFX nt l + nt + 4
/-- all that is known is as it can be -/
def KnA (nt : Nat) (s : Nat → Int32) : Prop := ∀ t, t < nt → KdV (s (1034 + t), s (1042 + t))
section XBD
variable {G : Gx} {X lo nx : Nat} {h0 : Hp} {c : CS} {S : MS} {ns nt np lk td q : Nat}
theorem KnA.up {s : Nat → Int32} {t : Nat} {x : Int32} (h : KnA nt s) (ht : t < 8) (hn : nt ≤ 8) (hx : x = nI 1000000 ∨ x = nI 0) : KnA nt (up2 s t x) := fun i hi => by
  by_cases e : i = t
  · subst e
    rw [(up2_k (by omega)).1, (up2_k (by omega)).2]
    rcases hx with rfl | rfl
    · exact ⟨1000000, 0, by omega, by omega, rfl⟩
    · exact ⟨0, 0, by omega, by omega, rfl⟩
  · rw [(up2_o e (by omega) (by omega)).1, (up2_o e (by omega) (by omega)).2]
    exact h i hi
theorem lo_bd (hC : XC G X lo h0 c (ma S 1) ns nt np lk td q) {set : Int32} {cont : (Nat → Int32) → Int64} {B : Nat} (hB : B < 2 ^ 39) (hc : ∀ s, AgN nt (ma S 1) s → KnA nt s → Bd (cont s) B) : ∀ (r : Nat) (s : Nat → Int32), r ≤ nt → AgN nt (ma S 1) s → KnA nt s → Bd (loG nt set cont r s) (B + 2000000 * r)
  | 0, s, _, ha, hk => (hc s ha hk).mono (by omega)
  | r + 1, s, hr, ha, hk => by
    have h8 := x_nt8 hC
    have ht : nt - (r + 1) < nt := by omega
    obtain ⟨a, p, hX⟩ := hC.th ht
    have hth := x_ThOk hC ht
    have ih : ∀ x, x = nI 1000000 ∨ x = nI 0 → Bd (loG nt set cont r (upK (upK s (1034 + (nt - (r + 1))) x) (1042 + (nt - (r + 1))) (nI 0))) (B + 2000000 * r) := fun x hx => lo_bd hC hB hc r (up2 s (nt - (r + 1)) x) (by omega) ((ha.trans (AgN.up1 ht h8)).trans (AgN.up2 ht h8)) (hk.up (by omega) h8 hx)
    rw [lo_s]
    by_cases c0 : bitI set (nt - (r + 1)) = 0
    · rw [if_pos c0]
      exact (lo_bd hC hB hc r s (by omega) ha hk).mono (by omega)
    · rw [if_neg c0]
      obtain ⟨k, d, hk1, _, ek⟩ := hk _ ht
      have ek : s (1034 + (nt - (r + 1))) = nI k := congrArg Prod.fst ek
      have c2 := cost_bd hX (w := 2) (by omega)
      have c3 := cost_bd hX (w := 3) (by omega)
      rw [← valF_ag (ha.ag h8) hth (w := 2) (by omega)] at c2
      rw [← valF_ag (ha.ag h8) hth (w := 3) (by omega)] at c3
      have i1 := ih (nI 1000000) (Or.inl rfl)
      have i2 := ih (nI 0) (Or.inr rfl)
      rw [ek]
      have hill : Bd (if valF s (nt - (r + 1)) 3 ≤ 0 then loG nt set cont r (upK (upK s (1034 + (nt - (r + 1))) (nI 0)) (1042 + (nt - (r + 1))) (nI 0)) else loG nt set cont r (upK (upK s (1034 + (nt - (r + 1))) (nI 1000000)) (1042 + (nt - (r + 1))) (nI 0)) - 1000 * (valF s (nt - (r + 1)) 3).toInt64) (B + 2000000 * r + 999000) := by
        split
        · exact i2.mono (by omega)
        · exact (Bd.sub i1 c3 (by omega)).1
      exact (Bd.sub (mean_bd (i1.mono (by omega)) hill hk1 (by omega)) c2 (by omega)).1.mono (by omega)
theorem ba_bd (hC : XC G X lo h0 c (ma S 1) ns nt np lk td q) {s : Nat → Int32} (ha : AgN nt (ma S 1) s) (hk : KnA nt s) : ∀ t, t ≤ nt → Bd (baF s t) (1000000 * t)
  | 0, _ => (show Bd (0 : Int64) (1000000 * 0) from ⟨by decide, by decide⟩)
  | t + 1, ht => by
    have h8 := x_nt8 hC
    obtain ⟨a, p, hX⟩ := hC.th (t := t) (by omega)
    obtain ⟨k, d, hk1, _, ek⟩ := hk t (by omega)
    have ek : s (1034 + t) = nI k := congrArg Prod.fst ek
    have eb := brF_ag (S := S) (S' := msa S 1 s) (by rw [ma_msa_s]; exact ha.ag h8) (x_ThOk hC (t := t) (by omega))
    rw [ma_msa_s] at eb
    have i1 := ba_bd hC ha hk t (by omega)
    have b2 := (br_ovI hX hk1).2
    show Bd (baF s t + brF s t (s (1034 + t))) _
    rw [eb, ek]
    exact (Bd.add i1 b2 (by omega)).1.mono (by omega)
theorem KnA.ov (hC : XC G X lo h0 c (ma S 1) ns nt np lk td q) {s : Nat → Int32} (ha : AgN nt (ma S 1) s) (hk : KnA nt s) : KnA nt (ovP S s nt) := fun t ht => by
  have h8 := x_nt8 hC
  obtain ⟨a, p, hX⟩ := hC.th ht
  have ov := (ovP_at (S := S) h8 ha (fun t ht => x_ThOk hC ht) nt (Nat.le_refl _)).1 t ht
  rw [ov.1, ov.2]
  exact over_V hX (z := (s (1034 + t), s (1042 + t))) (hk t ht)
theorem KnA.st (hC : XC G X lo h0 c (ma S 1) ns nt np lk td q) : KnA nt (ma S 1) := fun t ht => by
  obtain ⟨a, p, hX⟩ := hC.th ht
  obtain ⟨_, _, _, _, _, _, _, _, _, _, ⟨_, ⟨k, hk, ek⟩, ⟨d, hd, ed⟩, _⟩⟩ := hX
  exact ⟨k, d, hk, hd, by rw [ek, ed]⟩
theorem day_bd (hC : XC G X lo h0 c (ma S 1) ns nt np lk td q) {set : Int32} {V : (Nat → Int32) → Int64} {B : Nat} (hB : B < 2 ^ 38) (hV : ∀ s, AgN nt (ma S 1) s → KnA nt s → Bd (V s) B) {s : Nat → Int32} (ha : AgN nt (ma S 1) s) (hk : KnA nt s) : Bd (loG nt set (fun s' => V (ovP S s' nt)) nt s) (B + 16000000) := by
  have h8 := x_nt8 hC
  exact (lo_bd hC (by omega) (fun s' a2 k2 => hV _ (a2.trans (ovP_agN h8 (Nat.le_refl _))) (KnA.ov hC a2 k2)) nt s (Nat.le_refl _) ha hk).mono (by omega)
theorem me_bd (hC : XC G X lo h0 c (ma S 1) ns nt np lk td q) {ch : (Nat → Int32) → Nat → Int32} : ∀ (l dd : Nat) (s : Nat → Int32), l ≤ 100 → AgN nt (ma S 1) s → KnA nt s → Bd (meG S nt ch l dd s) (24000000 * l)
  | 0, _, _, _, _, _ => (show Bd (0 : Int64) (24000000 * 0) from ⟨by decide, by decide⟩)
  | l + 1, dd, s, hl, ha, hk => by
    have h8 := x_nt8 hC
    have i1 := day_bd (set := ch s dd) (V := meG S nt ch l (dd + 1)) hC (B := 24000000 * l) (by omega) (fun s' a2 k2 => me_bd (ch := ch) hC l (dd + 1) s' (by omega) a2 k2) ha hk
    have i2 := ba_bd hC ha hk nt (Nat.le_refl _)
    show Bd (baF s nt + loG nt (ch s dd) (fun s' => meG S nt ch l (dd + 1) (ovP S s' nt)) nt s) _
    exact (Bd.add i2 i1 (by omega)).1.mono (by omega)
theorem bs_bd {f : Int32 → Int64} {B : Nat} (hf : ∀ x, Bd (f x) B) : ∀ n, Bd (bsS f lk n).2.1 B
  | 0 => (show Bd (0 : Int64) B from ⟨by show -(B : Int) ≤ 0; omega, by show (0 : Int) ≤ B; omega⟩)
  | n + 1 => by
    unfold bsS
    split
    · split
      · exact hf _
      · exact bs_bd hf n
    · exact bs_bd hf n
theorem be_bd (hC : XC G X lo h0 c (ma S 1) ns nt np lk td q) : ∀ (l : Nat) (s : Nat → Int32), l ≤ 100 → AgN nt (ma S 1) s → KnA nt s → Bd (beG S nt lk l s) (24000000 * l)
  | 0, _, _, _, _ => (show Bd (0 : Int64) (24000000 * 0) from ⟨by decide, by decide⟩)
  | l + 1, s, hl, ha, hk => by
    have h8 := x_nt8 hC
    have i1 : ∀ set, Bd (loG nt set (fun s' => beG S nt lk l (ovP S s' nt)) nt s) (24000000 * l + 16000000) := fun set => day_bd (set := set) hC (B := 24000000 * l) (by omega) (fun s' a2 k2 => be_bd hC l s' (by omega) a2 k2) ha hk
    have i2 := ba_bd hC ha hk nt (Nat.le_refl _)
    show Bd (baF s nt + (bsS (fun set => loG nt set (fun s' => beG S nt lk l (ovP S s' nt)) nt s) lk (2 ^ nt)).2.1) _
    exact (Bd.add i2 (bs_bd i1 (2 ^ nt)) (by omega)).1.mono (by omega)
end XBD
section XFD
variable {G : Gx} {X lo nx : Nat} {h0 : Hp} {S : MS} {ns nt np lk td q N dd days : Nat} {Md : CS → Prop}
theorem TI.kn {c : CS} {s : Nat → Int32} {Q : Nat → Nat × Nat} {day left : Nat} (hT : TI G X lo h0 S ns nt np lk td q N dd days Md c s Q day left) : KnA nt s := fun t ht => by
  obtain ⟨⟨hC, _⟩, _, _, hS⟩ := hT
  obtain ⟨a, p, hX⟩ := hC.th ht
  obtain ⟨_, _, _, s4⟩ := hS t ht
  rw [← s4]
  refine paK_V hX ?_ _
  have hk := KnA.st hC t ht
  unfold stZ
  by_cases q0 : (Q t).1 = 0
  · rw [if_pos q0]; exact hk
  · rw [if_neg q0]
    split
    · exact ⟨1000000, 0, by omega, by omega, rfl⟩
    · exact ⟨0, 0, by omega, by omega, rfl⟩
theorem TI.go (hMd : MdOk Md) {c c' : CS} {s : Nat → Int32} {Q : Nat → Nat × Nat} {day left : Nat} {P : Nat → Prop} (hT : TI G X lo h0 S ns nt np lk td q N dd days Md c s Q day left) (f : FrX P c c') (hP : ∀ k, P k → PA k) (hs : xa c' (92 + day) = xa c (92 + day)) (hm : MemoA c' S nt N dd) : TI G X lo h0 S ns nt np lk td q N dd days Md c' s Q day left := by
  obtain ⟨hB, _, hA, hS⟩ := hT
  refine ⟨hB.fr hMd (f.mono hP), hm, hA, fun t ht => ?_⟩
  rw [hs]
  exact hS t ht
theorem ba_s {s : Nat → Int32} {t : Nat} : baF s (t + 1) = baF s t + brF s t (s (1034 + t)) := rfl
set_option maxRecDepth 100000 in
set_option maxHeartbeats 1000000 in
theorem x_fd15 {cb cd cf : Hp → Nat → Nat → Int32 → Rz Int64} {cl0 : Hp → Nat → Nat → Int32 → Int32 → Rz Int64} {c : CS} {s : Nat → Int32} {Q : Nat → Nat × Nat} {day left : Nat} (hd10 : day < 11) (hN : dd + left ≤ N) (hN10 : N ≤ 10) (hT : TI G X lo h0 S ns nt np lk td q N dd days Md c s Q day left) : ∀ (r t m : Nat), t + r = nt → r < m → ∃ m', F_X9_fromDay_15 G cb cd cl0 cf m (encX G X c h0) nx (X + 90) (nI day) (baF s t) (nI t) = F_X9_fromDay_15 G cb cd cl0 cf (m' + 1) (encX G X c h0) nx (X + 90) (nI day) (baF s nt) (nI nt) := by
  obtain ⟨⟨hC, hL, h79, hM⟩, hMm, hA, hS⟩ := id hT
  have h8 := x_nt8 hC
  have h5 := x_thC hC
  intro r
  induction r with
  | zero =>
    intro t m ht hm
    obtain ⟨m, rfl⟩ : ∃ q, m = q + 1 := ⟨m - 1, by omega⟩
    obtain rfl : t = nt := by omega
    exact ⟨m, rfl⟩
  | succ r ih =>
    intro t m ht hm
    obtain ⟨m, rfl⟩ : ∃ q, m = q + 1 := ⟨m - 1, by omega⟩
    obtain ⟨m', e⟩ := ih (t + 1) m (by omega) (by omega)
    refine ⟨m', ?_⟩
    have htn : t < nt := by omega
    obtain ⟨a, p, hX⟩ := hC.th htn
    have ha : sN (ma S 1) (1010 + t) = a := hX.2.1
    obtain ⟨s1, s2, s3, s4⟩ := hS t htn
    obtain ⟨k, d, hk, _, ek⟩ := hT.kn t htn
    have ek : s (1034 + t) = nI k := congrArg Prod.fst ek
    have hLt := hL t htn
    rw [ha] at hLt
    have q1 : xa c (71 + t) (11 * (Q t).1 + (Q t).2) = brI (ma S 1) a (nI k) := by
      rw [(hLt (Q t).1 s1 (Q t).2 (by omega)).2.2, s4]
      show brI (ma S 1) a (s (1034 + t)) = _
      rw [ek]
    have eb := brF_ag (S := S) (S' := msa S 1 s) (by rw [ma_msa_s]; exact hA.ag h8) (x_ThOk hC htn)
    rw [ma_msa_s] at eb
    rw [ba_s, eb, ek, ← (br_ovI hX hk).1] at e
    rw [F_X9_fromDay_15_s]
    simp (maxSteps := 3000000) (disch := omega) only [h5, s3, q1, xi_xsi_s, xi_xsi_n, xl_xsi, xa_xsi, xj_xsi, xr_xsi, xsi_xsi, xi_xsl, xl_xsl_s, xl_xsl_n, xa_xsl, xj_xsl, xr_xsl, xsl_xsl, xi_xsa, xl_xsa, xa_xsa_s, xa_xsa_n, xj_xsa, xr_xsa, xsa_xsa, xi_xsj, xl_xsj, xa_xsj, xj_xsj_s, xj_xsj_n, xr_xsj, xsj_xsj, xi_xsr, xl_xsr, xa_xsr, xj_xsr, xr_xsr_s, xr_xsr_n, xsr_xsr, xk_0, xg_0_0, xg_0_1, xg_0_2, xp_0_2, xg_0_3, xg_0_4, xg_0_5, xg_0_6, xk_1, xg_1_0, xg_1_1, xp_1_1, xg_1_2, xg_1_3, xp_1_3, xg_1_4, xg_1_5, xg_1_6, xg_1_7, xg_1_8, xg_1_9, xg_1_10, xg_1_11, xp_1_11, xg_1_12, xg_1_13, xg_1_14, xg_1_15, xp_1_15, xg_1_16, xp_1_16, xg_1_17, xp_1_17, xk_26, xg_26_0, xg_26_1, xp_26_1, xg_26_2, xg_26_3, xp_26_3, xg_26_4, xg_26_5, xg_26_6, xg_26_7, xg_26_8, xg_26_9, xg_26_10, xg_26_11, xp_26_11, xg_26_12, xg_26_13, xg_26_14, xg_26_15, xp_26_15, xg_26_16, xp_26_16, xg_26_17, xp_26_17, xk_51, xg_51_0, xg_51_1, xg_51_2, xg_51_3, xg_51_4, xg_51_5, xg_51_6, xg_51_7, xp_51_7, xg_51_8, xp_51_8, xk_90, xg_90_0, xg_90_1, xg_90_2, xg_90_3, xp_90_3, xg_90_4, xg_90_5, xp_90_5, xg_90_6, xg_90_7, xp_90_7, xg_90_8, xp_90_8, xg_90_9, xp_90_9, xg_90_10, xas_2, xal_2, xal_3, xas_4, xal_4, xln_4, xas_5, xal_5, xln_5, xas_6, xal_6, xln_6, xas_7, xal_7, xln_7, xas_8, xal_8, xln_8, xas_9, xal_9, xln_9, xas0_10, xas1_10, xasb_10, xal_10, xal_11, xas_12, xal_12, xln_12, xas_27, xal_27, xal_28, xas_29, xal_29, xln_29, xas_30, xal_30, xln_30, xas_31, xal_31, xln_31, xas_32, xal_32, xln_32, xas_33, xal_33, xln_33, xas_34, xal_34, xln_34, xas0_35, xas1_35, xasb_35, xal_35, xal_36, xas_37, xal_37, xln_37, xas_88, xal_88, xln_88, xal_89, xas_89, xln_89, xas_103, xal_103, xln_103, xas_104, xal_104, xln_104, xas_105, xal_105, xln_105, xas_106, xal_106, xln_106, xas_107, xal_107, xln_107, xal_13, xal_in14, xas_in14, xln_in14, xal_38, xal_in39, xas_in39, xln_in39, xal_52, xal_in53, xas_in53, xln_in53, xal_61, xal_in62, xas_in62, xln_in62, xal_70, xal_in71, xas_in71, xln_in71, xal_79, xal_in80, xas_in80, xln_in80, xal_91, xal_in92, xas_in92, xln_in92, cl_some, nm_b, nn_some, qn_some, qn_none, zk_0, zk_1, zk_n0, zk_n1, nI_add, pk_mul, pk_sub, nI_leE, nI_ltE, nI_eqE, nI_lt0, nI_ge0, nI_eq0, nI_gt0, nI_le0, ilt_t, ilt_f, ile_t, ile_f, ieq_t, ieq_f, if_tt, if_ff, Nat.add_sub_cancel]
    exact e
theorem x_fdGo {c : CS} {s : Nat → Int32} {Q : Nat → Nat × Nat} {day left f : Nat} (hl : 1 ≤ left) (hdl : day + left = days) (hd10 : days ≤ 10) (hN : dd + left ≤ N) (hN10 : N ≤ 10) (hT : TI G X lo h0 S ns nt np lk td q N dd days Md c s Q day left) : ∃ m', F_X9_fromDay G (f + 1) (encX G X c h0) nx (X + 90) (nI day) = F_X9_fromDay_15 G (F_X9_behindBestLooks G f) (F_X9_behindDay G f) (F_X9_behindLooks G f) (F_X9_fromDay G f) (m' + 1) (encX G X c h0) nx (X + 90) (nI day) (baF s nt) (nI nt) := by
  have h8 := x_nt8 hT.1.1
  have h79 : xi c 79 = nI days := hT.1.2.2.1
  obtain ⟨m', e⟩ := x_fd15 (nx := nx) (cb := F_X9_behindBestLooks G f) (cd := F_X9_behindDay G f) (cl0 := F_X9_behindLooks G f) (cf := F_X9_fromDay G f) (by omega) hN hN10 hT nt 0 fuelL (by omega) (by unfold fuelL; omega)
  refine ⟨m', ?_⟩
  rw [F_X9_fromDay_s]
  unfold B_X9_fromDay
  simp (maxSteps := 3000000) (disch := omega) only [h79, xi_xsi_s, xi_xsi_n, xl_xsi, xa_xsi, xj_xsi, xr_xsi, xsi_xsi, xi_xsl, xl_xsl_s, xl_xsl_n, xa_xsl, xj_xsl, xr_xsl, xsl_xsl, xi_xsa, xl_xsa, xa_xsa_s, xa_xsa_n, xj_xsa, xr_xsa, xsa_xsa, xi_xsj, xl_xsj, xa_xsj, xj_xsj_s, xj_xsj_n, xr_xsj, xsj_xsj, xi_xsr, xl_xsr, xa_xsr, xj_xsr, xr_xsr_s, xr_xsr_n, xsr_xsr, xk_0, xg_0_0, xg_0_1, xg_0_2, xp_0_2, xg_0_3, xg_0_4, xg_0_5, xg_0_6, xk_1, xg_1_0, xg_1_1, xp_1_1, xg_1_2, xg_1_3, xp_1_3, xg_1_4, xg_1_5, xg_1_6, xg_1_7, xg_1_8, xg_1_9, xg_1_10, xg_1_11, xp_1_11, xg_1_12, xg_1_13, xg_1_14, xg_1_15, xp_1_15, xg_1_16, xp_1_16, xg_1_17, xp_1_17, xk_26, xg_26_0, xg_26_1, xp_26_1, xg_26_2, xg_26_3, xp_26_3, xg_26_4, xg_26_5, xg_26_6, xg_26_7, xg_26_8, xg_26_9, xg_26_10, xg_26_11, xp_26_11, xg_26_12, xg_26_13, xg_26_14, xg_26_15, xp_26_15, xg_26_16, xp_26_16, xg_26_17, xp_26_17, xk_51, xg_51_0, xg_51_1, xg_51_2, xg_51_3, xg_51_4, xg_51_5, xg_51_6, xg_51_7, xp_51_7, xg_51_8, xp_51_8, xk_90, xg_90_0, xg_90_1, xg_90_2, xg_90_3, xp_90_3, xg_90_4, xg_90_5, xp_90_5, xg_90_6, xg_90_7, xp_90_7, xg_90_8, xp_90_8, xg_90_9, xp_90_9, xg_90_10, xas_2, xal_2, xal_3, xas_4, xal_4, xln_4, xas_5, xal_5, xln_5, xas_6, xal_6, xln_6, xas_7, xal_7, xln_7, xas_8, xal_8, xln_8, xas_9, xal_9, xln_9, xas0_10, xas1_10, xasb_10, xal_10, xal_11, xas_12, xal_12, xln_12, xas_27, xal_27, xal_28, xas_29, xal_29, xln_29, xas_30, xal_30, xln_30, xas_31, xal_31, xln_31, xas_32, xal_32, xln_32, xas_33, xal_33, xln_33, xas_34, xal_34, xln_34, xas0_35, xas1_35, xasb_35, xal_35, xal_36, xas_37, xal_37, xln_37, xas_88, xal_88, xln_88, xal_89, xas_89, xln_89, xas_103, xal_103, xln_103, xas_104, xal_104, xln_104, xas_105, xal_105, xln_105, xas_106, xal_106, xln_106, xas_107, xal_107, xln_107, xal_13, xal_in14, xas_in14, xln_in14, xal_38, xal_in39, xas_in39, xln_in39, xal_52, xal_in53, xas_in53, xln_in53, xal_61, xal_in62, xas_in62, xln_in62, xal_70, xal_in71, xas_in71, xln_in71, xal_79, xal_in80, xas_in80, xln_in80, xal_91, xal_in92, xas_in92, xln_in92, cl_some, nm_b, nn_some, qn_some, qn_none, zk_0, zk_1, zk_n0, zk_n1, nI_add, pk_mul, pk_sub, nI_leE, nI_ltE, nI_eqE, nI_lt0, nI_ge0, nI_eq0, nI_gt0, nI_le0, ilt_t, ilt_f, ile_t, ile_f, ieq_t, ieq_f, if_tt, if_ff, Nat.add_sub_cancel]
  exact e
/-- what the looks of a day's set bring behind it -/
theorem x_go (hMd : MdOk Md) {m day left f set : Nat} {V : (Nat → Int32) → Int64} (hl1 : 1 ≤ left) (hdl : day + left = days) (hd10 : days ≤ 10) (hN : dd + days ≤ N) (hN10 : N ≤ 10) (hV : 2 ≤ left → ∀ m', m ≤ m' → FdP G X lo nx h0 S ns nt np lk td q N dd days Md m' (day + 1) (left - 1) V) (hf : m + 2 + nt ≤ f) (hset : set < 2 ^ nt) {c : CS} {s : Nat → Int32} {Q : Nat → Nat × Nat} (hT : TI G X lo h0 S ns nt np lk td q N dd days Md c s Q day left) : ∃ c' : CS, F_X9_behindLooks G f (encX G X c h0) nx (X + 90) (nI day) (nI set) = some (loG nt (nI set) (ovC S nt left V) nt s, encX G X c' h0, nx) ∧ FrX (PL day) c c' ∧ xa c' (92 + day) = xa c (92 + day) ∧ MemoA c' S nt N dd :=
  x_bl (nx := nx) hMd (x_nt8 hT.1.1) hl1 hdl hd10 hN hN10 hV nt f set c s Q (Nat.le_refl _) hf hset (fun t ht => absurd ht (by omega)) hT
theorem ovC_me {ch : (Nat → Int32) → Nat → Int32} {l D : Nat} : ovC S nt (l + 1) (meG S nt ch l D) = fun s' => meG S nt ch l D (ovP S s' nt) := by
  funext s'
  unfold ovC
  by_cases c : l + 1 = 1
  · obtain rfl : l = 0 := by omega
    rw [if_pos rfl]; rfl
  · rw [if_neg c]
theorem ovC_be {l : Nat} : ovC S nt (l + 1) (beG S nt lk l) = fun s' => beG S nt lk l (ovP S s' nt) := by
  funext s'
  unfold ovC
  by_cases c : l + 1 = 1
  · obtain rfl : l = 0 := by omega
    rw [if_pos rfl]; rfl
  · rw [if_neg c]
theorem me_s {ch : (Nat → Int32) → Nat → Int32} {l D : Nat} {s : Nat → Int32} : meG S nt ch (l + 1) D s = baF s nt + loG nt (ch s D) (fun s' => meG S nt ch l (D + 1) (ovP S s' nt)) nt s := rfl
/-- a plan chooses -/
def MdP (G : Gx) (X : Nat) (h0 : Hp) (S : MS) (nt p q0 k v : Nat) (c : CS) : Prop := xr c 91 0 = some q0 ∧ XP G X h0 c (ma S 1) nt p q0 k v
theorem MdP.ok {p q0 k v : Nat} : MdOk (MdP G X h0 S nt p q0 k v) := fun c c' f h => ⟨by rw [f.r 91 (by unfold PA PWA PW; omega)]; exact h.1, h.2.fr f (fun k z => by unfold PA PWA PW at z; omega)⟩
theorem lk_le {c : CS} (hC : XC G X lo h0 c (ma S 1) ns nt np lk td q) : lk ≤ nt ∧ lk ≤ 3 := by
  obtain ⟨l, _, h3, _, e⟩ := x_lkC hC
  rw [e]
  exact ⟨Nat.min_le_right _ _, Nat.le_trans (Nat.min_le_left _ _) h3⟩
set_option maxRecDepth 100000 in
set_option maxHeartbeats 1000000 in
theorem x_fdP {p q0 k v : Nat} (hd10 : days ≤ 10) (hN : dA k v + days ≤ N) (hN10 : N ≤ 10) : ∀ (left : Nat), 1 ≤ left → ∀ (day m : Nat), day + left = days → MFX nt left ≤ m → FdP G X lo nx h0 S ns nt np lk td q N (dA k v) days (MdP G X h0 S nt p q0 k v) m day left (meG S nt (plC S nt lk p) left (td + day)) := by
  intro left
  induction left with
  | zero => intro h; exact absurd h (by omega)
  | succ l ih =>
    intro _ day m hdl hm c s Q hT
    obtain ⟨f, rfl⟩ : ∃ z, m = z + 1 := ⟨m - 1, by unfold MFX at hm; omega⟩
    have hm : MFX nt l + nt + 4 ≤ f + 1 := hm
    obtain ⟨⟨hC, hL, h79, h91, hP⟩, hMm, hA, hS⟩ := id hT
    have h8 := x_nt8 hC
    have h5 := x_thC hC
    have hlk := lk_le hC
    have etd : xi c 115 = nI td := (hC.2.1.1.2.2.2.2.1).trans hC.2.2.2.2.2.2.2.2.1
    have htd : td ≤ 999 := hC.2.2.2.2.2.2.2.2.2.1
    obtain ⟨m', e1⟩ := x_fdGo (nx := nx) (f := f) (by omega) hdl hd10 (by omega) hN10 hT
    obtain ⟨c2, e3, f2, m2⟩ := x_chK (nx := nx) (ks := 92 + day) (sp := X + 92 + day) (dd := td + day) (s := s) hC hP hL hN10 hMm hA (hS.mono (by omega)) (by unfold PWA PW; omega) (fun c2 t => (fun ht => xal_in92 (by omega) ht)) (by omega)
    obtain ⟨set, hset, eset⟩ := set_wh (st := msa S 1 s) (p := p) (dd := td + day) h8 hlk.1
    have hT2 : TI G X lo h0 S ns nt np lk td q N (dA k v) days (MdP G X h0 S nt p q0 k v) c2 s Q day (l + 1) := hT.go MdP.ok f2 (fun k z => Or.inl z) (f2.a (92 + day) (by unfold PWA PW; omega)) m2
    obtain ⟨c3, e4, f3, s3, m3⟩ := x_go (nx := nx) MdP.ok (m := MFX nt l) (f := f) (set := set) (V := meG S nt (plC S nt lk p) l (td + day + 1)) (by omega) hdl hd10 hN hN10 (fun h2 m' hm' => ih (by omega) (day + 1) m' (by omega) hm') (by omega) hset hT2
    rw [ovC_me] at e4
    refine ⟨c3, ?_, f2.trans f3 (fun k z => Or.inl z) (fun _ z => z), s3.trans (f2.a (92 + day) (by unfold PWA PW; omega)), m3⟩
    rw [e1, me_s, F_X9_fromDay_15_s]
    show _ = some (baF s nt + loG nt (whF (msa S 1 s) p (td + day) nt lk) (fun s' => meG S nt (plC S nt lk p) l (td + day + 1) (ovP S s' nt)) nt s, encX G X c3 h0, nx)
    rw [eset] at e3 ⊢
    have hq := hP.2.1
    have k6 := hP.2.2.1
    rcases (show k = 0 ∨ k = 1 ∨ k = 2 ∨ k = 3 ∨ k = 4 ∨ k = 5 ∨ k = 6 by omega) with rfl | rfl | rfl | rfl | rfl | rfl | rfl
    · have hck : ∀ {β : Type} {f : Nat → Option β}, ck (encX G X c h0) q0 [1, 2, 3, 4, 6, 8, 10] f = f 6 := ck_at (hq c) (by decide)
      have e3 : F_X6_chosen G (encX G X c h0) nx q0 (X + 51) (X + 92 + day) (nI (td + day)) = _ := e3
      simp (maxSteps := 3000000) (disch := omega) only [h5, h91, etd, hck, e3, e4, xi_xsi_s, xi_xsi_n, xl_xsi, xa_xsi, xj_xsi, xr_xsi, xsi_xsi, xi_xsl, xl_xsl_s, xl_xsl_n, xa_xsl, xj_xsl, xr_xsl, xsl_xsl, xi_xsa, xl_xsa, xa_xsa_s, xa_xsa_n, xj_xsa, xr_xsa, xsa_xsa, xi_xsj, xl_xsj, xa_xsj, xj_xsj_s, xj_xsj_n, xr_xsj, xsj_xsj, xi_xsr, xl_xsr, xa_xsr, xj_xsr, xr_xsr_s, xr_xsr_n, xsr_xsr, xk_0, xg_0_0, xg_0_1, xg_0_2, xp_0_2, xg_0_3, xg_0_4, xg_0_5, xg_0_6, xk_1, xg_1_0, xg_1_1, xp_1_1, xg_1_2, xg_1_3, xp_1_3, xg_1_4, xg_1_5, xg_1_6, xg_1_7, xg_1_8, xg_1_9, xg_1_10, xg_1_11, xp_1_11, xg_1_12, xg_1_13, xg_1_14, xg_1_15, xp_1_15, xg_1_16, xp_1_16, xg_1_17, xp_1_17, xk_26, xg_26_0, xg_26_1, xp_26_1, xg_26_2, xg_26_3, xp_26_3, xg_26_4, xg_26_5, xg_26_6, xg_26_7, xg_26_8, xg_26_9, xg_26_10, xg_26_11, xp_26_11, xg_26_12, xg_26_13, xg_26_14, xg_26_15, xp_26_15, xg_26_16, xp_26_16, xg_26_17, xp_26_17, xk_51, xg_51_0, xg_51_1, xg_51_2, xg_51_3, xg_51_4, xg_51_5, xg_51_6, xg_51_7, xp_51_7, xg_51_8, xp_51_8, xk_90, xg_90_0, xg_90_1, xg_90_2, xg_90_3, xp_90_3, xg_90_4, xg_90_5, xp_90_5, xg_90_6, xg_90_7, xp_90_7, xg_90_8, xp_90_8, xg_90_9, xp_90_9, xg_90_10, xas_2, xal_2, xal_3, xas_4, xal_4, xln_4, xas_5, xal_5, xln_5, xas_6, xal_6, xln_6, xas_7, xal_7, xln_7, xas_8, xal_8, xln_8, xas_9, xal_9, xln_9, xas0_10, xas1_10, xasb_10, xal_10, xal_11, xas_12, xal_12, xln_12, xas_27, xal_27, xal_28, xas_29, xal_29, xln_29, xas_30, xal_30, xln_30, xas_31, xal_31, xln_31, xas_32, xal_32, xln_32, xas_33, xal_33, xln_33, xas_34, xal_34, xln_34, xas0_35, xas1_35, xasb_35, xal_35, xal_36, xas_37, xal_37, xln_37, xas_88, xal_88, xln_88, xal_89, xas_89, xln_89, xas_103, xal_103, xln_103, xas_104, xal_104, xln_104, xas_105, xal_105, xln_105, xas_106, xal_106, xln_106, xas_107, xal_107, xln_107, xal_13, xal_in14, xas_in14, xln_in14, xal_38, xal_in39, xas_in39, xln_in39, xal_52, xal_in53, xas_in53, xln_in53, xal_61, xal_in62, xas_in62, xln_in62, xal_70, xal_in71, xas_in71, xln_in71, xal_79, xal_in80, xas_in80, xln_in80, xal_91, xal_in92, xas_in92, xln_in92, cl_some, nm_b, nn_some, qn_some, qn_none, zk_0, zk_1, zk_n0, zk_n1, nI_add, pk_mul, pk_sub, nI_leE, nI_ltE, nI_eqE, nI_lt0, nI_ge0, nI_eq0, nI_gt0, nI_le0, ilt_t, ilt_f, ile_t, ile_f, ieq_t, ieq_f, if_tt, if_ff, Nat.add_sub_cancel]
    · have hck : ∀ {β : Type} {f : Nat → Option β}, ck (encX G X c h0) q0 [1, 2, 3, 4, 6, 8, 10] f = f 4 := ck_at (hq c) (by decide)
      have e3 : F_X6_chosen G (encX G X c h0) nx q0 (X + 51) (X + 92 + day) (nI (td + day)) = _ := e3
      simp (maxSteps := 3000000) (disch := omega) only [h5, h91, etd, hck, e3, e4, xi_xsi_s, xi_xsi_n, xl_xsi, xa_xsi, xj_xsi, xr_xsi, xsi_xsi, xi_xsl, xl_xsl_s, xl_xsl_n, xa_xsl, xj_xsl, xr_xsl, xsl_xsl, xi_xsa, xl_xsa, xa_xsa_s, xa_xsa_n, xj_xsa, xr_xsa, xsa_xsa, xi_xsj, xl_xsj, xa_xsj, xj_xsj_s, xj_xsj_n, xr_xsj, xsj_xsj, xi_xsr, xl_xsr, xa_xsr, xj_xsr, xr_xsr_s, xr_xsr_n, xsr_xsr, xk_0, xg_0_0, xg_0_1, xg_0_2, xp_0_2, xg_0_3, xg_0_4, xg_0_5, xg_0_6, xk_1, xg_1_0, xg_1_1, xp_1_1, xg_1_2, xg_1_3, xp_1_3, xg_1_4, xg_1_5, xg_1_6, xg_1_7, xg_1_8, xg_1_9, xg_1_10, xg_1_11, xp_1_11, xg_1_12, xg_1_13, xg_1_14, xg_1_15, xp_1_15, xg_1_16, xp_1_16, xg_1_17, xp_1_17, xk_26, xg_26_0, xg_26_1, xp_26_1, xg_26_2, xg_26_3, xp_26_3, xg_26_4, xg_26_5, xg_26_6, xg_26_7, xg_26_8, xg_26_9, xg_26_10, xg_26_11, xp_26_11, xg_26_12, xg_26_13, xg_26_14, xg_26_15, xp_26_15, xg_26_16, xp_26_16, xg_26_17, xp_26_17, xk_51, xg_51_0, xg_51_1, xg_51_2, xg_51_3, xg_51_4, xg_51_5, xg_51_6, xg_51_7, xp_51_7, xg_51_8, xp_51_8, xk_90, xg_90_0, xg_90_1, xg_90_2, xg_90_3, xp_90_3, xg_90_4, xg_90_5, xp_90_5, xg_90_6, xg_90_7, xp_90_7, xg_90_8, xp_90_8, xg_90_9, xp_90_9, xg_90_10, xas_2, xal_2, xal_3, xas_4, xal_4, xln_4, xas_5, xal_5, xln_5, xas_6, xal_6, xln_6, xas_7, xal_7, xln_7, xas_8, xal_8, xln_8, xas_9, xal_9, xln_9, xas0_10, xas1_10, xasb_10, xal_10, xal_11, xas_12, xal_12, xln_12, xas_27, xal_27, xal_28, xas_29, xal_29, xln_29, xas_30, xal_30, xln_30, xas_31, xal_31, xln_31, xas_32, xal_32, xln_32, xas_33, xal_33, xln_33, xas_34, xal_34, xln_34, xas0_35, xas1_35, xasb_35, xal_35, xal_36, xas_37, xal_37, xln_37, xas_88, xal_88, xln_88, xal_89, xas_89, xln_89, xas_103, xal_103, xln_103, xas_104, xal_104, xln_104, xas_105, xal_105, xln_105, xas_106, xal_106, xln_106, xas_107, xal_107, xln_107, xal_13, xal_in14, xas_in14, xln_in14, xal_38, xal_in39, xas_in39, xln_in39, xal_52, xal_in53, xas_in53, xln_in53, xal_61, xal_in62, xas_in62, xln_in62, xal_70, xal_in71, xas_in71, xln_in71, xal_79, xal_in80, xas_in80, xln_in80, xal_91, xal_in92, xas_in92, xln_in92, cl_some, nm_b, nn_some, qn_some, qn_none, zk_0, zk_1, zk_n0, zk_n1, nI_add, pk_mul, pk_sub, nI_leE, nI_ltE, nI_eqE, nI_lt0, nI_ge0, nI_eq0, nI_gt0, nI_le0, ilt_t, ilt_f, ile_t, ile_f, ieq_t, ieq_f, if_tt, if_ff, Nat.add_sub_cancel]
    · have hck : ∀ {β : Type} {f : Nat → Option β}, ck (encX G X c h0) q0 [1, 2, 3, 4, 6, 8, 10] f = f 10 := ck_at (hq c) (by decide)
      have e3 : F_X10_chosen G (encX G X c h0) nx q0 (X + 51) (X + 92 + day) (nI (td + day)) = _ := e3
      simp (maxSteps := 3000000) (disch := omega) only [h5, h91, etd, hck, e3, e4, xi_xsi_s, xi_xsi_n, xl_xsi, xa_xsi, xj_xsi, xr_xsi, xsi_xsi, xi_xsl, xl_xsl_s, xl_xsl_n, xa_xsl, xj_xsl, xr_xsl, xsl_xsl, xi_xsa, xl_xsa, xa_xsa_s, xa_xsa_n, xj_xsa, xr_xsa, xsa_xsa, xi_xsj, xl_xsj, xa_xsj, xj_xsj_s, xj_xsj_n, xr_xsj, xsj_xsj, xi_xsr, xl_xsr, xa_xsr, xj_xsr, xr_xsr_s, xr_xsr_n, xsr_xsr, xk_0, xg_0_0, xg_0_1, xg_0_2, xp_0_2, xg_0_3, xg_0_4, xg_0_5, xg_0_6, xk_1, xg_1_0, xg_1_1, xp_1_1, xg_1_2, xg_1_3, xp_1_3, xg_1_4, xg_1_5, xg_1_6, xg_1_7, xg_1_8, xg_1_9, xg_1_10, xg_1_11, xp_1_11, xg_1_12, xg_1_13, xg_1_14, xg_1_15, xp_1_15, xg_1_16, xp_1_16, xg_1_17, xp_1_17, xk_26, xg_26_0, xg_26_1, xp_26_1, xg_26_2, xg_26_3, xp_26_3, xg_26_4, xg_26_5, xg_26_6, xg_26_7, xg_26_8, xg_26_9, xg_26_10, xg_26_11, xp_26_11, xg_26_12, xg_26_13, xg_26_14, xg_26_15, xp_26_15, xg_26_16, xp_26_16, xg_26_17, xp_26_17, xk_51, xg_51_0, xg_51_1, xg_51_2, xg_51_3, xg_51_4, xg_51_5, xg_51_6, xg_51_7, xp_51_7, xg_51_8, xp_51_8, xk_90, xg_90_0, xg_90_1, xg_90_2, xg_90_3, xp_90_3, xg_90_4, xg_90_5, xp_90_5, xg_90_6, xg_90_7, xp_90_7, xg_90_8, xp_90_8, xg_90_9, xp_90_9, xg_90_10, xas_2, xal_2, xal_3, xas_4, xal_4, xln_4, xas_5, xal_5, xln_5, xas_6, xal_6, xln_6, xas_7, xal_7, xln_7, xas_8, xal_8, xln_8, xas_9, xal_9, xln_9, xas0_10, xas1_10, xasb_10, xal_10, xal_11, xas_12, xal_12, xln_12, xas_27, xal_27, xal_28, xas_29, xal_29, xln_29, xas_30, xal_30, xln_30, xas_31, xal_31, xln_31, xas_32, xal_32, xln_32, xas_33, xal_33, xln_33, xas_34, xal_34, xln_34, xas0_35, xas1_35, xasb_35, xal_35, xal_36, xas_37, xal_37, xln_37, xas_88, xal_88, xln_88, xal_89, xas_89, xln_89, xas_103, xal_103, xln_103, xas_104, xal_104, xln_104, xas_105, xal_105, xln_105, xas_106, xal_106, xln_106, xas_107, xal_107, xln_107, xal_13, xal_in14, xas_in14, xln_in14, xal_38, xal_in39, xas_in39, xln_in39, xal_52, xal_in53, xas_in53, xln_in53, xal_61, xal_in62, xas_in62, xln_in62, xal_70, xal_in71, xas_in71, xln_in71, xal_79, xal_in80, xas_in80, xln_in80, xal_91, xal_in92, xas_in92, xln_in92, cl_some, nm_b, nn_some, qn_some, qn_none, zk_0, zk_1, zk_n0, zk_n1, nI_add, pk_mul, pk_sub, nI_leE, nI_ltE, nI_eqE, nI_lt0, nI_ge0, nI_eq0, nI_gt0, nI_le0, ilt_t, ilt_f, ile_t, ile_f, ieq_t, ieq_f, if_tt, if_ff, Nat.add_sub_cancel]
    · have hck : ∀ {β : Type} {f : Nat → Option β}, ck (encX G X c h0) q0 [1, 2, 3, 4, 6, 8, 10] f = f 3 := ck_at (hq c) (by decide)
      have e3 : F_X6_chosen G (encX G X c h0) nx q0 (X + 51) (X + 92 + day) (nI (td + day)) = _ := e3
      simp (maxSteps := 3000000) (disch := omega) only [h5, h91, etd, hck, e3, e4, xi_xsi_s, xi_xsi_n, xl_xsi, xa_xsi, xj_xsi, xr_xsi, xsi_xsi, xi_xsl, xl_xsl_s, xl_xsl_n, xa_xsl, xj_xsl, xr_xsl, xsl_xsl, xi_xsa, xl_xsa, xa_xsa_s, xa_xsa_n, xj_xsa, xr_xsa, xsa_xsa, xi_xsj, xl_xsj, xa_xsj, xj_xsj_s, xj_xsj_n, xr_xsj, xsj_xsj, xi_xsr, xl_xsr, xa_xsr, xj_xsr, xr_xsr_s, xr_xsr_n, xsr_xsr, xk_0, xg_0_0, xg_0_1, xg_0_2, xp_0_2, xg_0_3, xg_0_4, xg_0_5, xg_0_6, xk_1, xg_1_0, xg_1_1, xp_1_1, xg_1_2, xg_1_3, xp_1_3, xg_1_4, xg_1_5, xg_1_6, xg_1_7, xg_1_8, xg_1_9, xg_1_10, xg_1_11, xp_1_11, xg_1_12, xg_1_13, xg_1_14, xg_1_15, xp_1_15, xg_1_16, xp_1_16, xg_1_17, xp_1_17, xk_26, xg_26_0, xg_26_1, xp_26_1, xg_26_2, xg_26_3, xp_26_3, xg_26_4, xg_26_5, xg_26_6, xg_26_7, xg_26_8, xg_26_9, xg_26_10, xg_26_11, xp_26_11, xg_26_12, xg_26_13, xg_26_14, xg_26_15, xp_26_15, xg_26_16, xp_26_16, xg_26_17, xp_26_17, xk_51, xg_51_0, xg_51_1, xg_51_2, xg_51_3, xg_51_4, xg_51_5, xg_51_6, xg_51_7, xp_51_7, xg_51_8, xp_51_8, xk_90, xg_90_0, xg_90_1, xg_90_2, xg_90_3, xp_90_3, xg_90_4, xg_90_5, xp_90_5, xg_90_6, xg_90_7, xp_90_7, xg_90_8, xp_90_8, xg_90_9, xp_90_9, xg_90_10, xas_2, xal_2, xal_3, xas_4, xal_4, xln_4, xas_5, xal_5, xln_5, xas_6, xal_6, xln_6, xas_7, xal_7, xln_7, xas_8, xal_8, xln_8, xas_9, xal_9, xln_9, xas0_10, xas1_10, xasb_10, xal_10, xal_11, xas_12, xal_12, xln_12, xas_27, xal_27, xal_28, xas_29, xal_29, xln_29, xas_30, xal_30, xln_30, xas_31, xal_31, xln_31, xas_32, xal_32, xln_32, xas_33, xal_33, xln_33, xas_34, xal_34, xln_34, xas0_35, xas1_35, xasb_35, xal_35, xal_36, xas_37, xal_37, xln_37, xas_88, xal_88, xln_88, xal_89, xas_89, xln_89, xas_103, xal_103, xln_103, xas_104, xal_104, xln_104, xas_105, xal_105, xln_105, xas_106, xal_106, xln_106, xas_107, xal_107, xln_107, xal_13, xal_in14, xas_in14, xln_in14, xal_38, xal_in39, xas_in39, xln_in39, xal_52, xal_in53, xas_in53, xln_in53, xal_61, xal_in62, xas_in62, xln_in62, xal_70, xal_in71, xas_in71, xln_in71, xal_79, xal_in80, xas_in80, xln_in80, xal_91, xal_in92, xas_in92, xln_in92, cl_some, nm_b, nn_some, qn_some, qn_none, zk_0, zk_1, zk_n0, zk_n1, nI_add, pk_mul, pk_sub, nI_leE, nI_ltE, nI_eqE, nI_lt0, nI_ge0, nI_eq0, nI_gt0, nI_le0, ilt_t, ilt_f, ile_t, ile_f, ieq_t, ieq_f, if_tt, if_ff, Nat.add_sub_cancel]
    · have hck : ∀ {β : Type} {f : Nat → Option β}, ck (encX G X c h0) q0 [1, 2, 3, 4, 6, 8, 10] f = f 1 := ck_at (hq c) (by decide)
      have e3 : F_X10_chosen G (encX G X c h0) nx q0 (X + 51) (X + 92 + day) (nI (td + day)) = _ := e3
      simp (maxSteps := 3000000) (disch := omega) only [h5, h91, etd, hck, e3, e4, xi_xsi_s, xi_xsi_n, xl_xsi, xa_xsi, xj_xsi, xr_xsi, xsi_xsi, xi_xsl, xl_xsl_s, xl_xsl_n, xa_xsl, xj_xsl, xr_xsl, xsl_xsl, xi_xsa, xl_xsa, xa_xsa_s, xa_xsa_n, xj_xsa, xr_xsa, xsa_xsa, xi_xsj, xl_xsj, xa_xsj, xj_xsj_s, xj_xsj_n, xr_xsj, xsj_xsj, xi_xsr, xl_xsr, xa_xsr, xj_xsr, xr_xsr_s, xr_xsr_n, xsr_xsr, xk_0, xg_0_0, xg_0_1, xg_0_2, xp_0_2, xg_0_3, xg_0_4, xg_0_5, xg_0_6, xk_1, xg_1_0, xg_1_1, xp_1_1, xg_1_2, xg_1_3, xp_1_3, xg_1_4, xg_1_5, xg_1_6, xg_1_7, xg_1_8, xg_1_9, xg_1_10, xg_1_11, xp_1_11, xg_1_12, xg_1_13, xg_1_14, xg_1_15, xp_1_15, xg_1_16, xp_1_16, xg_1_17, xp_1_17, xk_26, xg_26_0, xg_26_1, xp_26_1, xg_26_2, xg_26_3, xp_26_3, xg_26_4, xg_26_5, xg_26_6, xg_26_7, xg_26_8, xg_26_9, xg_26_10, xg_26_11, xp_26_11, xg_26_12, xg_26_13, xg_26_14, xg_26_15, xp_26_15, xg_26_16, xp_26_16, xg_26_17, xp_26_17, xk_51, xg_51_0, xg_51_1, xg_51_2, xg_51_3, xg_51_4, xg_51_5, xg_51_6, xg_51_7, xp_51_7, xg_51_8, xp_51_8, xk_90, xg_90_0, xg_90_1, xg_90_2, xg_90_3, xp_90_3, xg_90_4, xg_90_5, xp_90_5, xg_90_6, xg_90_7, xp_90_7, xg_90_8, xp_90_8, xg_90_9, xp_90_9, xg_90_10, xas_2, xal_2, xal_3, xas_4, xal_4, xln_4, xas_5, xal_5, xln_5, xas_6, xal_6, xln_6, xas_7, xal_7, xln_7, xas_8, xal_8, xln_8, xas_9, xal_9, xln_9, xas0_10, xas1_10, xasb_10, xal_10, xal_11, xas_12, xal_12, xln_12, xas_27, xal_27, xal_28, xas_29, xal_29, xln_29, xas_30, xal_30, xln_30, xas_31, xal_31, xln_31, xas_32, xal_32, xln_32, xas_33, xal_33, xln_33, xas_34, xal_34, xln_34, xas0_35, xas1_35, xasb_35, xal_35, xal_36, xas_37, xal_37, xln_37, xas_88, xal_88, xln_88, xal_89, xas_89, xln_89, xas_103, xal_103, xln_103, xas_104, xal_104, xln_104, xas_105, xal_105, xln_105, xas_106, xal_106, xln_106, xas_107, xal_107, xln_107, xal_13, xal_in14, xas_in14, xln_in14, xal_38, xal_in39, xas_in39, xln_in39, xal_52, xal_in53, xas_in53, xln_in53, xal_61, xal_in62, xas_in62, xln_in62, xal_70, xal_in71, xas_in71, xln_in71, xal_79, xal_in80, xas_in80, xln_in80, xal_91, xal_in92, xas_in92, xln_in92, cl_some, nm_b, nn_some, qn_some, qn_none, zk_0, zk_1, zk_n0, zk_n1, nI_add, pk_mul, pk_sub, nI_leE, nI_ltE, nI_eqE, nI_lt0, nI_ge0, nI_eq0, nI_gt0, nI_le0, ilt_t, ilt_f, ile_t, ile_f, ieq_t, ieq_f, if_tt, if_ff, Nat.add_sub_cancel]
    · have hck : ∀ {β : Type} {f : Nat → Option β}, ck (encX G X c h0) q0 [1, 2, 3, 4, 6, 8, 10] f = f 2 := ck_at (hq c) (by decide)
      have e3 : F_X6_chosen G (encX G X c h0) nx q0 (X + 51) (X + 92 + day) (nI (td + day)) = _ := e3
      simp (maxSteps := 3000000) (disch := omega) only [h5, h91, etd, hck, e3, e4, xi_xsi_s, xi_xsi_n, xl_xsi, xa_xsi, xj_xsi, xr_xsi, xsi_xsi, xi_xsl, xl_xsl_s, xl_xsl_n, xa_xsl, xj_xsl, xr_xsl, xsl_xsl, xi_xsa, xl_xsa, xa_xsa_s, xa_xsa_n, xj_xsa, xr_xsa, xsa_xsa, xi_xsj, xl_xsj, xa_xsj, xj_xsj_s, xj_xsj_n, xr_xsj, xsj_xsj, xi_xsr, xl_xsr, xa_xsr, xj_xsr, xr_xsr_s, xr_xsr_n, xsr_xsr, xk_0, xg_0_0, xg_0_1, xg_0_2, xp_0_2, xg_0_3, xg_0_4, xg_0_5, xg_0_6, xk_1, xg_1_0, xg_1_1, xp_1_1, xg_1_2, xg_1_3, xp_1_3, xg_1_4, xg_1_5, xg_1_6, xg_1_7, xg_1_8, xg_1_9, xg_1_10, xg_1_11, xp_1_11, xg_1_12, xg_1_13, xg_1_14, xg_1_15, xp_1_15, xg_1_16, xp_1_16, xg_1_17, xp_1_17, xk_26, xg_26_0, xg_26_1, xp_26_1, xg_26_2, xg_26_3, xp_26_3, xg_26_4, xg_26_5, xg_26_6, xg_26_7, xg_26_8, xg_26_9, xg_26_10, xg_26_11, xp_26_11, xg_26_12, xg_26_13, xg_26_14, xg_26_15, xp_26_15, xg_26_16, xp_26_16, xg_26_17, xp_26_17, xk_51, xg_51_0, xg_51_1, xg_51_2, xg_51_3, xg_51_4, xg_51_5, xg_51_6, xg_51_7, xp_51_7, xg_51_8, xp_51_8, xk_90, xg_90_0, xg_90_1, xg_90_2, xg_90_3, xp_90_3, xg_90_4, xg_90_5, xp_90_5, xg_90_6, xg_90_7, xp_90_7, xg_90_8, xp_90_8, xg_90_9, xp_90_9, xg_90_10, xas_2, xal_2, xal_3, xas_4, xal_4, xln_4, xas_5, xal_5, xln_5, xas_6, xal_6, xln_6, xas_7, xal_7, xln_7, xas_8, xal_8, xln_8, xas_9, xal_9, xln_9, xas0_10, xas1_10, xasb_10, xal_10, xal_11, xas_12, xal_12, xln_12, xas_27, xal_27, xal_28, xas_29, xal_29, xln_29, xas_30, xal_30, xln_30, xas_31, xal_31, xln_31, xas_32, xal_32, xln_32, xas_33, xal_33, xln_33, xas_34, xal_34, xln_34, xas0_35, xas1_35, xasb_35, xal_35, xal_36, xas_37, xal_37, xln_37, xas_88, xal_88, xln_88, xal_89, xas_89, xln_89, xas_103, xal_103, xln_103, xas_104, xal_104, xln_104, xas_105, xal_105, xln_105, xas_106, xal_106, xln_106, xas_107, xal_107, xln_107, xal_13, xal_in14, xas_in14, xln_in14, xal_38, xal_in39, xas_in39, xln_in39, xal_52, xal_in53, xas_in53, xln_in53, xal_61, xal_in62, xas_in62, xln_in62, xal_70, xal_in71, xas_in71, xln_in71, xal_79, xal_in80, xas_in80, xln_in80, xal_91, xal_in92, xas_in92, xln_in92, cl_some, nm_b, nn_some, qn_some, qn_none, zk_0, zk_1, zk_n0, zk_n1, nI_add, pk_mul, pk_sub, nI_leE, nI_ltE, nI_eqE, nI_lt0, nI_ge0, nI_eq0, nI_gt0, nI_le0, ilt_t, ilt_f, ile_t, ile_f, ieq_t, ieq_f, if_tt, if_ff, Nat.add_sub_cancel]
    · have hck : ∀ {β : Type} {f : Nat → Option β}, ck (encX G X c h0) q0 [1, 2, 3, 4, 6, 8, 10] f = f 8 := ck_at (hq c) (by decide)
      have e3 : F_X8_chosen G (encX G X c h0) nx q0 (X + 51) (X + 92 + day) (nI (td + day)) = _ := e3
      simp (maxSteps := 3000000) (disch := omega) only [h5, h91, etd, hck, e3, e4, xi_xsi_s, xi_xsi_n, xl_xsi, xa_xsi, xj_xsi, xr_xsi, xsi_xsi, xi_xsl, xl_xsl_s, xl_xsl_n, xa_xsl, xj_xsl, xr_xsl, xsl_xsl, xi_xsa, xl_xsa, xa_xsa_s, xa_xsa_n, xj_xsa, xr_xsa, xsa_xsa, xi_xsj, xl_xsj, xa_xsj, xj_xsj_s, xj_xsj_n, xr_xsj, xsj_xsj, xi_xsr, xl_xsr, xa_xsr, xj_xsr, xr_xsr_s, xr_xsr_n, xsr_xsr, xk_0, xg_0_0, xg_0_1, xg_0_2, xp_0_2, xg_0_3, xg_0_4, xg_0_5, xg_0_6, xk_1, xg_1_0, xg_1_1, xp_1_1, xg_1_2, xg_1_3, xp_1_3, xg_1_4, xg_1_5, xg_1_6, xg_1_7, xg_1_8, xg_1_9, xg_1_10, xg_1_11, xp_1_11, xg_1_12, xg_1_13, xg_1_14, xg_1_15, xp_1_15, xg_1_16, xp_1_16, xg_1_17, xp_1_17, xk_26, xg_26_0, xg_26_1, xp_26_1, xg_26_2, xg_26_3, xp_26_3, xg_26_4, xg_26_5, xg_26_6, xg_26_7, xg_26_8, xg_26_9, xg_26_10, xg_26_11, xp_26_11, xg_26_12, xg_26_13, xg_26_14, xg_26_15, xp_26_15, xg_26_16, xp_26_16, xg_26_17, xp_26_17, xk_51, xg_51_0, xg_51_1, xg_51_2, xg_51_3, xg_51_4, xg_51_5, xg_51_6, xg_51_7, xp_51_7, xg_51_8, xp_51_8, xk_90, xg_90_0, xg_90_1, xg_90_2, xg_90_3, xp_90_3, xg_90_4, xg_90_5, xp_90_5, xg_90_6, xg_90_7, xp_90_7, xg_90_8, xp_90_8, xg_90_9, xp_90_9, xg_90_10, xas_2, xal_2, xal_3, xas_4, xal_4, xln_4, xas_5, xal_5, xln_5, xas_6, xal_6, xln_6, xas_7, xal_7, xln_7, xas_8, xal_8, xln_8, xas_9, xal_9, xln_9, xas0_10, xas1_10, xasb_10, xal_10, xal_11, xas_12, xal_12, xln_12, xas_27, xal_27, xal_28, xas_29, xal_29, xln_29, xas_30, xal_30, xln_30, xas_31, xal_31, xln_31, xas_32, xal_32, xln_32, xas_33, xal_33, xln_33, xas_34, xal_34, xln_34, xas0_35, xas1_35, xasb_35, xal_35, xal_36, xas_37, xal_37, xln_37, xas_88, xal_88, xln_88, xal_89, xas_89, xln_89, xas_103, xal_103, xln_103, xas_104, xal_104, xln_104, xas_105, xal_105, xln_105, xas_106, xal_106, xln_106, xas_107, xal_107, xln_107, xal_13, xal_in14, xas_in14, xln_in14, xal_38, xal_in39, xas_in39, xln_in39, xal_52, xal_in53, xas_in53, xln_in53, xal_61, xal_in62, xas_in62, xln_in62, xal_70, xal_in71, xas_in71, xln_in71, xal_79, xal_in80, xas_in80, xln_in80, xal_91, xal_in92, xas_in92, xln_in92, cl_some, nm_b, nn_some, qn_some, qn_none, zk_0, zk_1, zk_n0, zk_n1, nI_add, pk_mul, pk_sub, nI_leE, nI_ltE, nI_eqE, nI_lt0, nI_ge0, nI_eq0, nI_gt0, nI_le0, ilt_t, ilt_f, ile_t, ile_f, ieq_t, ieq_f, if_tt, if_ff, Nat.add_sub_cancel]
/-- a round chooses -/
def MdR (rw : Nat → Nat) (many : Nat) (c : CS) : Prop := xr c 91 0 = none ∧ xi c 51 = nI many ∧ ∀ j, j < many → xa c 103 j = nI (rw j)
theorem MdR.ok {rw : Nat → Nat} {many : Nat} : MdOk (MdR rw many) := fun c c' f h => ⟨by rw [f.r 91 (by unfold PA PWA PW; omega)]; exact h.1, by rw [f.i 51 (by unfold PA PWA PW; omega)]; exact h.2.1, by rw [f.a 103 (by unfold PA PWA PW; omega)]; exact h.2.2⟩
set_option maxRecDepth 100000 in
set_option maxHeartbeats 1000000 in
theorem x_fdR {rw : Nat → Nat} {many : Nat} {ch : (Nat → Int32) → Nat → Int32} (hm0 : 0 < many) (hm3 : many ≤ 3) (hrw : ∀ j, j < many → rw j < nt) (hch : ∀ s day, ch s (td + day) = nI 1 <<< (nI (rw (day % many)) &&& 31)) (hd10 : days ≤ 10) (hN : days ≤ N) (hN10 : N ≤ 10) : ∀ (left : Nat), 1 ≤ left → ∀ (day m : Nat), day + left = days → MFX nt left ≤ m → FdP G X lo nx h0 S ns nt np lk td q N 0 days (MdR rw many) m day left (meG S nt ch left (td + day)) := by
  intro left
  induction left with
  | zero => intro h; exact absurd h (by omega)
  | succ l ih =>
    intro _ day m hdl hm c s Q hT
    obtain ⟨f, rfl⟩ : ∃ z, m = z + 1 := ⟨m - 1, by unfold MFX at hm; omega⟩
    have hm : MFX nt l + nt + 4 ≤ f + 1 := hm
    obtain ⟨⟨hC, hL, h79, h91, h51, h103⟩, hMm, hA, hS⟩ := id hT
    have h8 := x_nt8 hC
    have h5 := x_thC hC
    obtain ⟨m', e1⟩ := x_fdGo (nx := nx) (f := f) (by omega) hdl hd10 (by omega) hN10 hT
    have hj : day % many < many := Nat.mod_lt _ hm0
    have hset : 2 ^ rw (day % many) < 2 ^ nt := Nat.pow_lt_pow_right (by decide) (hrw _ hj)
    obtain ⟨c3, e4, f3, s3, m3⟩ := x_go (nx := nx) MdR.ok (m := MFX nt l) (f := f) (set := 2 ^ rw (day % many)) (V := meG S nt ch l (td + day + 1)) (by omega) hdl hd10 (by omega) hN10 (fun h2 m' hm' => ih (by omega) (day + 1) m' (by omega) hm') (by omega) hset hT
    rw [ovC_me] at e4
    refine ⟨c3, ?_, f3, s3, m3⟩
    have hr8 := hrw _ hj
    have ex : nI 1 <<< (nI (rw (day % many)) &&& 31) = nI (2 ^ rw (day % many)) := shl_n (by omega)
    have e103 := h103 _ hj
    have edz : ∀ {f : Option (Int64 × Hp × Nat)}, dzI (nI many) f = f := dzI_n hm0 (by omega)
    have erm : nI day - nI day / nI many * nI many = nI (day % many) := pk_rem (by omega) hm0 (by omega)
    rw [e1, me_s, F_X9_fromDay_15_s, hch, ex]
    simp (maxSteps := 3000000) (disch := omega) only [h5, h91, h51, edz, erm, e103, ex, e4, xi_xsi_s, xi_xsi_n, xl_xsi, xa_xsi, xj_xsi, xr_xsi, xsi_xsi, xi_xsl, xl_xsl_s, xl_xsl_n, xa_xsl, xj_xsl, xr_xsl, xsl_xsl, xi_xsa, xl_xsa, xa_xsa_s, xa_xsa_n, xj_xsa, xr_xsa, xsa_xsa, xi_xsj, xl_xsj, xa_xsj, xj_xsj_s, xj_xsj_n, xr_xsj, xsj_xsj, xi_xsr, xl_xsr, xa_xsr, xj_xsr, xr_xsr_s, xr_xsr_n, xsr_xsr, xk_0, xg_0_0, xg_0_1, xg_0_2, xp_0_2, xg_0_3, xg_0_4, xg_0_5, xg_0_6, xk_1, xg_1_0, xg_1_1, xp_1_1, xg_1_2, xg_1_3, xp_1_3, xg_1_4, xg_1_5, xg_1_6, xg_1_7, xg_1_8, xg_1_9, xg_1_10, xg_1_11, xp_1_11, xg_1_12, xg_1_13, xg_1_14, xg_1_15, xp_1_15, xg_1_16, xp_1_16, xg_1_17, xp_1_17, xk_26, xg_26_0, xg_26_1, xp_26_1, xg_26_2, xg_26_3, xp_26_3, xg_26_4, xg_26_5, xg_26_6, xg_26_7, xg_26_8, xg_26_9, xg_26_10, xg_26_11, xp_26_11, xg_26_12, xg_26_13, xg_26_14, xg_26_15, xp_26_15, xg_26_16, xp_26_16, xg_26_17, xp_26_17, xk_51, xg_51_0, xg_51_1, xg_51_2, xg_51_3, xg_51_4, xg_51_5, xg_51_6, xg_51_7, xp_51_7, xg_51_8, xp_51_8, xk_90, xg_90_0, xg_90_1, xg_90_2, xg_90_3, xp_90_3, xg_90_4, xg_90_5, xp_90_5, xg_90_6, xg_90_7, xp_90_7, xg_90_8, xp_90_8, xg_90_9, xp_90_9, xg_90_10, xas_2, xal_2, xal_3, xas_4, xal_4, xln_4, xas_5, xal_5, xln_5, xas_6, xal_6, xln_6, xas_7, xal_7, xln_7, xas_8, xal_8, xln_8, xas_9, xal_9, xln_9, xas0_10, xas1_10, xasb_10, xal_10, xal_11, xas_12, xal_12, xln_12, xas_27, xal_27, xal_28, xas_29, xal_29, xln_29, xas_30, xal_30, xln_30, xas_31, xal_31, xln_31, xas_32, xal_32, xln_32, xas_33, xal_33, xln_33, xas_34, xal_34, xln_34, xas0_35, xas1_35, xasb_35, xal_35, xal_36, xas_37, xal_37, xln_37, xas_88, xal_88, xln_88, xal_89, xas_89, xln_89, xas_103, xal_103, xln_103, xas_104, xal_104, xln_104, xas_105, xal_105, xln_105, xas_106, xal_106, xln_106, xas_107, xal_107, xln_107, xal_13, xal_in14, xas_in14, xln_in14, xal_38, xal_in39, xas_in39, xln_in39, xal_52, xal_in53, xas_in53, xln_in53, xal_61, xal_in62, xas_in62, xln_in62, xal_70, xal_in71, xas_in71, xln_in71, xal_79, xal_in80, xas_in80, xln_in80, xal_91, xal_in92, xas_in92, xln_in92, cl_some, nm_b, nn_some, qn_some, qn_none, zk_0, zk_1, zk_n0, zk_n1, nI_add, pk_mul, pk_sub, nI_leE, nI_ltE, nI_eqE, nI_lt0, nI_ge0, nI_eq0, nI_gt0, nI_le0, ilt_t, ilt_f, ile_t, ile_f, ieq_t, ieq_f, if_tt, if_ff, Nat.add_sub_cancel]
end XFD
