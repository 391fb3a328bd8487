/-! THE CLASS's tree: behind the looks of a day -/
theorem lo_s {nt : Nat} {set : Int32} {cont : (Nat → Int32) → Int64} {r : Nat} {s : Nat → Int32} : loG nt set cont (r + 1) s = if bitI set (nt - (r + 1)) = 0 then loG nt set cont r s else ((s (1034 + (nt - (r + 1)))).toInt64 * loG nt set cont r (upK (upK s (1034 + (nt - (r + 1))) (nI 1000000)) (1042 + (nt - (r + 1))) (nI 0)) + (nI 1000000 - s (1034 + (nt - (r + 1)))).toInt64 * (if valF s (nt - (r + 1)) 3 ≤ 0 then loG nt set cont r (upK (upK s (1034 + (nt - (r + 1))) (nI 0)) (1042 + (nt - (r + 1))) (nI 0)) else loG nt set cont r (upK (upK s (1034 + (nt - (r + 1))) (nI 1000000)) (1042 + (nt - (r + 1))) (nI 0)) - 1000 * (valF s (nt - (r + 1)) 3).toInt64)) / 1000000 - 1000 * (valF s (nt - (r + 1)) 2).toInt64 := rfl
theorem lo_0 {nt : Nat} {set : Int32} {cont : (Nat → Int32) → Int64} : ∀ (r : Nat) (s : Nat → Int32), r ≤ nt → (∀ t, nt - r ≤ t → t < nt → bitI set t = 0) → loG nt set cont r s = cont s
  | 0, _, _, _ => rfl
  | r + 1, s, hr, h => by
    rw [lo_s, if_pos (h _ (by omega) (by omega))]
    exact lo_0 r s (by omega) (fun t h1 h2 => h t (by omega) h2)
theorem lo_skip {nt low : Nat} {set : Int32} {cont : (Nat → Int32) → Int64} : ∀ (r : Nat) (s : Nat → Int32), r ≤ nt → nt - r ≤ low → low < nt → (∀ t, nt - r ≤ t → t < low → bitI set t = 0) → loG nt set cont r s = loG nt set cont (nt - low) s
  | 0, _, _, h1, h2, _ => absurd h1 (by omega)
  | r + 1, s, hr, h1, h2, h => by
    by_cases c : nt - (r + 1) = low
    · rw [show nt - low = r + 1 by omega]
    · rw [lo_s, if_pos (h _ (by omega) (by omega))]
      exact lo_skip r s (by omega) (by omega) h2 (fun t h3 h4 => h t (by omega) h4)
theorem lo_cg {nt : Nat} {set set' : Int32} {cont : (Nat → Int32) → Int64} : ∀ (r : Nat) (s : Nat → Int32), r ≤ nt → (∀ t, nt - r ≤ t → t < nt → bitI set' t = bitI set t) → loG nt set' cont r s = loG nt set cont r s
  | 0, _, _, _ => rfl
  | r + 1, s, hr, h => by
    have ih := fun s => lo_cg (cont := cont) r s (by omega) (fun t h1 h2 => h t (by omega) h2)
    rw [lo_s, lo_s, h _ (by omega) (by omega), ih, ih, ih]
/-- one thing looked at -/
def up2 (s : Nat → Int32) (t : Nat) (x : Int32) : Nat → Int32 := upK (upK s (1034 + t) x) (1042 + t) (nI 0)
theorem up2_ag {s : Nat → Int32} {t : Nat} {x : Int32} (ht : t < 8) : AgS s (up2 s t x) := (AgS.up (by omega) (by omega)).trans (AgS.up (by omega) (by omega))
theorem up2_k {s : Nat → Int32} {t : Nat} {x : Int32} (ht : t < 8) : up2 s t x (1034 + t) = x ∧ up2 s t x (1042 + t) = nI 0 := by
  unfold up2
  rw [upK_n (by omega), upK_s, upK_s]
  exact ⟨rfl, rfl⟩
theorem up2_o {s : Nat → Int32} {t j : Nat} {x : Int32} (h : j ≠ t) (ht : t < 8) (hj : j < 8) : up2 s t x (1034 + j) = s (1034 + j) ∧ up2 s t x (1042 + j) = s (1042 + j) := by
  unfold up2
  rw [upK_n (by omega), upK_n (by omega), upK_n (by omega), upK_n (by omega)]
  exact ⟨rfl, rfl⟩
theorem lo_k {nt : Nat} {set : Int32} {cont : (Nat → Int32) → Int64} {v : Int64} (h8 : nt ≤ 8) (hc : ∀ s, cont s = v) : ∀ (r : Nat) (s s' : Nat → Int32), r ≤ nt → AgS s s' → (∀ t, t < nt → ThOk s t) → (∀ t, nt - r ≤ t → t < nt → s' (1034 + t) = s (1034 + t)) → loG nt set cont r s' = loG nt set cont r s
  | 0, s, s', _, _, _, _ => by
    show cont s' = cont s
    rw [hc, hc]
  | r + 1, s, s', hr, ha, ht, h => by
    have ih : ∀ x, loG nt set cont r (upK (upK s' (1034 + (nt - (r + 1))) x) (1042 + (nt - (r + 1))) (nI 0)) = loG nt set cont r (upK (upK s (1034 + (nt - (r + 1))) x) (1042 + (nt - (r + 1))) (nI 0)) := fun x => by
      refine lo_k h8 hc r (up2 s (nt - (r + 1)) x) (up2 s' (nt - (r + 1)) x) (by omega) (fun k hk => ?_) (fun t h3 => ThOk_ag (up2_ag (by omega)) (ht t h3)) (fun t h3 h4 => ?_)
      · rw [up2_ag (by omega) k hk, up2_ag (by omega) k hk]
        exact ha k hk
      · rw [(up2_o (by omega) (by omega) (by omega)).1, (up2_o (by omega) (by omega) (by omega)).1]
        exact h t (by omega) h4
    have i0 := lo_k (set := set) h8 hc r s s' (by omega) ha ht (fun t h3 h4 => h t (by omega) h4)
    rw [lo_s, lo_s, ih, ih, i0, h _ (by omega) (by omega), valF_ag ha (ht _ (by omega)) (by omega), valF_ag ha (ht _ (by omega)) (by omega)]
def PA (k : Nat) : Prop := PWA k ∨ (92 ≤ k ∧ k < 103) ∨ k = 90
def PL (day k : Nat) : Prop := PWA k ∨ (92 + day ≤ k ∧ k < 103)
section XLK
variable {G : Gx} {X lo nx : Nat} {h0 : Hp} {S : MS} {ns nt np lk td q N dd days : Nat} {Md : CS → Prop}
def B0 (G : Gx) (X lo : Nat) (h0 : Hp) (S : MS) (ns nt np lk td q N days : Nat) (Md : CS → Prop) (c : CS) : Prop := XC G X lo h0 c (ma S 1) ns nt np lk td q ∧ LdA c S nt N ∧ xi c 79 = nI days ∧ Md c
def TI (G : Gx) (X lo : Nat) (h0 : Hp) (S : MS) (ns nt np lk td q N dd days : Nat) (Md : CS → Prop) (c : CS) (s : Nat → Int32) (Q : Nat → Nat × Nat) (day left : Nat) : Prop := B0 G X lo h0 S ns nt np lk td q N days Md c ∧ MemoA c S nt N dd ∧ AgN nt (ma S 1) s ∧ SpA c S nt N (dd + left) (92 + day) s Q
def MdOk (Md : CS → Prop) : Prop := ∀ c c', FrX PA c c' → Md c → Md c'
theorem B0.fr (hMd : MdOk Md) {c c' : CS} (h : B0 G X lo h0 S ns nt np lk td q N days Md c) (f : FrX PA c c') : B0 G X lo h0 S ns nt np lk td q N days Md c' := by
  obtain ⟨h1, h2, h3, h4⟩ := h
  refine ⟨h1.fr f (fun k z => by unfold PA PWA PW at z; omega), h2.fr f (fun t k ht z1 z => by unfold PT at z1; unfold PA PWA PW at z; omega) (x_nt8 h1), ?_, hMd c c' f h4⟩
  rw [f.i 79 (by unfold PA PWA PW; omega)]
  exact h3
theorem pl_pa {day : Nat} : ∀ k, PL day k → PA k := fun k z => by
  rcases z with z | z
  · exact Or.inl z
  · exact Or.inr (Or.inl (by omega))
theorem SpA.mono {c : CS} {m m' ks : Nat} {s : Nat → Int32} {Q : Nat → Nat × Nat} (h : SpA c S nt N m ks s Q) (hm : m' ≤ m) : SpA c S nt N m' ks s Q := fun t ht => by
  obtain ⟨h1, h2, h3, h4⟩ := h t ht
  exact ⟨h1, by omega, h3, h4⟩
set_option maxRecDepth 100000 in
set_option maxHeartbeats 1000000 in
theorem x_goOver2 {c : CS} (h5 : xi c 113 = nI nt) (h8 : nt ≤ 8) {day : Nat} (hd : day < 10) {Q : Nat → Nat × Nat} (hQ : ∀ t, t < nt → xa c (92 + day) t = nI (11 * (Q t).1 + (Q t).2)) : ∀ (r t m : Nat) (g : Nat → Int32), t + r = nt → r < m → (∀ i, i < t → g i = nI (11 * (Q i).1 + (Q i).2 + 1)) → ∃ g' : Nat → Int32, F_X9_goOver_2 G m (encX G X (xsa c (92 + day + 1) g) h0) nx (X + 90) (nI day) (nI t) = some ((), encX G X (xsa c (92 + day + 1) g') h0, nx) ∧ ∀ i, i < nt → g' i = nI (11 * (Q i).1 + (Q i).2 + 1) := by
  intro r
  induction r with
  | zero =>
    intro t m g ht hm hg
    obtain ⟨m, rfl⟩ : ∃ q, m = q + 1 := ⟨m - 1, by omega⟩
    obtain rfl : t = nt := by omega
    refine ⟨g, ?_, hg⟩
    rw [F_X9_goOver_2_s]
    simp (maxSteps := 3000000) (disch := omega) only [h5, xi_xsi_s, xi_xsi_n, xl_xsi, xa_xsi, xj_xsi, xr_xsi, xsi_xsi, xi_xsl, xl_xsl_s, xl_xsl_n, xa_xsl, xj_xsl, xr_xsl, xsl_xsl, xi_xsa, xl_xsa, xa_xsa_s, xa_xsa_n, xj_xsa, xr_xsa, xsa_xsa, xi_xsj, xl_xsj, xa_xsj, xj_xsj_s, xj_xsj_n, xr_xsj, xsj_xsj, xi_xsr, xl_xsr, xa_xsr, xj_xsr, xr_xsr_s, xr_xsr_n, xsr_xsr, xk_0, xg_0_0, xg_0_1, xg_0_2, xp_0_2, xg_0_3, xg_0_4, xg_0_5, xg_0_6, xk_1, xg_1_0, xg_1_1, xp_1_1, xg_1_2, xg_1_3, xp_1_3, xg_1_4, xg_1_5, xg_1_6, xg_1_7, xg_1_8, xg_1_9, xg_1_10, xg_1_11, xp_1_11, xg_1_12, xg_1_13, xg_1_14, xg_1_15, xp_1_15, xg_1_16, xp_1_16, xg_1_17, xp_1_17, xk_26, xg_26_0, xg_26_1, xp_26_1, xg_26_2, xg_26_3, xp_26_3, xg_26_4, xg_26_5, xg_26_6, xg_26_7, xg_26_8, xg_26_9, xg_26_10, xg_26_11, xp_26_11, xg_26_12, xg_26_13, xg_26_14, xg_26_15, xp_26_15, xg_26_16, xp_26_16, xg_26_17, xp_26_17, xk_51, xg_51_0, xg_51_1, xg_51_2, xg_51_3, xg_51_4, xg_51_5, xg_51_6, xg_51_7, xp_51_7, xg_51_8, xp_51_8, xk_90, xg_90_0, xg_90_1, xg_90_2, xg_90_3, xp_90_3, xg_90_4, xg_90_5, xp_90_5, xg_90_6, xg_90_7, xp_90_7, xg_90_8, xp_90_8, xg_90_9, xp_90_9, xg_90_10, xas_2, xal_2, xal_3, xas_4, xal_4, xln_4, xas_5, xal_5, xln_5, xas_6, xal_6, xln_6, xas_7, xal_7, xln_7, xas_8, xal_8, xln_8, xas_9, xal_9, xln_9, xas0_10, xas1_10, xasb_10, xal_10, xal_11, xas_12, xal_12, xln_12, xas_27, xal_27, xal_28, xas_29, xal_29, xln_29, xas_30, xal_30, xln_30, xas_31, xal_31, xln_31, xas_32, xal_32, xln_32, xas_33, xal_33, xln_33, xas_34, xal_34, xln_34, xas0_35, xas1_35, xasb_35, xal_35, xal_36, xas_37, xal_37, xln_37, xas_88, xal_88, xln_88, xal_89, xas_89, xln_89, xas_103, xal_103, xln_103, xas_104, xal_104, xln_104, xas_105, xal_105, xln_105, xas_106, xal_106, xln_106, xas_107, xal_107, xln_107, xal_13, xal_in14, xas_in14, xln_in14, xal_38, xal_in39, xas_in39, xln_in39, xal_52, xal_in53, xas_in53, xln_in53, xal_61, xal_in62, xas_in62, xln_in62, xal_70, xal_in71, xas_in71, xln_in71, xal_79, xal_in80, xas_in80, xln_in80, xal_91, xal_in92, xas_in92, xln_in92, cl_some, nm_b, nn_some, qn_some, qn_none, zk_0, zk_1, zk_n0, zk_n1, nI_add, pk_mul, pk_sub, nI_leE, nI_ltE, nI_eqE, nI_lt0, nI_ge0, nI_eq0, nI_gt0, nI_le0, ilt_t, ilt_f, ile_t, ile_f, ieq_t, ieq_f, if_tt, if_ff, Nat.add_sub_cancel]
  | succ r ih =>
    intro t m g ht hm hg
    obtain ⟨m, rfl⟩ : ∃ q, m = q + 1 := ⟨m - 1, by omega⟩
    obtain ⟨g', r1, r2⟩ := ih (t + 1) m (upK g t (nI (11 * (Q t).1 + (Q t).2 + 1))) (by omega) (by omega) (fun i hi => by
      by_cases e : i = t
      · subst e; exact upK_s
      · rw [upK_n e]; exact hg i (by omega))
    refine ⟨g', ?_, r2⟩
    have e := hQ t (by omega)
    have al1 : ∀ {f : Option Nat → Option (Unit × Hp × Nat)}, alR (g_c G 6) (encX G X (xsa c (92 + day + 1) g) h0) (X + 91) (nI (day + 1)) f = f (some (X + 92 + (day + 1))) := xal_91 (by omega)
    have as1 : ∀ {x : Int32} {f : Hp → Option (Unit × Hp × Nat)}, asI (g_c G 0) id (encX G X (xsa c (92 + day + 1) g) h0) (X + 92 + (day + 1)) (nI t) x f = f (encX G X (xsa c (92 + day + 1) (upK g t x)) h0) := fun {x f} => by
      rw [xas_in92 (by omega) (by omega), show 92 + (day + 1) = 92 + day + 1 by omega, xa_xsa_s, xsa_xsa]
    rw [F_X9_goOver_2_s]
    simp (maxSteps := 3000000) (disch := omega) only [h5, al1, e, as1, xi_xsi_s, xi_xsi_n, xl_xsi, xa_xsi, xj_xsi, xr_xsi, xsi_xsi, xi_xsl, xl_xsl_s, xl_xsl_n, xa_xsl, xj_xsl, xr_xsl, xsl_xsl, xi_xsa, xl_xsa, xa_xsa_s, xa_xsa_n, xj_xsa, xr_xsa, xsa_xsa, xi_xsj, xl_xsj, xa_xsj, xj_xsj_s, xj_xsj_n, xr_xsj, xsj_xsj, xi_xsr, xl_xsr, xa_xsr, xj_xsr, xr_xsr_s, xr_xsr_n, xsr_xsr, xk_0, xg_0_0, xg_0_1, xg_0_2, xp_0_2, xg_0_3, xg_0_4, xg_0_5, xg_0_6, xk_1, xg_1_0, xg_1_1, xp_1_1, xg_1_2, xg_1_3, xp_1_3, xg_1_4, xg_1_5, xg_1_6, xg_1_7, xg_1_8, xg_1_9, xg_1_10, xg_1_11, xp_1_11, xg_1_12, xg_1_13, xg_1_14, xg_1_15, xp_1_15, xg_1_16, xp_1_16, xg_1_17, xp_1_17, xk_26, xg_26_0, xg_26_1, xp_26_1, xg_26_2, xg_26_3, xp_26_3, xg_26_4, xg_26_5, xg_26_6, xg_26_7, xg_26_8, xg_26_9, xg_26_10, xg_26_11, xp_26_11, xg_26_12, xg_26_13, xg_26_14, xg_26_15, xp_26_15, xg_26_16, xp_26_16, xg_26_17, xp_26_17, xk_51, xg_51_0, xg_51_1, xg_51_2, xg_51_3, xg_51_4, xg_51_5, xg_51_6, xg_51_7, xp_51_7, xg_51_8, xp_51_8, xk_90, xg_90_0, xg_90_1, xg_90_2, xg_90_3, xp_90_3, xg_90_4, xg_90_5, xp_90_5, xg_90_6, xg_90_7, xp_90_7, xg_90_8, xp_90_8, xg_90_9, xp_90_9, xg_90_10, xas_2, xal_2, xal_3, xas_4, xal_4, xln_4, xas_5, xal_5, xln_5, xas_6, xal_6, xln_6, xas_7, xal_7, xln_7, xas_8, xal_8, xln_8, xas_9, xal_9, xln_9, xas0_10, xas1_10, xasb_10, xal_10, xal_11, xas_12, xal_12, xln_12, xas_27, xal_27, xal_28, xas_29, xal_29, xln_29, xas_30, xal_30, xln_30, xas_31, xal_31, xln_31, xas_32, xal_32, xln_32, xas_33, xal_33, xln_33, xas_34, xal_34, xln_34, xas0_35, xas1_35, xasb_35, xal_35, xal_36, xas_37, xal_37, xln_37, xas_88, xal_88, xln_88, xal_89, xas_89, xln_89, xas_103, xal_103, xln_103, xas_104, xal_104, xln_104, xas_105, xal_105, xln_105, xas_106, xal_106, xln_106, xas_107, xal_107, xln_107, xal_13, xal_in14, xas_in14, xln_in14, xal_38, xal_in39, xas_in39, xln_in39, xal_52, xal_in53, xas_in53, xln_in53, xal_61, xal_in62, xas_in62, xln_in62, xal_70, xal_in71, xas_in71, xln_in71, xal_79, xal_in80, xas_in80, xln_in80, xal_91, xal_in92, xas_in92, xln_in92, cl_some, nm_b, nn_some, qn_some, qn_none, zk_0, zk_1, zk_n0, zk_n1, nI_add, pk_mul, pk_sub, nI_leE, nI_ltE, nI_eqE, nI_lt0, nI_ge0, nI_eq0, nI_gt0, nI_le0, ilt_t, ilt_f, ile_t, ile_f, ieq_t, ieq_f, if_tt, if_ff, Nat.add_sub_cancel]
    exact r1
theorem x_goOver {c : CS} (h5 : xi c 113 = nI nt) (h8 : nt ≤ 8) {day : Nat} (hd : day < 10) {Q : Nat → Nat × Nat} (hQ : ∀ t, t < nt → xa c (92 + day) t = nI (11 * (Q t).1 + (Q t).2)) : ∃ g' : Nat → Int32, F_X9_goOver G (encX G X c h0) nx (X + 90) (nI day) = some ((), encX G X (xsa c (92 + day + 1) g') h0, nx) ∧ ∀ i, i < nt → g' i = nI (11 * (Q i).1 + (Q i).2 + 1) := by
  obtain ⟨g', r1, r2⟩ := x_goOver2 (G := G) (X := X) (nx := nx) (h0 := h0) h5 h8 hd hQ nt 0 fuelL (xa c (92 + day + 1)) (by omega) (by unfold fuelL; omega) (fun i hi => absurd hi (by omega))
  rw [xsa_self] at r1
  exact ⟨g', r1, r2⟩
/-- what fromDay answers at a day -/
def FdP (G : Gx) (X lo nx : Nat) (h0 : Hp) (S : MS) (ns nt np lk td q N dd days : Nat) (Md : CS → Prop) (m day left : Nat) (V : (Nat → Int32) → Int64) : Prop := ∀ (c : CS) (s : Nat → Int32) (Q : Nat → Nat × Nat), TI G X lo h0 S ns nt np lk td q N dd days Md c s Q day left → ∃ c' : CS, F_X9_fromDay G m (encX G X c h0) nx (X + 90) (nI day) = some (V s, encX G X c' h0, nx) ∧ FrX (PL day) c c' ∧ xa c' (92 + day) = xa c (92 + day) ∧ MemoA c' S nt N dd
def ovC (S : MS) (nt left : Nat) (V : (Nat → Int32) → Int64) (s : Nat → Int32) : Int64 := if left = 1 then 0 else V (ovP S s nt)
theorem ovP_at {s : Nat → Int32} (h8 : nt ≤ 8) (hA : AgN nt (ma S 1) s) (hth : ∀ t, t < nt → ThOk (ma S 1) t) : ∀ (j : Nat), j ≤ nt → (∀ t, t < j → ovP S s j (1034 + t) = overF S t (s (1034 + t)) (s (1042 + t)) ∧ ovP S s j (1042 + t) = laterF (s (1042 + t))) ∧ ∀ t, j ≤ t → t < 8 → ovP S s j (1034 + t) = s (1034 + t) ∧ ovP S s j (1042 + t) = s (1042 + t)
  | 0, _ => ⟨fun t ht => absurd ht (by omega), fun _ _ _ => ⟨rfl, rfl⟩⟩
  | j + 1, hj => by
    obtain ⟨i1, i2⟩ := ovP_at h8 hA hth j (by omega)
    obtain ⟨a1, a2⟩ := i2 j (Nat.le_refl _) (by omega)
    have hag : AgN nt (ma S 1) (ovP S s j) := hA.trans (ovP_agN h8 (by omega))
    have eo : overF (msa S 1 (ovP S s j)) j = overF S j := overF_ag (st := S) (st' := msa S 1 (ovP S s j)) (by rw [ma_msa_s]; exact hag.ag h8) rfl rfl (hth j (by omega))
    have es : ovP S s (j + 1) = upK (upK (ovP S s j) (1034 + j) (overF S j (s (1034 + j)) (s (1042 + j)))) (1042 + j) (laterF (s (1042 + j))) := by
      show upK (upK (ovP S s j) (1034 + j) (overF (msa S 1 (ovP S s j)) j (ovP S s j (1034 + j)) (ovP S s j (1042 + j)))) (1042 + j) (laterF (ovP S s j (1042 + j))) = _
      rw [eo, a1, a2]
    rw [es]
    refine ⟨fun t ht => ?_, fun t h1 h2 => ?_⟩
    · by_cases e : t = j
      · subst e
        rw [upK_n (by omega), upK_s, upK_s]
        exact ⟨rfl, rfl⟩
      · rw [upK_n (by omega), upK_n (by omega), upK_n (by omega), upK_n (by omega)]
        exact i1 t (by omega)
    · rw [upK_n (by omega), upK_n (by omega), upK_n (by omega), upK_n (by omega)]
      exact i2 t (by omega) h2
set_option maxRecDepth 100000 in
set_option maxHeartbeats 1000000 in
theorem x_bd (hMd : MdOk Md) {m day left : Nat} {V : (Nat → Int32) → Int64} (hl1 : 1 ≤ left) (hdl : day + left = days) (hd10 : days ≤ 10) (hV : 2 ≤ left → FdP G X lo nx h0 S ns nt np lk td q N dd days Md m (day + 1) (left - 1) V) {c : CS} {s : Nat → Int32} {Q : Nat → Nat × Nat} (hT : TI G X lo h0 S ns nt np lk td q N dd days Md c s Q day left) : ∃ c' : CS, F_X9_behindDay G (m + 1) (encX G X c h0) nx (X + 90) (nI day) = some (ovC S nt left V s, encX G X c' h0, nx) ∧ FrX (PL (day + 1)) c c' ∧ MemoA c' S nt N dd := by
  obtain ⟨⟨hC, hL, h79, hM⟩, hMm, hA, hS⟩ := id hT
  have h8 := x_nt8 hC
  have h5 := x_thC hC
  rw [F_X9_behindDay_s]
  unfold B_X9_behindDay ovC
  by_cases c1 : left = 1
  · refine ⟨c, ?_, FrX.rf, hMm⟩
    rw [if_pos c1]
    simp (maxSteps := 3000000) (disch := omega) only [h79, xi_xsi_s, xi_xsi_n, xl_xsi, xa_xsi, xj_xsi, xr_xsi, xsi_xsi, xi_xsl, xl_xsl_s, xl_xsl_n, xa_xsl, xj_xsl, xr_xsl, xsl_xsl, xi_xsa, xl_xsa, xa_xsa_s, xa_xsa_n, xj_xsa, xr_xsa, xsa_xsa, xi_xsj, xl_xsj, xa_xsj, xj_xsj_s, xj_xsj_n, xr_xsj, xsj_xsj, xi_xsr, xl_xsr, xa_xsr, xj_xsr, xr_xsr_s, xr_xsr_n, xsr_xsr, xk_0, xg_0_0, xg_0_1, xg_0_2, xp_0_2, xg_0_3, xg_0_4, xg_0_5, xg_0_6, xk_1, xg_1_0, xg_1_1, xp_1_1, xg_1_2, xg_1_3, xp_1_3, xg_1_4, xg_1_5, xg_1_6, xg_1_7, xg_1_8, xg_1_9, xg_1_10, xg_1_11, xp_1_11, xg_1_12, xg_1_13, xg_1_14, xg_1_15, xp_1_15, xg_1_16, xp_1_16, xg_1_17, xp_1_17, xk_26, xg_26_0, xg_26_1, xp_26_1, xg_26_2, xg_26_3, xp_26_3, xg_26_4, xg_26_5, xg_26_6, xg_26_7, xg_26_8, xg_26_9, xg_26_10, xg_26_11, xp_26_11, xg_26_12, xg_26_13, xg_26_14, xg_26_15, xp_26_15, xg_26_16, xp_26_16, xg_26_17, xp_26_17, xk_51, xg_51_0, xg_51_1, xg_51_2, xg_51_3, xg_51_4, xg_51_5, xg_51_6, xg_51_7, xp_51_7, xg_51_8, xp_51_8, xk_90, xg_90_0, xg_90_1, xg_90_2, xg_90_3, xp_90_3, xg_90_4, xg_90_5, xp_90_5, xg_90_6, xg_90_7, xp_90_7, xg_90_8, xp_90_8, xg_90_9, xp_90_9, xg_90_10, xas_2, xal_2, xal_3, xas_4, xal_4, xln_4, xas_5, xal_5, xln_5, xas_6, xal_6, xln_6, xas_7, xal_7, xln_7, xas_8, xal_8, xln_8, xas_9, xal_9, xln_9, xas0_10, xas1_10, xasb_10, xal_10, xal_11, xas_12, xal_12, xln_12, xas_27, xal_27, xal_28, xas_29, xal_29, xln_29, xas_30, xal_30, xln_30, xas_31, xal_31, xln_31, xas_32, xal_32, xln_32, xas_33, xal_33, xln_33, xas_34, xal_34, xln_34, xas0_35, xas1_35, xasb_35, xal_35, xal_36, xas_37, xal_37, xln_37, xas_88, xal_88, xln_88, xal_89, xas_89, xln_89, xas_103, xal_103, xln_103, xas_104, xal_104, xln_104, xas_105, xal_105, xln_105, xas_106, xal_106, xln_106, xas_107, xal_107, xln_107, xal_13, xal_in14, xas_in14, xln_in14, xal_38, xal_in39, xas_in39, xln_in39, xal_52, xal_in53, xas_in53, xln_in53, xal_61, xal_in62, xas_in62, xln_in62, xal_70, xal_in71, xas_in71, xln_in71, xal_79, xal_in80, xas_in80, xln_in80, xal_91, xal_in92, xas_in92, xln_in92, cl_some, nm_b, nn_some, qn_some, qn_none, zk_0, zk_1, zk_n0, zk_n1, nI_add, pk_mul, pk_sub, nI_leE, nI_ltE, nI_eqE, nI_lt0, nI_ge0, nI_eq0, nI_gt0, nI_le0, ilt_t, ilt_f, ile_t, ile_f, ieq_t, ieq_f, if_tt, if_ff, Nat.add_sub_cancel]
  · rw [if_neg c1]
    obtain ⟨g, eg, hg⟩ := x_goOver (G := G) (X := X) (nx := nx) (h0 := h0) h5 h8 (day := day) (by omega) (fun t ht => (hS t ht).2.2.1)
    have f1 : FrX (PL (day + 1)) c (xsa c (92 + day + 1) g) := FrX.sa (P := PL (day + 1)) (Or.inr (by omega))
    have hth : ∀ t, t < nt → ThOk (ma S 1) t := fun t ht => x_ThOk hC ht
    have ov := ovP_at (S := S) h8 hA hth nt (Nat.le_refl _)
    have hT2 : TI G X lo h0 S ns nt np lk td q N dd days Md (xsa c (92 + day + 1) g) (ovP S s nt) (fun t => ((Q t).1, (Q t).2 + 1)) (day + 1) (left - 1) := by
      refine ⟨B0.fr hMd ⟨hC, hL, h79, hM⟩ (f1.mono pl_pa), hMm.fr (FrX.sa (P := fun k => k = 92 + day + 1) rfl) (fun k h1 h2 z => by omega), hA.trans (ovP_agN h8 (Nat.le_refl _)), fun t ht => ?_⟩
      obtain ⟨s1, s2, s3, s4⟩ := hS t ht
      refine ⟨s1, by show (Q t).2 + 1 + _ ≤ _; omega, ?_, ?_⟩
      · rw [show 92 + (day + 1) = 92 + day + 1 by omega, xa_xsa_s]
        exact hg t ht
      · show (overF S t (paK S t _ (Q t).2).1 (paK S t _ (Q t).2).2, laterF (paK S t _ (Q t).2).2) = _
        rw [s4, (ov.1 t ht).1, (ov.1 t ht).2]
    obtain ⟨c', r1, r2, r3, r4⟩ := hV (by omega) _ _ _ hT2
    refine ⟨c', ?_, f1.trans r2 (fun _ z => z) (fun _ z => z), r4⟩
    simp (maxSteps := 3000000) (disch := omega) only [h79, eg, r1, xi_xsi_s, xi_xsi_n, xl_xsi, xa_xsi, xj_xsi, xr_xsi, xsi_xsi, xi_xsl, xl_xsl_s, xl_xsl_n, xa_xsl, xj_xsl, xr_xsl, xsl_xsl, xi_xsa, xl_xsa, xa_xsa_s, xa_xsa_n, xj_xsa, xr_xsa, xsa_xsa, xi_xsj, xl_xsj, xa_xsj, xj_xsj_s, xj_xsj_n, xr_xsj, xsj_xsj, xi_xsr, xl_xsr, xa_xsr, xj_xsr, xr_xsr_s, xr_xsr_n, xsr_xsr, xk_0, xg_0_0, xg_0_1, xg_0_2, xp_0_2, xg_0_3, xg_0_4, xg_0_5, xg_0_6, xk_1, xg_1_0, xg_1_1, xp_1_1, xg_1_2, xg_1_3, xp_1_3, xg_1_4, xg_1_5, xg_1_6, xg_1_7, xg_1_8, xg_1_9, xg_1_10, xg_1_11, xp_1_11, xg_1_12, xg_1_13, xg_1_14, xg_1_15, xp_1_15, xg_1_16, xp_1_16, xg_1_17, xp_1_17, xk_26, xg_26_0, xg_26_1, xp_26_1, xg_26_2, xg_26_3, xp_26_3, xg_26_4, xg_26_5, xg_26_6, xg_26_7, xg_26_8, xg_26_9, xg_26_10, xg_26_11, xp_26_11, xg_26_12, xg_26_13, xg_26_14, xg_26_15, xp_26_15, xg_26_16, xp_26_16, xg_26_17, xp_26_17, xk_51, xg_51_0, xg_51_1, xg_51_2, xg_51_3, xg_51_4, xg_51_5, xg_51_6, xg_51_7, xp_51_7, xg_51_8, xp_51_8, xk_90, xg_90_0, xg_90_1, xg_90_2, xg_90_3, xp_90_3, xg_90_4, xg_90_5, xp_90_5, xg_90_6, xg_90_7, xp_90_7, xg_90_8, xp_90_8, xg_90_9, xp_90_9, xg_90_10, xas_2, xal_2, xal_3, xas_4, xal_4, xln_4, xas_5, xal_5, xln_5, xas_6, xal_6, xln_6, xas_7, xal_7, xln_7, xas_8, xal_8, xln_8, xas_9, xal_9, xln_9, xas0_10, xas1_10, xasb_10, xal_10, xal_11, xas_12, xal_12, xln_12, xas_27, xal_27, xal_28, xas_29, xal_29, xln_29, xas_30, xal_30, xln_30, xas_31, xal_31, xln_31, xas_32, xal_32, xln_32, xas_33, xal_33, xln_33, xas_34, xal_34, xln_34, xas0_35, xas1_35, xasb_35, xal_35, xal_36, xas_37, xal_37, xln_37, xas_88, xal_88, xln_88, xal_89, xas_89, xln_89, xas_103, xal_103, xln_103, xas_104, xal_104, xln_104, xas_105, xal_105, xln_105, xas_106, xal_106, xln_106, xas_107, xal_107, xln_107, xal_13, xal_in14, xas_in14, xln_in14, xal_38, xal_in39, xas_in39, xln_in39, xal_52, xal_in53, xas_in53, xln_in53, xal_61, xal_in62, xas_in62, xln_in62, xal_70, xal_in71, xas_in71, xln_in71, xal_79, xal_in80, xas_in80, xln_in80, xal_91, xal_in92, xas_in92, xln_in92, cl_some, nm_b, nn_some, qn_some, qn_none, zk_0, zk_1, zk_n0, zk_n1, nI_add, pk_mul, pk_sub, nI_leE, nI_ltE, nI_eqE, nI_lt0, nI_ge0, nI_eq0, nI_gt0, nI_le0, ilt_t, ilt_f, ile_t, ile_f, ieq_t, ieq_f, if_tt, if_ff, Nat.add_sub_cancel]
/-- the least set of bits is one set less -/
theorem set_low {set nt : Nat} (h8 : nt ≤ 8) (hs : set < 2 ^ nt) (h0 : 0 < set) : lowT set < nt ∧ set - 2 ^ lowT set < 2 ^ nt := by
  have h2 := two_le h8
  obtain ⟨b1, b2, b3, b4, b5⟩ := bit_low ⟨set, by omega⟩ h0
  have b4 : 2 ^ lowT set ≤ set := b4
  refine ⟨?_, Nat.lt_of_le_of_lt (Nat.sub_le _ _) hs⟩
  by_cases c : lowT set < nt
  · exact c
  · have := Nat.pow_le_pow_right (n := 2) (by decide) (show nt ≤ lowT set by omega)
    omega
/-- one thing at the beginning of a path -/
theorem TI.look (hMd : MdOk Md) {c : CS} {s : Nat → Int32} {Q : Nat → Nat × Nat} {day left t kk : Nat} {x : Int32} (hT : TI G X lo h0 S ns nt np lk td q N dd days Md c s Q day left) (hd10 : day < 11) (hN : dd + left ≤ N) (ht : t < nt) (hk : (kk = 1 ∧ x = nI 1000000) ∨ (kk = 2 ∧ x = nI 0)) {f : Nat → Int32} (hf : ∀ i, i < nt → f i = upK (xa c (92 + day)) t (nI (11 * kk)) i) : TI G X lo h0 S ns nt np lk td q N dd days Md (xsa c (92 + day) f) (up2 s t x) (upK Q t (kk, 0)) day left := by
  obtain ⟨⟨hC, hL, h79, hM⟩, hMm, hA, hS⟩ := id hT
  have h8 := x_nt8 hC
  have f1 : FrX (PL day) c (xsa c (92 + day) f) := FrX.sa (P := PL day) (Or.inr (by omega))
  refine ⟨B0.fr hMd ⟨hC, hL, h79, hM⟩ (f1.mono pl_pa), hMm.fr (FrX.sa (P := fun k => k = 92 + day) rfl) (fun k h1 h2 z => by omega), (hA.trans (AgN.up1 ht h8)).trans (AgN.up2 ht h8), fun i hi => ?_⟩
  rw [xa_xsa_s, hf i hi]
  by_cases e : i = t
  · subst e
    rw [upK_s, upK_s, (up2_k (by omega)).1, (up2_k (by omega)).2]
    refine ⟨by show kk < 3; omega, by show 0 + _ ≤ _; omega, rfl, ?_⟩
    show stZ (ma S 1) i kk = _
    unfold stZ
    rcases hk with ⟨rfl, rfl⟩ | ⟨rfl, rfl⟩
    · rw [if_neg (show ¬ (1 : Nat) = 0 by decide), if_pos (show (1 : Nat) = 1 from rfl)]
    · rw [if_neg (show ¬ (2 : Nat) = 0 by decide), if_neg (show ¬ (2 : Nat) = 1 by decide)]
  · rw [upK_n e, upK_n e, (up2_o e (by omega) (by omega)).1, (up2_o e (by omega) (by omega)).2]
    exact hS i hi
end XLK
