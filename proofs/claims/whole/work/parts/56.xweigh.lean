/-! BEST of a thing by what is known of it -/
def vB (S : MS) (t : Nat) (w : Int64) : Nat → Int32 × Int32 → Int64 × Int64 × Int64
  | 0, _ => (0, 0, 0)
  | n + 1, z =>
    let day := brF (ma S 1) t z.1
    let nt := w + day + (vB S t w n (overF S t z.1 z.2, laterF z.2)).1
    let lk := day - 1000 * (valF (ma S 1) t 2).toInt64 + (z.1.toInt64 * (vB S t w n (rowSt S t 1)).1 + (nI 1000000 - z.1).toInt64 * ((vB S t w n (rowSt S t 2)).1 - 1000 * (valF (ma S 1) t 3).toInt64)) / 1000000
    (if nt ≤ lk then lk else nt, nt, lk)
theorem bP_vB {S : MS} {t : Nat} {w0 : Int32} : ∀ (n kk j : Nat), kk < 3 → j + n ≤ 9 → n ≤ 8 → bP (msi (rwS S t) 20 w0) t n (9 * kk + j) = vB S t (1000 * w0.toInt64) n (rowK S t kk j)
  | 0, _, _, _, _, _ => rfl
  | n + 1, kk, j, hk, hj, hn => by
    have e12 : ∀ i, ma (msi (rwS S t) 20 w0) 12 i = (rowK S t (i / 9) (i % 9)).1 := fun i => congrFun (ma_msa_s (st := S) (k := 12) (f := fun i => (rowK S t (i / 9) (i % 9)).1)) i
    have e1 : ma (msi (rwS S t) 20 w0) 1 = ma S 1 := ma_msa_n (st := S) (j := 1) (k := 12) (by decide)
    have e20 : mi (msi (rwS S t) 20 w0) 20 = w0 := mi_msi_s
    have i2 := bP_vB (S := S) (t := t) (w0 := w0) n 1 0 (by decide) (by omega) (by omega)
    have i3 := bP_vB (S := S) (t := t) (w0 := w0) n 2 0 (by decide) (by omega) (by omega)
    have i1 : (bP (msi (rwS S t) 20 w0) t n (9 * kk + j + 1)) = vB S t (1000 * w0.toInt64) n (rowK S t kk (j + 1)) := bP_vB (S := S) (t := t) (w0 := w0) n kk (j + 1) hk (by omega) (by omega)
    unfold bP vB
    rw [e12, e1, e20, i1, show (9 : Nat) = 9 * 1 + 0 from rfl, i2, show (18 : Nat) = 9 * 2 + 0 from rfl, i3, show (9 * 1 + 0) * kk + j = 9 * kk + j by omega, show (9 * kk + j) / (9 * 1 + 0) = kk by omega, show (9 * kk + j) % (9 * 1 + 0) = j by omega]
    rfl
section XW
variable {G : Gx} {X lo nx : Nat} {h0 : Hp} {c : CS} {S : MS} {t a p : Nat}
theorem rowSt_V (hX : XT G X lo h0 c (ma S 1) t a p) {kk : Nat} : KdV (rowSt S t kk) := by
  unfold rowSt
  by_cases c0 : kk = 0
  · rw [if_pos c0]
    obtain ⟨_, _, _, _, _, _, _, _, _, _, ⟨_, ⟨k, hk, ek⟩, ⟨d, hd, ed⟩, _⟩⟩ := hX
    exact ⟨k, d, hk, hd, by rw [ek, ed]⟩
  · rw [if_neg c0]
    by_cases c1 : kk = 1 ∨ 0 < valF (ma S 1) t 3
    · rw [if_pos c1]
      exact over_V hX (z := (nI 1000000, nI 0)) ⟨1000000, 0, by omega, by omega, rfl⟩
    · rw [if_neg c1]
      exact over_V hX (z := (nI 0, nI 0)) ⟨0, 0, by omega, by omega, rfl⟩
theorem val_V (hX : XT G X lo h0 c (ma S 1) t a p) {w : Nat} (hw : w < 4) : ∃ v, v ≤ 999 ∧ valF (ma S 1) t w = nI v ∧ valF (ma S 1) t w = ma S 1 (140 + 4 * a + w) := by
  obtain ⟨_, ha, _, _, _, hs, _⟩ := hX
  obtain ⟨v, hv, ev⟩ := (hs c).val hw
  have e : valF (ma S 1) t w = ma S 1 (140 + 4 * a + w) := by unfold valF; rw [ha]
  exact ⟨v, hv, e.trans ev, e⟩
theorem cost_bd (hX : XT G X lo h0 c (ma S 1) t a p) {w : Nat} (hw : w < 4) : Bd (1000 * (valF (ma S 1) t w).toInt64) 999000 := by
  obtain ⟨v, hv, ev, _⟩ := val_V hX hw
  rw [ev, nI_l (by omega), lN_1000, lN_mul]
  exact Bd.nI (by omega) (by decide)
theorem mean_bd {x y : Int64} {b k : Nat} (hx : Bd x b) (hy : Bd y b) (hk : k ≤ 1000000) (hb : b < 2 ^ 40) : Bd (((nI k).toInt64 * x + (nI 1000000 - nI k).toInt64 * y) / 1000000) b := by
  rw [pk_sub hk, nI_l (by omega), nI_l (by omega)]
  exact Bd.mean hx hy hk hb
theorem vB_bd (hX : XT G X lo h0 c (ma S 1) t a p) {W : Int64} (hW : Bd W 200000) : ∀ (n : Nat) (z : Int32 × Int32), n ≤ 20 → KdV z → Bd (vB S t W n z).1 (3000000 * n)
  | 0, _, _, _ => (show Bd (0 : Int64) (3000000 * 0) from ⟨by decide, by decide⟩)
  | n + 1, z, hn, hz => by
    have i1 := vB_bd hX hW n (overF S t z.1 z.2, laterF z.2) (by omega) (over_V hX hz)
    have i2 := vB_bd hX hW n (rowSt S t 1) (by omega) (rowSt_V hX)
    have i3 := vB_bd hX hW n (rowSt S t 2) (by omega) (rowSt_V hX)
    obtain ⟨k, d, hk, hd, rfl⟩ := hz
    have hb := (br_ovI hX hk).2
    have c2 := cost_bd hX (w := 2) (by omega)
    have c3 := cost_bd hX (w := 3) (by omega)
    have a1 := (Bd.add (Bd.add hW hb (by omega)).1 i1 (by omega)).1
    have a2 := (Bd.sub i3 c3 (by omega)).1
    have a3 := mean_bd (i2.mono (show 3000000 * n ≤ 3000000 * n + 999000 by omega)) a2 hk (by omega)
    have a4 := (Bd.add (Bd.sub hb c2 (by omega)).1 a3 (by omega)).1
    exact Bd.mx (a1.mono (by omega)) (a4.mono (by omega))
theorem rowSt_2n (h : valF (ma S 1) t 3 ≤ 0) : rowSt S t 2 = paK S t (stZ (ma S 1) t 2) 1 := by
  unfold rowSt
  rw [if_neg (show ¬ (2 : Nat) = 0 by decide), if_neg (show ¬ ((2 : Nat) = 1 ∨ 0 < valF (ma S 1) t 3) by
    rintro (q | q)
    · exact absurd q (by decide)
    · exact absurd h (Int32.not_le.mpr q))]
  rfl
theorem rowSt_1 : rowSt S t 1 = paK S t (stZ (ma S 1) t 1) 1 := by
  unfold rowSt
  rw [if_neg (show ¬ (1 : Nat) = 0 by decide), if_pos (show (1 : Nat) = 1 ∨ 0 < valF (ma S 1) t 3 from Or.inl rfl)]
  rfl
theorem rowSt_2p (h : ¬ valF (ma S 1) t 3 ≤ 0) : rowSt S t 2 = rowSt S t 1 := by
  rw [rowSt_1]
  unfold rowSt
  rw [if_neg (show ¬ (2 : Nat) = 0 by decide), if_pos (show (2 : Nat) = 1 ∨ 0 < valF (ma S 1) t 3 from Or.inr (Int32.not_le.mp h))]
  rfl
/-- what holds in weigh -/
def PW (k : Nat) : Prop := k = 89 ∨ k = 52 ∨ k = 61
theorem x_bothWays {h : Hp} {kn : Int32} {x y : Int64} : F_X11_bothWays G h nx kn x y = some ((kn.toInt64 * x + (nI 1000000 - kn).toInt64 * y) / 1000000, h, nx) := rfl
theorem add_sw {w d v : Int64} : d + (w + v) = w + d + v := by rw [← Int64.add_assoc, Int64.add_comm d w]
theorem sub_sw {d b l : Int64} : d + (b - l) = d - l + b := by
  rw [Int64.sub_eq_add_neg, Int64.sub_eq_add_neg, Int64.add_comm b, ← Int64.add_assoc]
theorem put_eq (hX : XT G X lo h0 c (ma S 1) t a p) {W : Int64} (hW : Bd W 200000) {n : Nat} (hn : n ≤ 8) {z : Int32 × Int32} (hz : KdV z) : (brI (ma S 1) a z.1).toInt64 + mxJ (W + (vB S t W n (overF S t z.1 z.2, laterF z.2)).1) ((z.1.toInt64 * (vB S t W n (rowSt S t 1)).1 + (nI 1000000 - z.1).toInt64 * ((vB S t W n (rowSt S t 2)).1 - 1000 * (valF (ma S 1) t 3).toInt64)) / 1000000 - 1000 * (valF (ma S 1) t 2).toInt64) = (vB S t W (n + 1) z).1 := by
  have i1 := vB_bd hX hW n (overF S t z.1 z.2, laterF z.2) (by omega) (over_V hX hz)
  have i2 := vB_bd hX hW n (rowSt S t 1) (by omega) (rowSt_V hX)
  have i3 := vB_bd hX hW n (rowSt S t 2) (by omega) (rowSt_V hX)
  obtain ⟨k, d, hk, hd, rfl⟩ := hz
  obtain ⟨eb, hb⟩ := br_ovI hX hk
  have c2 := cost_bd hX (w := 2) (by omega)
  have c3 := cost_bd hX (w := 3) (by omega)
  have a1 := (Bd.add hW i1 (by omega)).1
  have a2 := (Bd.sub i3 c3 (by omega)).1
  have a3 := (Bd.sub (mean_bd (i2.mono (show 3000000 * n ≤ 3000000 * n + 999000 by omega)) a2 hk (by omega)) c2 (by omega)).1
  rw [eb, mx_add hb (a1.mono (show _ ≤ 3000000 * n + 2000000 by omega)) (a3.mono (by omega)) (by omega), add_sw, sub_sw]
  rfl
set_option maxRecDepth 100000 in
set_option maxHeartbeats 1000000 in
theorem x_w178 (ht : t < 8) (hX : XT G X lo h0 c (ma S 1) t a p) {W : Int64} (hW : Bd W 200000) {n l N kk : Nat} {fr ill : Int32} {ah : Int64} (hl1 : 1 ≤ l) (hl : l ≤ n) (hn : n ≤ 8) (hkk : kk = 1 ∨ kk = 2) (hN : n ≤ N) (hN10 : N ≤ 10) (hLd : Laid c S t a N) {k49 : Hp → Nat → Nat → Int32 → Int32 → Int32 → Option Nat → Int64 → Int32 → Int64 → Int32 → Rz Unit} {k165 : Hp → Nat → Nat → Int32 → Int32 → Int32 → Option Nat → Int64 → Int32 → Int64 → Int32 → Int64 → Int64 → Int32 → Rz Unit} {c1 : CS} (hF : FrX PW c c1) : ∀ (r i m : Nat) (g : Nat → Int64), i + r = n - l → r < m → (∀ j, j < i → g (11 * kk + 1 + j) = (vB S t W l (paK S t (stZ (ma S 1) t kk) (j + 1))).1) → (∀ j, i ≤ j → j ≤ n - l → g (11 * kk + 1 + j) = (vB S t W (l - 1) (paK S t (stZ (ma S 1) t kk) (j + 1))).1) →
    ∃ g' : Nat → Int64, F_X5_weigh_178 G k49 k165 m (encX G X (xsj c1 89 g) h0) nx (X + 51) (nI t) fr (nI n) (some p) W ill ah (nI l) (vB S t W (l - 1) (rowSt S t 1)).1 ((vB S t W (l - 1) (rowSt S t 2)).1 - 1000 * (valF (ma S 1) t 3).toInt64) (nI (11 * kk)) (nI (11 * kk + 1 + i)) = k165 (encX G X (xsj c1 89 g') h0) nx (X + 51) (nI t) fr (nI n) (some p) W ill ah (nI l) (vB S t W (l - 1) (rowSt S t 1)).1 ((vB S t W (l - 1) (rowSt S t 2)).1 - 1000 * (valF (ma S 1) t 3).toInt64) (nI (11 * kk + 11)) ∧ (∀ j, j < n - l → g' (11 * kk + 1 + j) = (vB S t W l (paK S t (stZ (ma S 1) t kk) (j + 1))).1) ∧ ∀ q, q ≤ 11 * kk ∨ 11 * kk + (n - l) < q → g' q = g q := by
  have hs := hX.2.2.2.2.2.1
  obtain ⟨_, _, _, e2⟩ := val_V hX (w := 2) (by omega)
  have ck7 : ∀ (c2 : CS) {β : Type} {f : Nat → Option β}, ck (encX G X c2 h0) p [7] f = f 7 := fun c2 => x_ck7 (hs c2)
  have el : ∀ (c2 : CS), F_X7_lookCost G (encX G X c2 h0) nx p = some (1000 * (valF (ma S 1) t 2).toInt64, encX G X c2 h0, nx) := fun c2 => by rw [e2]; exact x_lookCost (hs c2)
  obtain ⟨l, rfl⟩ : ∃ q, l = q + 1 := ⟨l - 1, by omega⟩
  rw [Nat.add_sub_cancel]
  intro r
  induction r with
  | zero =>
    intro i m g hi hm h1 h2
    obtain ⟨m, rfl⟩ : ∃ q, m = q + 1 := ⟨m - 1, by omega⟩
    refine ⟨g, ?_, fun j hj => h1 j (by omega), fun _ _ => rfl⟩
    rw [F_X5_weigh_178_s]
    simp (maxSteps := 3000000) (disch := omega) only [cl_some, nm_b, nn_some, qn_some, qn_none, zk_0, zk_1, zk_n0, zk_n1, nI_add, pk_mul, pk_sub, nI_leE, nI_ltE, nI_eqE, nI_lt0, nI_ge0, nI_eq0, nI_gt0, nI_le0, ilt_t, ilt_f, ile_t, ile_f, ieq_t, ieq_f, if_tt, if_ff, Nat.add_sub_cancel]
  | succ r ih =>
    intro i m g hi hm h1 h2
    obtain ⟨m, rfl⟩ : ∃ q, m = q + 1 := ⟨m - 1, by omega⟩
    have hLi := hLd kk (by omega) (i + 1) (by omega)
    have hz : KdV (paK S t (stZ (ma S 1) t kk) (i + 1)) := paK_V hX (by
      unfold stZ
      rw [if_neg (by omega)]
      split
      · exact ⟨1000000, 0, by omega, by omega, rfl⟩
      · exact ⟨0, 0, by omega, by omega, rfl⟩) (i + 1)
    have pe := put_eq hX hW (n := l) (by omega) hz
    have q1 : xa c1 (53 + t) (11 * kk + 1 + i) = (paK S t (stZ (ma S 1) t kk) (i + 1)).1 := by
      rw [hF.a (53 + t) (by unfold PW; omega), show 11 * kk + 1 + i = 11 * kk + (i + 1) by omega]; exact hLi.1
    have q3 : xa c1 (71 + t) (11 * kk + 1 + i) = brI (ma S 1) a (paK S t (stZ (ma S 1) t kk) (i + 1)).1 := by
      rw [hF.a (71 + t) (by unfold PW; omega), show 11 * kk + 1 + i = 11 * kk + (i + 1) by omega]; exact hLi.2.2
    have gn : g (11 * kk + 1 + i + 1) = (vB S t W l (overF S t (paK S t (stZ (ma S 1) t kk) (i + 1)).1 (paK S t (stZ (ma S 1) t kk) (i + 1)).2, laterF (paK S t (stZ (ma S 1) t kk) (i + 1)).2)).1 := by
      rw [show 11 * kk + 1 + i + 1 = 11 * kk + 1 + (i + 1) by omega]
      exact h2 (i + 1) (by omega) (by omega)
    obtain ⟨g', r1, r2, r3⟩ := ih (i + 1) m (upK g (11 * kk + 1 + i) (vB S t W (l + 1) (paK S t (stZ (ma S 1) t kk) (i + 1))).1) (by omega) (by omega) (fun j hj => by
      by_cases e : j = i
      · subst e; exact upK_s
      · rw [upK_n (by omega)]; exact h1 j (by omega)) (fun j hj hj2 => by
      rw [upK_n (by omega)]; exact h2 j (by omega) hj2)
    refine ⟨g', ?_, r2, fun q hq => (r3 q hq).trans (upK_n (by omega))⟩
    rw [F_X5_weigh_178_s]
    simp (maxSteps := 3000000) (disch := omega) only [q1, q3, ck7, el, gn, x_bothWays, pe, xi_xsi_s, xi_xsi_n, xl_xsi, xa_xsi, xj_xsi, xr_xsi, xsi_xsi, xi_xsl, xl_xsl_s, xl_xsl_n, xa_xsl, xj_xsl, xr_xsl, xsl_xsl, xi_xsa, xl_xsa, xa_xsa_s, xa_xsa_n, xj_xsa, xr_xsa, xsa_xsa, xi_xsj, xl_xsj, xa_xsj, xj_xsj_s, xj_xsj_n, xr_xsj, xsj_xsj, xi_xsr, xl_xsr, xa_xsr, xj_xsr, xr_xsr_s, xr_xsr_n, xsr_xsr, xk_0, xg_0_0, xg_0_1, xg_0_2, xp_0_2, xg_0_3, xg_0_4, xg_0_5, xg_0_6, xk_1, xg_1_0, xg_1_1, xp_1_1, xg_1_2, xg_1_3, xp_1_3, xg_1_4, xg_1_5, xg_1_6, xg_1_7, xg_1_8, xg_1_9, xg_1_10, xg_1_11, xp_1_11, xg_1_12, xg_1_13, xg_1_14, xg_1_15, xp_1_15, xg_1_16, xp_1_16, xg_1_17, xp_1_17, xk_26, xg_26_0, xg_26_1, xp_26_1, xg_26_2, xg_26_3, xp_26_3, xg_26_4, xg_26_5, xg_26_6, xg_26_7, xg_26_8, xg_26_9, xg_26_10, xg_26_11, xp_26_11, xg_26_12, xg_26_13, xg_26_14, xg_26_15, xp_26_15, xg_26_16, xp_26_16, xg_26_17, xp_26_17, xk_51, xg_51_0, xg_51_1, xg_51_2, xg_51_3, xg_51_4, xg_51_5, xg_51_6, xg_51_7, xp_51_7, xg_51_8, xp_51_8, xk_90, xg_90_0, xg_90_1, xg_90_2, xg_90_3, xp_90_3, xg_90_4, xg_90_5, xp_90_5, xg_90_6, xg_90_7, xp_90_7, xg_90_8, xp_90_8, xg_90_9, xp_90_9, xg_90_10, xas_2, xal_2, xal_3, xas_4, xal_4, xln_4, xas_5, xal_5, xln_5, xas_6, xal_6, xln_6, xas_7, xal_7, xln_7, xas_8, xal_8, xln_8, xas_9, xal_9, xln_9, xas0_10, xas1_10, xasb_10, xal_10, xal_11, xas_12, xal_12, xln_12, xas_27, xal_27, xal_28, xas_29, xal_29, xln_29, xas_30, xal_30, xln_30, xas_31, xal_31, xln_31, xas_32, xal_32, xln_32, xas_33, xal_33, xln_33, xas_34, xal_34, xln_34, xas0_35, xas1_35, xasb_35, xal_35, xal_36, xas_37, xal_37, xln_37, xas_88, xal_88, xln_88, xal_89, xas_89, xln_89, xas_103, xal_103, xln_103, xas_104, xal_104, xln_104, xas_105, xal_105, xln_105, xas_106, xal_106, xln_106, xas_107, xal_107, xln_107, xal_13, xal_in14, xas_in14, xln_in14, xal_38, xal_in39, xas_in39, xln_in39, xal_52, xal_in53, xas_in53, xln_in53, xal_61, xal_in62, xas_in62, xln_in62, xal_70, xal_in71, xas_in71, xln_in71, xal_79, xal_in80, xas_in80, xln_in80, xal_91, xal_in92, xas_in92, xln_in92, cl_some, nm_b, nn_some, qn_some, qn_none, zk_0, zk_1, zk_n0, zk_n1, nI_add, pk_mul, pk_sub, nI_leE, nI_ltE, nI_eqE, nI_lt0, nI_ge0, nI_eq0, nI_gt0, nI_le0, ilt_t, ilt_f, ile_t, ile_f, ieq_t, ieq_f, if_tt, if_ff, Nat.add_sub_cancel]
    exact r1
set_option maxRecDepth 100000 in
set_option maxHeartbeats 1000000 in
theorem x_w49 (ht : t < 8) (hX : XT G X lo h0 c (ma S 1) t a p) {W : Int64} (hW : Bd W 200000) {n N kk j0 il : Nat} (hn : n ≤ 8) (hkk : kk < 3) (hN : j0 + n ≤ N) (hN10 : N ≤ 10) (hLd : Laid c S t a N) (hil : il = if valF (ma S 1) t 3 ≤ 0 then 22 else 11) : ∀ (r l m : Nat) (c1 : CS), l + r = n → r < m → FrX PW c c1 → (∀ k, (k = 1 ∨ (k = 2 ∧ il = 22)) → ∀ j, j + (l + 1) ≤ n → xj c1 89 (11 * k + 1 + j) = (vB S t W l (paK S t (stZ (ma S 1) t k) (j + 1))).1) → (1 ≤ l → xl c1 52 = (vB S t W l (paK S t (stZ (ma S 1) t kk) (j0 + n - l))).2.1 ∧ xl c1 61 = (vB S t W l (paK S t (stZ (ma S 1) t kk) (j0 + n - l))).2.2) →
    ∃ c' : CS, F_X5_weigh_49 G m (encX G X c1 h0) nx (X + 51) (nI t) (nI (11 * kk + j0)) (nI n) (some p) W (nI il) (vB S t W l (paK S t (stZ (ma S 1) t kk) (j0 + n - l))).1 (nI (l + 1)) = some ((), encX G X c' h0, nx) ∧ FrX PW c c' ∧ (1 ≤ n → xl c' 52 = (vB S t W n (paK S t (stZ (ma S 1) t kk) j0)).2.1 ∧ xl c' 61 = (vB S t W n (paK S t (stZ (ma S 1) t kk) j0)).2.2) := by
  have hs := hX.2.2.2.2.2.1
  obtain ⟨_, _, _, e2⟩ := val_V hX (w := 2) (by omega)
  obtain ⟨_, _, _, e3⟩ := val_V hX (w := 3) (by omega)
  have ck7 : ∀ (c2 : CS) {β : Type} {f : Nat → Option β}, ck (encX G X c2 h0) p [7] f = f 7 := fun c2 => x_ck7 (hs c2)
  have el : ∀ (c2 : CS), F_X7_lookCost G (encX G X c2 h0) nx p = some (1000 * (valF (ma S 1) t 2).toInt64, encX G X c2 h0, nx) := fun c2 => by rw [e2]; exact x_lookCost (hs c2)
  have em : ∀ (c2 : CS), F_X7_mendCost G (encX G X c2 h0) nx p = some (1000 * (valF (ma S 1) t 3).toInt64, encX G X c2 h0, nx) := fun c2 => by rw [e3]; exact x_mendCost (hs c2)
  intro r
  induction r with
  | zero =>
    intro l m c1 hl hm hF h1 h2
    obtain ⟨m, rfl⟩ : ∃ q, m = q + 1 := ⟨m - 1, by omega⟩
    obtain rfl : l = n := by omega
    rw [Nat.add_sub_cancel] at h2 ⊢
    refine ⟨c1, ?_, hF, h2⟩
    rw [F_X5_weigh_49_s]
    simp (maxSteps := 3000000) (disch := omega) only [cl_some, nm_b, nn_some, qn_some, qn_none, zk_0, zk_1, zk_n0, zk_n1, nI_add, pk_mul, pk_sub, nI_leE, nI_ltE, nI_eqE, nI_lt0, nI_ge0, nI_eq0, nI_gt0, nI_le0, ilt_t, ilt_f, ile_t, ile_f, ieq_t, ieq_f, if_tt, if_ff, Nat.add_sub_cancel]
  | succ r ih =>
    intro l m c1 hl hm hF h1 h2
    obtain ⟨m, rfl⟩ : ∃ q, m = q + 1 := ⟨m - 1, by omega⟩
    -- what comes behind
    have bw : xj c1 89 12 = (vB S t W l (rowSt S t 1)).1 := by rw [rowSt_1]; exact h1 1 (Or.inl rfl) 0 (by omega)
    have bi : xj c1 89 (il + 1) = (vB S t W l (rowSt S t 2)).1 := by
      by_cases cm : valF (ma S 1) t 3 ≤ 0
      · rw [if_pos cm] at hil
        subst hil
        have e : rowSt S t 2 = paK S t (stZ (ma S 1) t 2) 1 := rowSt_2n cm
        rw [e]
        exact h1 2 (Or.inr ⟨rfl, rfl⟩) 0 (by omega)
      · rw [if_neg cm] at hil
        subst hil
        have e : rowSt S t 2 = rowSt S t 1 := rowSt_2p cm
        rw [e]
        exact bw
    have il2 : il = 11 ∨ il = 22 := by rw [hil]; split; exact Or.inr rfl; exact Or.inl rfl
    -- the place now
    have hLi := hLd kk hkk (j0 + n - (l + 1)) (by omega)
    have z0 : KdV (stZ (ma S 1) t kk) := by
      obtain ⟨_, _, _, _, _, _, _, _, _, _, ⟨_, ⟨k, hk, ek⟩, ⟨d, hd, ed⟩, _⟩⟩ := hX
      unfold stZ
      by_cases q0 : kk = 0
      · rw [if_pos q0]; exact ⟨k, d, hk, hd, by rw [ek, ed]⟩
      · rw [if_neg q0]
        split
        · exact ⟨1000000, 0, by omega, by omega, rfl⟩
        · exact ⟨0, 0, by omega, by omega, rfl⟩
    have hz := paK_V hX z0 (j0 + n - (l + 1))
    have hnext : paK S t (stZ (ma S 1) t kk) (j0 + n - l) = (overF S t (paK S t (stZ (ma S 1) t kk) (j0 + n - (l + 1))).1 (paK S t (stZ (ma S 1) t kk) (j0 + n - (l + 1))).2, laterF (paK S t (stZ (ma S 1) t kk) (j0 + n - (l + 1))).2) := by
      rw [show j0 + n - l = j0 + n - (l + 1) + 1 by omega]
      rfl
    have ev : vB S t W (l + 1) (paK S t (stZ (ma S 1) t kk) (j0 + n - (l + 1))) = (mxJ ((brI (ma S 1) a (paK S t (stZ (ma S 1) t kk) (j0 + n - (l + 1))).1).toInt64 + W + (vB S t W l (paK S t (stZ (ma S 1) t kk) (j0 + n - l))).1) ((brI (ma S 1) a (paK S t (stZ (ma S 1) t kk) (j0 + n - (l + 1))).1).toInt64 - 1000 * (valF (ma S 1) t 2).toInt64 + ((paK S t (stZ (ma S 1) t kk) (j0 + n - (l + 1))).1.toInt64 * (vB S t W l (rowSt S t 1)).1 + (nI 1000000 - (paK S t (stZ (ma S 1) t kk) (j0 + n - (l + 1))).1).toInt64 * ((vB S t W l (rowSt S t 2)).1 - 1000 * (valF (ma S 1) t 3).toInt64)) / 1000000), (brI (ma S 1) a (paK S t (stZ (ma S 1) t kk) (j0 + n - (l + 1))).1).toInt64 + W + (vB S t W l (paK S t (stZ (ma S 1) t kk) (j0 + n - l))).1, (brI (ma S 1) a (paK S t (stZ (ma S 1) t kk) (j0 + n - (l + 1))).1).toInt64 - 1000 * (valF (ma S 1) t 2).toInt64 + ((paK S t (stZ (ma S 1) t kk) (j0 + n - (l + 1))).1.toInt64 * (vB S t W l (rowSt S t 1)).1 + (nI 1000000 - (paK S t (stZ (ma S 1) t kk) (j0 + n - (l + 1))).1).toInt64 * ((vB S t W l (rowSt S t 2)).1 - 1000 * (valF (ma S 1) t 3).toInt64)) / 1000000) := by
      rw [hnext]
      obtain ⟨k, d, hk, hd, ez⟩ := hz
      rw [ez]
      obtain ⟨eb, _⟩ := br_ovI hX hk
      rw [mxJ_le, show brI (ma S 1) a ((nI k, nI d) : Int32 × Int32).1 = brI (ma S 1) a (nI k) from rfl, eb, Int64.add_comm (brF (ma S 1) t (nI k)) W]
      rfl
    generalize hzz : paK S t (stZ (ma S 1) t kk) (j0 + n - (l + 1)) = zz at *
    have q1 : xa c1 (53 + t) (11 * kk + j0 + n - (l + 1)) = zz.1 := by
      rw [hF.a (53 + t) (by unfold PW; omega), show 11 * kk + j0 + n - (l + 1) = 11 * kk + (j0 + n - (l + 1)) by omega]; exact hLi.1
    have q3 : xa c1 (71 + t) (11 * kk + j0 + n - (l + 1)) = brI (ma S 1) a zz.1 := by
      rw [hF.a (71 + t) (by unfold PW; omega), show 11 * kk + j0 + n - (l + 1) = 11 * kk + (j0 + n - (l + 1)) by omega]; exact hLi.2.2
    obtain ⟨A1, hA1⟩ : ∃ x : Int64, x = (brI (ma S 1) a zz.1).toInt64 + W + (vB S t W l (paK S t (stZ (ma S 1) t kk) (j0 + n - l))).1 := ⟨_, rfl⟩
    obtain ⟨A2, hA2⟩ : ∃ x : Int64, x = (brI (ma S 1) a zz.1).toInt64 - 1000 * (valF (ma S 1) t 2).toInt64 + (zz.1.toInt64 * (vB S t W l (rowSt S t 1)).1 + (nI 1000000 - zz.1).toInt64 * ((vB S t W l (rowSt S t 2)).1 - 1000 * (valF (ma S 1) t 3).toInt64)) / 1000000 := ⟨_, rfl⟩
    rw [← hA1, ← hA2] at ev
    let c2 : CS := xsl (xsl c1 52 A1) 61 A2
    have f2 : FrX PW c c2 := (hF.trans (FrX.sl (P := PW) (Or.inr (Or.inl rfl))) (fun _ z => z) (fun _ z => z)).trans (FrX.sl (P := PW) (Or.inr (Or.inr rfl))) (fun _ z => z) (fun _ z => z)
    have w58 : xl c2 52 = A1 := (xl_xsl_n (c := xsl c1 52 A1) (k := 61) (j := 52) (by decide)).trans xl_xsl_s
    have w59 : xl c2 61 = A2 := xl_xsl_s
    have cs : xsj c2 89 (xj c1 89) = c2 := xsj_self (c := c2) (k := 89)
    have h1' := h1 1 (Or.inl rfl)
    -- first path
    obtain ⟨g1, r1, s1, t1⟩ := x_w178 (nx := nx) ht hX hW (n := n) (l := l + 1) (N := N) (kk := 1) (fr := nI (11 * kk + j0)) (ill := nI il) (ah := mxJ A1 A2) (by omega) (by omega) hn (Or.inl rfl) (by omega) hN10 hLd (k49 := F_X5_weigh_49 G m) (k165 := F_X5_weigh_165 G (F_X5_weigh_49 G m) 2047) f2 (n - (l + 1)) 0 fuelL (xj c1 89) (by omega) (by unfold fuelL; omega) (fun j hj => absurd hj (by omega)) (fun j _ hj => h1' j (by omega))
    rw [cs, Nat.add_sub_cancel] at r1
    -- the end of a day
    have fin : ∀ g : Nat → Int64, (∀ k, (k = 1 ∨ (k = 2 ∧ il = 22)) → ∀ j, j < n - (l + 1) → g (11 * k + 1 + j) = (vB S t W (l + 1) (paK S t (stZ (ma S 1) t k) (j + 1))).1) → ∃ c' : CS, F_X5_weigh_49 G m (encX G X (xsj c2 89 g) h0) nx (X + 51) (nI t) (nI (11 * kk + j0)) (nI n) (some p) W (nI il) (mxJ A1 A2) (nI (l + 1 + 1)) = some ((), encX G X c' h0, nx) ∧ FrX PW c c' ∧ (1 ≤ n → xl c' 52 = (vB S t W n (paK S t (stZ (ma S 1) t kk) j0)).2.1 ∧ xl c' 61 = (vB S t W n (paK S t (stZ (ma S 1) t kk) j0)).2.2) := by
      intro g hg
      have e1 : (vB S t W (l + 1) (paK S t (stZ (ma S 1) t kk) (j0 + n - (l + 1)))).1 = mxJ A1 A2 := by rw [hzz, ev]
      rw [← e1]
      refine ih (l + 1) m (xsj c2 89 g) (by omega) (by omega) (f2.trans (FrX.sj (P := PW) (Or.inl rfl)) (fun _ z => z) (fun _ z => z)) (fun k hk j hj => ?_) (fun _ => ?_)
      · rw [xj_xsj_s]
        exact hg k hk j (by omega)
      · rw [hzz, ev, xl_xsj, w58, w59]
        exact ⟨rfl, rfl⟩
    rcases il2 with e | e
    · subst e
      have bi' : xj c1 89 12 = (vB S t W l (rowSt S t 2)).1 := bi
      have bi2 : (vB S t W l (rowSt S t 1)).1 = (vB S t W l (rowSt S t 2)).1 := bw.symm.trans bi'
      obtain ⟨c', r3, r4⟩ := fin g1 (fun k hk j hj => by
        rcases hk with rfl | ⟨_, q⟩
        · exact s1 j hj
        · exact absurd q (by decide))
      refine ⟨c', ?_, r4⟩
      rw [F_X5_weigh_49_s]
      rw [bi2] at hA2
      simp (maxSteps := 3000000) (disch := omega) only [bw, bi2, ck7, em, el, q1, q3, x_bothWays, xi_xsi_s, xi_xsi_n, xl_xsi, xa_xsi, xj_xsi, xr_xsi, xsi_xsi, xi_xsl, xl_xsl_s, xl_xsl_n, xa_xsl, xj_xsl, xr_xsl, xsl_xsl, xi_xsa, xl_xsa, xa_xsa_s, xa_xsa_n, xj_xsa, xr_xsa, xsa_xsa, xi_xsj, xl_xsj, xa_xsj, xj_xsj_s, xj_xsj_n, xr_xsj, xsj_xsj, xi_xsr, xl_xsr, xa_xsr, xj_xsr, xr_xsr_s, xr_xsr_n, xsr_xsr, xk_0, xg_0_0, xg_0_1, xg_0_2, xp_0_2, xg_0_3, xg_0_4, xg_0_5, xg_0_6, xk_1, xg_1_0, xg_1_1, xp_1_1, xg_1_2, xg_1_3, xp_1_3, xg_1_4, xg_1_5, xg_1_6, xg_1_7, xg_1_8, xg_1_9, xg_1_10, xg_1_11, xp_1_11, xg_1_12, xg_1_13, xg_1_14, xg_1_15, xp_1_15, xg_1_16, xp_1_16, xg_1_17, xp_1_17, xk_26, xg_26_0, xg_26_1, xp_26_1, xg_26_2, xg_26_3, xp_26_3, xg_26_4, xg_26_5, xg_26_6, xg_26_7, xg_26_8, xg_26_9, xg_26_10, xg_26_11, xp_26_11, xg_26_12, xg_26_13, xg_26_14, xg_26_15, xp_26_15, xg_26_16, xp_26_16, xg_26_17, xp_26_17, xk_51, xg_51_0, xg_51_1, xg_51_2, xg_51_3, xg_51_4, xg_51_5, xg_51_6, xg_51_7, xp_51_7, xg_51_8, xp_51_8, xk_90, xg_90_0, xg_90_1, xg_90_2, xg_90_3, xp_90_3, xg_90_4, xg_90_5, xp_90_5, xg_90_6, xg_90_7, xp_90_7, xg_90_8, xp_90_8, xg_90_9, xp_90_9, xg_90_10, xas_2, xal_2, xal_3, xas_4, xal_4, xln_4, xas_5, xal_5, xln_5, xas_6, xal_6, xln_6, xas_7, xal_7, xln_7, xas_8, xal_8, xln_8, xas_9, xal_9, xln_9, xas0_10, xas1_10, xasb_10, xal_10, xal_11, xas_12, xal_12, xln_12, xas_27, xal_27, xal_28, xas_29, xal_29, xln_29, xas_30, xal_30, xln_30, xas_31, xal_31, xln_31, xas_32, xal_32, xln_32, xas_33, xal_33, xln_33, xas_34, xal_34, xln_34, xas0_35, xas1_35, xasb_35, xal_35, xal_36, xas_37, xal_37, xln_37, xas_88, xal_88, xln_88, xal_89, xas_89, xln_89, xas_103, xal_103, xln_103, xas_104, xal_104, xln_104, xas_105, xal_105, xln_105, xas_106, xal_106, xln_106, xas_107, xal_107, xln_107, xal_13, xal_in14, xas_in14, xln_in14, xal_38, xal_in39, xas_in39, xln_in39, xal_52, xal_in53, xas_in53, xln_in53, xal_61, xal_in62, xas_in62, xln_in62, xal_70, xal_in71, xas_in71, xln_in71, xal_79, xal_in80, xas_in80, xln_in80, xal_91, xal_in92, xas_in92, xln_in92, cl_some, nm_b, nn_some, qn_some, qn_none, zk_0, zk_1, zk_n0, zk_n1, nI_add, pk_mul, pk_sub, nI_leE, nI_ltE, nI_eqE, nI_lt0, nI_ge0, nI_eq0, nI_gt0, nI_le0, ilt_t, ilt_f, ile_t, ile_f, ieq_t, ieq_f, if_tt, if_ff, Nat.add_sub_cancel]
      rw [← hA1, ← hA2]
      rw [bi2] at r1
      show F_X5_weigh_165 G (F_X5_weigh_49 G m) (2047 + 1) (encX G X c2 h0) nx (X + 51) (nI t) (nI (11 * kk + j0)) (nI n) (some p) W (nI 11) (mxJ A1 A2) (nI (l + 1)) _ _ (nI 11) = _
      rw [F_X5_weigh_165_s]
      simp (maxSteps := 3000000) (disch := omega) only [cl_some, nm_b, nn_some, qn_some, qn_none, zk_0, zk_1, zk_n0, zk_n1, nI_add, pk_mul, pk_sub, nI_leE, nI_ltE, nI_eqE, nI_lt0, nI_ge0, nI_eq0, nI_gt0, nI_le0, ilt_t, ilt_f, ile_t, ile_f, ieq_t, ieq_f, if_tt, if_ff, Nat.add_sub_cancel]
      refine r1.trans ?_
      rw [show (2047 : Nat) = 2046 + 1 from rfl, F_X5_weigh_165_s]
      simp (maxSteps := 3000000) (disch := omega) only [cl_some, nm_b, nn_some, qn_some, qn_none, zk_0, zk_1, zk_n0, zk_n1, nI_add, pk_mul, pk_sub, nI_leE, nI_ltE, nI_eqE, nI_lt0, nI_ge0, nI_eq0, nI_gt0, nI_le0, ilt_t, ilt_f, ile_t, ile_f, ieq_t, ieq_f, if_tt, if_ff, Nat.add_sub_cancel]
      exact r3
    · subst e
      have bi' : xj c1 89 23 = (vB S t W l (rowSt S t 2)).1 := bi
      obtain ⟨g2, u1, u2, u3⟩ := x_w178 (nx := nx) ht hX hW (n := n) (l := l + 1) (N := N) (kk := 2) (fr := nI (11 * kk + j0)) (ill := nI 22) (ah := mxJ A1 A2) (by omega) (by omega) hn (Or.inr rfl) (by omega) hN10 hLd (k49 := F_X5_weigh_49 G m) (k165 := F_X5_weigh_165 G (F_X5_weigh_49 G m) 2046) f2 (n - (l + 1)) 0 fuelL g1 (by omega) (by unfold fuelL; omega) (fun j hj => absurd hj (by omega)) (fun j _ hj => (t1 _ (by omega)).trans (h1 2 (Or.inr ⟨rfl, rfl⟩) j (by omega)))
      rw [Nat.add_sub_cancel] at u1
      obtain ⟨c', r3, r4⟩ := fin g2 (fun k hk j hj => by
        rcases hk with rfl | ⟨rfl, _⟩
        · exact (u3 _ (by omega)).trans (s1 j hj)
        · exact u2 j hj)
      refine ⟨c', ?_, r4⟩
      rw [F_X5_weigh_49_s]
      simp (maxSteps := 3000000) (disch := omega) only [bw, bi', ck7, em, el, q1, q3, x_bothWays, xi_xsi_s, xi_xsi_n, xl_xsi, xa_xsi, xj_xsi, xr_xsi, xsi_xsi, xi_xsl, xl_xsl_s, xl_xsl_n, xa_xsl, xj_xsl, xr_xsl, xsl_xsl, xi_xsa, xl_xsa, xa_xsa_s, xa_xsa_n, xj_xsa, xr_xsa, xsa_xsa, xi_xsj, xl_xsj, xa_xsj, xj_xsj_s, xj_xsj_n, xr_xsj, xsj_xsj, xi_xsr, xl_xsr, xa_xsr, xj_xsr, xr_xsr_s, xr_xsr_n, xsr_xsr, xk_0, xg_0_0, xg_0_1, xg_0_2, xp_0_2, xg_0_3, xg_0_4, xg_0_5, xg_0_6, xk_1, xg_1_0, xg_1_1, xp_1_1, xg_1_2, xg_1_3, xp_1_3, xg_1_4, xg_1_5, xg_1_6, xg_1_7, xg_1_8, xg_1_9, xg_1_10, xg_1_11, xp_1_11, xg_1_12, xg_1_13, xg_1_14, xg_1_15, xp_1_15, xg_1_16, xp_1_16, xg_1_17, xp_1_17, xk_26, xg_26_0, xg_26_1, xp_26_1, xg_26_2, xg_26_3, xp_26_3, xg_26_4, xg_26_5, xg_26_6, xg_26_7, xg_26_8, xg_26_9, xg_26_10, xg_26_11, xp_26_11, xg_26_12, xg_26_13, xg_26_14, xg_26_15, xp_26_15, xg_26_16, xp_26_16, xg_26_17, xp_26_17, xk_51, xg_51_0, xg_51_1, xg_51_2, xg_51_3, xg_51_4, xg_51_5, xg_51_6, xg_51_7, xp_51_7, xg_51_8, xp_51_8, xk_90, xg_90_0, xg_90_1, xg_90_2, xg_90_3, xp_90_3, xg_90_4, xg_90_5, xp_90_5, xg_90_6, xg_90_7, xp_90_7, xg_90_8, xp_90_8, xg_90_9, xp_90_9, xg_90_10, xas_2, xal_2, xal_3, xas_4, xal_4, xln_4, xas_5, xal_5, xln_5, xas_6, xal_6, xln_6, xas_7, xal_7, xln_7, xas_8, xal_8, xln_8, xas_9, xal_9, xln_9, xas0_10, xas1_10, xasb_10, xal_10, xal_11, xas_12, xal_12, xln_12, xas_27, xal_27, xal_28, xas_29, xal_29, xln_29, xas_30, xal_30, xln_30, xas_31, xal_31, xln_31, xas_32, xal_32, xln_32, xas_33, xal_33, xln_33, xas_34, xal_34, xln_34, xas0_35, xas1_35, xasb_35, xal_35, xal_36, xas_37, xal_37, xln_37, xas_88, xal_88, xln_88, xal_89, xas_89, xln_89, xas_103, xal_103, xln_103, xas_104, xal_104, xln_104, xas_105, xal_105, xln_105, xas_106, xal_106, xln_106, xas_107, xal_107, xln_107, xal_13, xal_in14, xas_in14, xln_in14, xal_38, xal_in39, xas_in39, xln_in39, xal_52, xal_in53, xas_in53, xln_in53, xal_61, xal_in62, xas_in62, xln_in62, xal_70, xal_in71, xas_in71, xln_in71, xal_79, xal_in80, xas_in80, xln_in80, xal_91, xal_in92, xas_in92, xln_in92, cl_some, nm_b, nn_some, qn_some, qn_none, zk_0, zk_1, zk_n0, zk_n1, nI_add, pk_mul, pk_sub, nI_leE, nI_ltE, nI_eqE, nI_lt0, nI_ge0, nI_eq0, nI_gt0, nI_le0, ilt_t, ilt_f, ile_t, ile_f, ieq_t, ieq_f, if_tt, if_ff, Nat.add_sub_cancel]
      rw [← hA1, ← hA2]
      show F_X5_weigh_165 G (F_X5_weigh_49 G m) (2047 + 1) (encX G X c2 h0) nx (X + 51) (nI t) (nI (11 * kk + j0)) (nI n) (some p) W (nI 22) (mxJ A1 A2) (nI (l + 1)) _ _ (nI 11) = _
      rw [F_X5_weigh_165_s]
      simp (maxSteps := 3000000) (disch := omega) only [cl_some, nm_b, nn_some, qn_some, qn_none, zk_0, zk_1, zk_n0, zk_n1, nI_add, pk_mul, pk_sub, nI_leE, nI_ltE, nI_eqE, nI_lt0, nI_ge0, nI_eq0, nI_gt0, nI_le0, ilt_t, ilt_f, ile_t, ile_f, ieq_t, ieq_f, if_tt, if_ff, Nat.add_sub_cancel]
      refine r1.trans ?_
      rw [show (2047 : Nat) = 2046 + 1 from rfl, F_X5_weigh_165_s]
      simp (maxSteps := 3000000) (disch := omega) only [cl_some, nm_b, nn_some, qn_some, qn_none, zk_0, zk_1, zk_n0, zk_n1, nI_add, pk_mul, pk_sub, nI_leE, nI_ltE, nI_eqE, nI_lt0, nI_ge0, nI_eq0, nI_gt0, nI_le0, ilt_t, ilt_f, ile_t, ile_f, ieq_t, ieq_f, if_tt, if_ff, Nat.add_sub_cancel]
      refine u1.trans ?_
      rw [show (2046 : Nat) = 2045 + 1 from rfl, F_X5_weigh_165_s]
      simp (maxSteps := 3000000) (disch := omega) only [cl_some, nm_b, nn_some, qn_some, qn_none, zk_0, zk_1, zk_n0, zk_n1, nI_add, pk_mul, pk_sub, nI_leE, nI_ltE, nI_eqE, nI_lt0, nI_ge0, nI_eq0, nI_gt0, nI_le0, ilt_t, ilt_f, ile_t, ile_f, ieq_t, ieq_f, if_tt, if_ff, Nat.add_sub_cancel]
      exact r3
set_option maxRecDepth 100000 in
set_option maxHeartbeats 1000000 in
theorem x_fillJ {v : Int64} : ∀ (r i m : Nat) (g : Nat → Int64), i + r = 33 → r < m → (∀ j, j < i → g j = v) → ∃ g' : Nat → Int64, F_J7_fill_d0a16_6 G m (encX G X (xsj c 89 g) h0) nx (X + 89) v (nI i) (nI 33) = some ((), encX G X (xsj c 89 g') h0, nx) ∧ ∀ j, j < 33 → g' j = v := by
  intro r
  induction r with
  | zero =>
    intro i m g hi hm hg
    obtain ⟨m, rfl⟩ : ∃ q, m = q + 1 := ⟨m - 1, by omega⟩
    refine ⟨g, ?_, fun j hj => hg j (by omega)⟩
    rw [F_J7_fill_d0a16_6_s]
    simp (maxSteps := 3000000) (disch := omega) only [cl_some, nm_b, nn_some, qn_some, qn_none, zk_0, zk_1, zk_n0, zk_n1, nI_add, pk_mul, pk_sub, nI_leE, nI_ltE, nI_eqE, nI_lt0, nI_ge0, nI_eq0, nI_gt0, nI_le0, ilt_t, ilt_f, ile_t, ile_f, ieq_t, ieq_f, if_tt, if_ff, Nat.add_sub_cancel]
  | succ r ih =>
    intro i m g hi hm hg
    obtain ⟨m, rfl⟩ : ∃ q, m = q + 1 := ⟨m - 1, by omega⟩
    obtain ⟨g', r1, r2⟩ := ih (i + 1) m (upK g i v) (by omega) (by omega) (fun j hj => by
      by_cases e : j = i
      · subst e; exact upK_s
      · rw [upK_n e]; exact hg j (by omega))
    refine ⟨g', ?_, r2⟩
    rw [F_J7_fill_d0a16_6_s]
    simp (maxSteps := 3000000) (disch := omega) only [xi_xsi_s, xi_xsi_n, xl_xsi, xa_xsi, xj_xsi, xr_xsi, xsi_xsi, xi_xsl, xl_xsl_s, xl_xsl_n, xa_xsl, xj_xsl, xr_xsl, xsl_xsl, xi_xsa, xl_xsa, xa_xsa_s, xa_xsa_n, xj_xsa, xr_xsa, xsa_xsa, xi_xsj, xl_xsj, xa_xsj, xj_xsj_s, xj_xsj_n, xr_xsj, xsj_xsj, xi_xsr, xl_xsr, xa_xsr, xj_xsr, xr_xsr_s, xr_xsr_n, xsr_xsr, xk_0, xg_0_0, xg_0_1, xg_0_2, xp_0_2, xg_0_3, xg_0_4, xg_0_5, xg_0_6, xk_1, xg_1_0, xg_1_1, xp_1_1, xg_1_2, xg_1_3, xp_1_3, xg_1_4, xg_1_5, xg_1_6, xg_1_7, xg_1_8, xg_1_9, xg_1_10, xg_1_11, xp_1_11, xg_1_12, xg_1_13, xg_1_14, xg_1_15, xp_1_15, xg_1_16, xp_1_16, xg_1_17, xp_1_17, xk_26, xg_26_0, xg_26_1, xp_26_1, xg_26_2, xg_26_3, xp_26_3, xg_26_4, xg_26_5, xg_26_6, xg_26_7, xg_26_8, xg_26_9, xg_26_10, xg_26_11, xp_26_11, xg_26_12, xg_26_13, xg_26_14, xg_26_15, xp_26_15, xg_26_16, xp_26_16, xg_26_17, xp_26_17, xk_51, xg_51_0, xg_51_1, xg_51_2, xg_51_3, xg_51_4, xg_51_5, xg_51_6, xg_51_7, xp_51_7, xg_51_8, xp_51_8, xk_90, xg_90_0, xg_90_1, xg_90_2, xg_90_3, xp_90_3, xg_90_4, xg_90_5, xp_90_5, xg_90_6, xg_90_7, xp_90_7, xg_90_8, xp_90_8, xg_90_9, xp_90_9, xg_90_10, xas_2, xal_2, xal_3, xas_4, xal_4, xln_4, xas_5, xal_5, xln_5, xas_6, xal_6, xln_6, xas_7, xal_7, xln_7, xas_8, xal_8, xln_8, xas_9, xal_9, xln_9, xas0_10, xas1_10, xasb_10, xal_10, xal_11, xas_12, xal_12, xln_12, xas_27, xal_27, xal_28, xas_29, xal_29, xln_29, xas_30, xal_30, xln_30, xas_31, xal_31, xln_31, xas_32, xal_32, xln_32, xas_33, xal_33, xln_33, xas_34, xal_34, xln_34, xas0_35, xas1_35, xasb_35, xal_35, xal_36, xas_37, xal_37, xln_37, xas_88, xal_88, xln_88, xal_89, xas_89, xln_89, xas_103, xal_103, xln_103, xas_104, xal_104, xln_104, xas_105, xal_105, xln_105, xas_106, xal_106, xln_106, xas_107, xal_107, xln_107, xal_13, xal_in14, xas_in14, xln_in14, xal_38, xal_in39, xas_in39, xln_in39, xal_52, xal_in53, xas_in53, xln_in53, xal_61, xal_in62, xas_in62, xln_in62, xal_70, xal_in71, xas_in71, xln_in71, xal_79, xal_in80, xas_in80, xln_in80, xal_91, xal_in92, xas_in92, xln_in92, cl_some, nm_b, nn_some, qn_some, qn_none, zk_0, zk_1, zk_n0, zk_n1, nI_add, pk_mul, pk_sub, nI_leE, nI_ltE, nI_eqE, nI_lt0, nI_ge0, nI_eq0, nI_gt0, nI_le0, ilt_t, ilt_f, ile_t, ile_f, ieq_t, ieq_f, if_tt, if_ff, Nat.add_sub_cancel]
    exact r1
theorem x_fillR {v : Int64} : ∃ g' : Nat → Int64, F_J7_fill_d0a16 G (encX G X c h0) nx (X + 89) v = some ((), encX G X (xsj c 89 g') h0, nx) ∧ ∀ j, j < 33 → g' j = v := by
  obtain ⟨g', r1, r2⟩ := x_fillJ (G := G) (X := X) (nx := nx) (h0 := h0) (c := c) (v := v) 33 0 fuelL (xj c 89) (by omega) (by unfold fuelL; omega) (fun j hj => absurd hj (by omega))
  refine ⟨g', ?_, r2⟩
  unfold F_J7_fill_d0a16
  rw [xsj_self] at r1
  simp (maxSteps := 3000000) (disch := omega) only [xi_xsi_s, xi_xsi_n, xl_xsi, xa_xsi, xj_xsi, xr_xsi, xsi_xsi, xi_xsl, xl_xsl_s, xl_xsl_n, xa_xsl, xj_xsl, xr_xsl, xsl_xsl, xi_xsa, xl_xsa, xa_xsa_s, xa_xsa_n, xj_xsa, xr_xsa, xsa_xsa, xi_xsj, xl_xsj, xa_xsj, xj_xsj_s, xj_xsj_n, xr_xsj, xsj_xsj, xi_xsr, xl_xsr, xa_xsr, xj_xsr, xr_xsr_s, xr_xsr_n, xsr_xsr, xk_0, xg_0_0, xg_0_1, xg_0_2, xp_0_2, xg_0_3, xg_0_4, xg_0_5, xg_0_6, xk_1, xg_1_0, xg_1_1, xp_1_1, xg_1_2, xg_1_3, xp_1_3, xg_1_4, xg_1_5, xg_1_6, xg_1_7, xg_1_8, xg_1_9, xg_1_10, xg_1_11, xp_1_11, xg_1_12, xg_1_13, xg_1_14, xg_1_15, xp_1_15, xg_1_16, xp_1_16, xg_1_17, xp_1_17, xk_26, xg_26_0, xg_26_1, xp_26_1, xg_26_2, xg_26_3, xp_26_3, xg_26_4, xg_26_5, xg_26_6, xg_26_7, xg_26_8, xg_26_9, xg_26_10, xg_26_11, xp_26_11, xg_26_12, xg_26_13, xg_26_14, xg_26_15, xp_26_15, xg_26_16, xp_26_16, xg_26_17, xp_26_17, xk_51, xg_51_0, xg_51_1, xg_51_2, xg_51_3, xg_51_4, xg_51_5, xg_51_6, xg_51_7, xp_51_7, xg_51_8, xp_51_8, xk_90, xg_90_0, xg_90_1, xg_90_2, xg_90_3, xp_90_3, xg_90_4, xg_90_5, xp_90_5, xg_90_6, xg_90_7, xp_90_7, xg_90_8, xp_90_8, xg_90_9, xp_90_9, xg_90_10, xas_2, xal_2, xal_3, xas_4, xal_4, xln_4, xas_5, xal_5, xln_5, xas_6, xal_6, xln_6, xas_7, xal_7, xln_7, xas_8, xal_8, xln_8, xas_9, xal_9, xln_9, xas0_10, xas1_10, xasb_10, xal_10, xal_11, xas_12, xal_12, xln_12, xas_27, xal_27, xal_28, xas_29, xal_29, xln_29, xas_30, xal_30, xln_30, xas_31, xal_31, xln_31, xas_32, xal_32, xln_32, xas_33, xal_33, xln_33, xas_34, xal_34, xln_34, xas0_35, xas1_35, xasb_35, xal_35, xal_36, xas_37, xal_37, xln_37, xas_88, xal_88, xln_88, xal_89, xas_89, xln_89, xas_103, xal_103, xln_103, xas_104, xal_104, xln_104, xas_105, xal_105, xln_105, xas_106, xal_106, xln_106, xas_107, xal_107, xln_107, xal_13, xal_in14, xas_in14, xln_in14, xal_38, xal_in39, xas_in39, xln_in39, xal_52, xal_in53, xas_in53, xln_in53, xal_61, xal_in62, xas_in62, xln_in62, xal_70, xal_in71, xas_in71, xln_in71, xal_79, xal_in80, xas_in80, xln_in80, xal_91, xal_in92, xas_in92, xln_in92, cl_some, nm_b, nn_some, qn_some, qn_none, zk_0, zk_1, zk_n0, zk_n1, nI_add, pk_mul, pk_sub, nI_leE, nI_ltE, nI_eqE, nI_lt0, nI_ge0, nI_eq0, nI_gt0, nI_le0, ilt_t, ilt_f, ile_t, ile_f, ieq_t, ieq_f, if_tt, if_ff, Nat.add_sub_cancel]
  exact r1
set_option maxRecDepth 100000 in
set_option maxHeartbeats 1000000 in
theorem x_weigh (ht : t < 8) (hX : XT G X lo h0 c (ma S 1) t a p) {n N kk j0 : Nat} {w : Nat} (hw : w ≤ 200) (hn : n ≤ 8) (hkk : kk < 3) (hN : j0 + n ≤ N) (hN10 : N ≤ 10) (hLd : Laid c S t a N) : ∃ c' : CS, F_X5_weigh G (encX G X c h0) nx (X + 51) (nI t) (nI (11 * kk + j0)) (nI w) (nI n) = some ((), encX G X c' h0, nx) ∧ FrX PW c c' ∧ (1 ≤ n → xl c' 52 = (vB S t (1000 * (nI w).toInt64) n (paK S t (stZ (ma S 1) t kk) j0)).2.1 ∧ xl c' 61 = (vB S t (1000 * (nI w).toInt64) n (paK S t (stZ (ma S 1) t kk) j0)).2.2) := by
  have hs := hX.2.2.2.2.2.1
  obtain ⟨_, _, _, e3⟩ := val_V hX (w := 3) (by omega)
  have ck7 : ∀ (c2 : CS) {β : Type} {f : Nat → Option β}, ck (encX G X c2 h0) p [7] f = f 7 := fun c2 => x_ck7 (hs c2)
  have em : ∀ (c2 : CS), F_X7_mends G (encX G X c2 h0) nx p = some (if valF (ma S 1) t 3 ≤ 0 then nI 0 else nI 1, encX G X c2 h0, nx) := fun c2 => by rw [e3]; exact x_mends (hs c2)
  have es := x_sortAt (nx := nx) hX ht
  have hW : Bd (1000 * (nI w).toInt64) 200000 := by
    rw [nI_l (by omega), lN_1000, lN_mul]
    exact Bd.nI (by omega) (by decide)
  obtain ⟨g, eg, hg⟩ := x_fillR (G := G) (X := X) (nx := nx) (h0 := h0) (c := c) (v := 0)
  obtain ⟨c', r1, r2⟩ := x_w49 (nx := nx) ht hX hW (n := n) (N := N) (kk := kk) (j0 := j0) (il := if valF (ma S 1) t 3 ≤ 0 then 22 else 11) hn hkk hN hN10 hLd rfl n 0 fuelL (xsj c 89 g) (by omega) (by unfold fuelL; omega) (FrX.sj (P := PW) (Or.inl rfl)) (fun k hk j hj => by
    rw [xj_xsj_s]
    exact hg _ (by omega)) (fun q => absurd q (by decide))
  refine ⟨c', ?_, r2⟩
  have r1 : F_X5_weigh_49 G fuelL (encX G X (xsj c 89 g) h0) nx (X + 51) (nI t) (nI (11 * kk + j0)) (nI n) (some p) (1000 * (nI w).toInt64) (nI (if valF (ma S 1) t 3 ≤ 0 then 22 else 11)) 0 (nI 1) = _ := r1
  unfold F_X5_weigh F_X5_weigh_33
  simp (maxSteps := 3000000) (disch := omega) only [es, ck7, em, eg, xi_xsi_s, xi_xsi_n, xl_xsi, xa_xsi, xj_xsi, xr_xsi, xsi_xsi, xi_xsl, xl_xsl_s, xl_xsl_n, xa_xsl, xj_xsl, xr_xsl, xsl_xsl, xi_xsa, xl_xsa, xa_xsa_s, xa_xsa_n, xj_xsa, xr_xsa, xsa_xsa, xi_xsj, xl_xsj, xa_xsj, xj_xsj_s, xj_xsj_n, xr_xsj, xsj_xsj, xi_xsr, xl_xsr, xa_xsr, xj_xsr, xr_xsr_s, xr_xsr_n, xsr_xsr, xk_0, xg_0_0, xg_0_1, xg_0_2, xp_0_2, xg_0_3, xg_0_4, xg_0_5, xg_0_6, xk_1, xg_1_0, xg_1_1, xp_1_1, xg_1_2, xg_1_3, xp_1_3, xg_1_4, xg_1_5, xg_1_6, xg_1_7, xg_1_8, xg_1_9, xg_1_10, xg_1_11, xp_1_11, xg_1_12, xg_1_13, xg_1_14, xg_1_15, xp_1_15, xg_1_16, xp_1_16, xg_1_17, xp_1_17, xk_26, xg_26_0, xg_26_1, xp_26_1, xg_26_2, xg_26_3, xp_26_3, xg_26_4, xg_26_5, xg_26_6, xg_26_7, xg_26_8, xg_26_9, xg_26_10, xg_26_11, xp_26_11, xg_26_12, xg_26_13, xg_26_14, xg_26_15, xp_26_15, xg_26_16, xp_26_16, xg_26_17, xp_26_17, xk_51, xg_51_0, xg_51_1, xg_51_2, xg_51_3, xg_51_4, xg_51_5, xg_51_6, xg_51_7, xp_51_7, xg_51_8, xp_51_8, xk_90, xg_90_0, xg_90_1, xg_90_2, xg_90_3, xp_90_3, xg_90_4, xg_90_5, xp_90_5, xg_90_6, xg_90_7, xp_90_7, xg_90_8, xp_90_8, xg_90_9, xp_90_9, xg_90_10, xas_2, xal_2, xal_3, xas_4, xal_4, xln_4, xas_5, xal_5, xln_5, xas_6, xal_6, xln_6, xas_7, xal_7, xln_7, xas_8, xal_8, xln_8, xas_9, xal_9, xln_9, xas0_10, xas1_10, xasb_10, xal_10, xal_11, xas_12, xal_12, xln_12, xas_27, xal_27, xal_28, xas_29, xal_29, xln_29, xas_30, xal_30, xln_30, xas_31, xal_31, xln_31, xas_32, xal_32, xln_32, xas_33, xal_33, xln_33, xas_34, xal_34, xln_34, xas0_35, xas1_35, xasb_35, xal_35, xal_36, xas_37, xal_37, xln_37, xas_88, xal_88, xln_88, xal_89, xas_89, xln_89, xas_103, xal_103, xln_103, xas_104, xal_104, xln_104, xas_105, xal_105, xln_105, xas_106, xal_106, xln_106, xas_107, xal_107, xln_107, xal_13, xal_in14, xas_in14, xln_in14, xal_38, xal_in39, xas_in39, xln_in39, xal_52, xal_in53, xas_in53, xln_in53, xal_61, xal_in62, xas_in62, xln_in62, xal_70, xal_in71, xas_in71, xln_in71, xal_79, xal_in80, xas_in80, xln_in80, xal_91, xal_in92, xas_in92, xln_in92, cl_some, nm_b, nn_some, qn_some, qn_none, zk_0, zk_1, zk_n0, zk_n1, nI_add, pk_mul, pk_sub, nI_leE, nI_ltE, nI_eqE, nI_lt0, nI_ge0, nI_eq0, nI_gt0, nI_le0, ilt_t, ilt_f, ile_t, ile_f, ieq_t, ieq_f, if_tt, if_ff, Nat.add_sub_cancel]
  rw [Int64.mul_comm]
  by_cases cm : valF (ma S 1) t 3 ≤ 0
  · rw [if_pos cm] at r1 ⊢
    exact (if_pos rfl).trans r1
  · rw [if_neg cm] at r1 ⊢
    exact (if_neg (by decide)).trans r1
end XW
