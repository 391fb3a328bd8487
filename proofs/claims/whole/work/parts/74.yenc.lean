/-! THE CLASS: a SORT while it is read -/
abbrev YS : Type := (Nat → Int32) × (Nat → Nat → Int32)
def yi (y : YS) : Nat → Int32 := y.1
def ya (y : YS) : Nat → Nat → Int32 := y.2
def ysi (y : YS) (k : Nat) (x : Int32) : YS := (upK y.1 k x, y.2)
def ysa (y : YS) (k : Nat) (f : Nat → Int32) : YS := (y.1, upK y.2 k f)
theorem yi_ysi_s {y : YS} {k : Nat} {x : Int32} : yi (ysi y k x) k = x := upK_s
theorem yi_ysi_n {y : YS} {k j : Nat} {x : Int32} (h : j ≠ k) : yi (ysi y k x) j = yi y j := upK_n h
theorem ya_ysi {y : YS} {k : Nat} {x : Int32} : ya (ysi y k x) = ya y := rfl
theorem yi_ysa {y : YS} {k : Nat} {f : Nat → Int32} : yi (ysa y k f) = yi y := rfl
theorem ya_ysa_s {y : YS} {k : Nat} {f : Nat → Int32} : ya (ysa y k f) k = f := upK_s
theorem ya_ysa_n {y : YS} {k j : Nat} {f : Nat → Int32} (h : j ≠ k) : ya (ysa y k f) j = ya y j := upK_n h
theorem ysi_ysi {y : YS} {k : Nat} {x z : Int32} : ysi (ysi y k x) k z = ysi y k z := by
  unfold ysi
  rw [upK_upK]
theorem ysa_ysa {y : YS} {k : Nat} {f g : Nat → Int32} : ysa (ysa y k f) k g = ysa y k g := by
  unfold ysa
  rw [upK_upK]
theorem ysi_self {y : YS} {k : Nat} : ysi y k (yi y k) = y := by
  obtain ⟨a, b⟩ := y
  unfold ysi yi
  rw [upK_self]
def yFs (Y : Nat) (y : YS) : List Value := [.ref (Y + 1), .ref (Y + 6), .int (yi y 2), .int (yi y 3), .ref (Y + 2), .int (yi y 5), .ref (Y + 3), .ref (Y + 4), .ref (Y + 5), .int (yi y 9)]
def encY (G : Gx) (Y n : Nat) (y : YS) (h0 : Hp) : Hp := fun a => if a = Y then some (ob 7 (yFs Y y)) else if a = Y + 1 then some (aI G 6 (ya y 1)) else if a = Y + 2 then some (aI G 120 (ya y 2)) else if a = Y + 3 then some (aI G 10 (ya y 3)) else if a = Y + 4 then some (aI G 10 (ya y 4)) else if a = Y + 5 then some (aI G 10 (ya y 5)) else if a = Y + 6 then some (aB G n (ya y 6)) else h0 a
section YE
variable {G : Gx} {Y n : Nat} {y : YS} {h0 : Hp} {β : Type}
theorem encY_0 : encY G Y n y h0 Y = some (ob 7 (yFs Y y)) := if_pos rfl
theorem encY_out {a : Nat} (h : a < Y ∨ Y + 7 ≤ a) : encY G Y n y h0 a = h0 a := by
  unfold encY
  rw [if_neg (by omega), if_neg (by omega), if_neg (by omega), if_neg (by omega), if_neg (by omega), if_neg (by omega), if_neg (by omega)]
theorem encY_set0 {y' : YS} (h : y'.2 = y.2) : hset (encY G Y n y h0) Y (ob 7 (yFs Y y')) = encY G Y n y' h0 := by
  funext a
  unfold hset encY
  by_cases e : a = Y
  · rw [if_pos e, if_pos e]
  · rw [if_neg e, if_neg e, if_neg e]
    unfold ya
    rw [h]
theorem encY_1 : encY G Y n y h0 (Y + 1) = some (aI G 6 (ya y 1)) := by
  unfold encY
  rw [if_neg (by omega), if_pos rfl]
theorem encY_set1 {f : Nat → Int32} : hset (encY G Y n y h0) (Y + 1) (aI G 6 f) = encY G Y n (ysa y 1 f) h0 := by
  funext a
  unfold hset
  by_cases e : a = Y + 1
  · subst e
    rw [if_pos rfl, encY_1, ya_ysa_s]
  · rw [if_neg e]
    unfold encY yFs
    rw [yi_ysa]
    simp (disch := omega) only [ya_ysa_n, if_neg e]
theorem encY_2 : encY G Y n y h0 (Y + 2) = some (aI G 120 (ya y 2)) := by
  unfold encY
  rw [if_neg (by omega), if_neg (by omega), if_pos rfl]
theorem encY_set2 {f : Nat → Int32} : hset (encY G Y n y h0) (Y + 2) (aI G 120 f) = encY G Y n (ysa y 2 f) h0 := by
  funext a
  unfold hset
  by_cases e : a = Y + 2
  · subst e
    rw [if_pos rfl, encY_2, ya_ysa_s]
  · rw [if_neg e]
    unfold encY yFs
    rw [yi_ysa]
    simp (disch := omega) only [ya_ysa_n, if_neg e]
theorem encY_3 : encY G Y n y h0 (Y + 3) = some (aI G 10 (ya y 3)) := by
  unfold encY
  rw [if_neg (by omega), if_neg (by omega), if_neg (by omega), if_pos rfl]
theorem encY_set3 {f : Nat → Int32} : hset (encY G Y n y h0) (Y + 3) (aI G 10 f) = encY G Y n (ysa y 3 f) h0 := by
  funext a
  unfold hset
  by_cases e : a = Y + 3
  · subst e
    rw [if_pos rfl, encY_3, ya_ysa_s]
  · rw [if_neg e]
    unfold encY yFs
    rw [yi_ysa]
    simp (disch := omega) only [ya_ysa_n, if_neg e]
theorem encY_4 : encY G Y n y h0 (Y + 4) = some (aI G 10 (ya y 4)) := by
  unfold encY
  rw [if_neg (by omega), if_neg (by omega), if_neg (by omega), if_neg (by omega), if_pos rfl]
theorem encY_set4 {f : Nat → Int32} : hset (encY G Y n y h0) (Y + 4) (aI G 10 f) = encY G Y n (ysa y 4 f) h0 := by
  funext a
  unfold hset
  by_cases e : a = Y + 4
  · subst e
    rw [if_pos rfl, encY_4, ya_ysa_s]
  · rw [if_neg e]
    unfold encY yFs
    rw [yi_ysa]
    simp (disch := omega) only [ya_ysa_n, if_neg e]
theorem encY_5 : encY G Y n y h0 (Y + 5) = some (aI G 10 (ya y 5)) := by
  unfold encY
  rw [if_neg (by omega), if_neg (by omega), if_neg (by omega), if_neg (by omega), if_neg (by omega), if_pos rfl]
theorem encY_set5 {f : Nat → Int32} : hset (encY G Y n y h0) (Y + 5) (aI G 10 f) = encY G Y n (ysa y 5 f) h0 := by
  funext a
  unfold hset
  by_cases e : a = Y + 5
  · subst e
    rw [if_pos rfl, encY_5, ya_ysa_s]
  · rw [if_neg e]
    unfold encY yFs
    rw [yi_ysa]
    simp (disch := omega) only [ya_ysa_n, if_neg e]
theorem encY_6 : encY G Y n y h0 (Y + 6) = some (aB G n (ya y 6)) := by
  unfold encY
  rw [if_neg (by omega), if_neg (by omega), if_neg (by omega), if_neg (by omega), if_neg (by omega), if_neg (by omega), if_pos rfl]
theorem yk {f : Nat → Option β} : ck (encY G Y n y h0) Y [7] f = f 7 := ck_at encY_0 (by decide)
theorem yg_0 {f : Option Nat → Option β} : gfR (encY G Y n y h0) Y [7] 0 f = f (some (Y + 1)) := gfR_at encY_0 (by decide) rfl
theorem yg_1 {f : Option Nat → Option β} : gfR (encY G Y n y h0) Y [7] 1 f = f (some (Y + 6)) := gfR_at encY_0 (by decide) rfl
theorem yg_4 {f : Option Nat → Option β} : gfR (encY G Y n y h0) Y [7] 4 f = f (some (Y + 2)) := gfR_at encY_0 (by decide) rfl
theorem yg_6 {f : Option Nat → Option β} : gfR (encY G Y n y h0) Y [7] 6 f = f (some (Y + 3)) := gfR_at encY_0 (by decide) rfl
theorem yg_7 {f : Option Nat → Option β} : gfR (encY G Y n y h0) Y [7] 7 f = f (some (Y + 4)) := gfR_at encY_0 (by decide) rfl
theorem yg_8 {f : Option Nat → Option β} : gfR (encY G Y n y h0) Y [7] 8 f = f (some (Y + 5)) := gfR_at encY_0 (by decide) rfl
theorem yg_2 {f : Int32 → Option β} : gfI (encY G Y n y h0) Y [7] 2 f = f (yi y 2) := gfI_at encY_0 (by decide) rfl
theorem yp_2 {x : Int32} {f : Hp → Option β} : pfV (encY G Y n y h0) Y [7] 2 (.int x) f = f (encY G Y n (ysi y 2 x) h0) := (pfV_at encY_0 (by decide) (by show 2 < 10; decide)).trans (congrArg f ((congrArg (fun z => hset (encY G Y n y h0) Y (ob 7 z)) (show (yFs Y y).set 2 (.int x) = yFs Y (ysi y 2 x) by unfold yFs; rw [yi_ysi_s, yi_ysi_n (k := 2) (j := 3) (by decide), yi_ysi_n (k := 2) (j := 5) (by decide), yi_ysi_n (k := 2) (j := 9) (by decide)]; rfl)).trans (encY_set0 rfl)))
theorem yg_3 {f : Int32 → Option β} : gfI (encY G Y n y h0) Y [7] 3 f = f (yi y 3) := gfI_at encY_0 (by decide) rfl
theorem yp_3 {x : Int32} {f : Hp → Option β} : pfV (encY G Y n y h0) Y [7] 3 (.int x) f = f (encY G Y n (ysi y 3 x) h0) := (pfV_at encY_0 (by decide) (by show 3 < 10; decide)).trans (congrArg f ((congrArg (fun z => hset (encY G Y n y h0) Y (ob 7 z)) (show (yFs Y y).set 3 (.int x) = yFs Y (ysi y 3 x) by unfold yFs; rw [yi_ysi_s, yi_ysi_n (k := 3) (j := 2) (by decide), yi_ysi_n (k := 3) (j := 5) (by decide), yi_ysi_n (k := 3) (j := 9) (by decide)]; rfl)).trans (encY_set0 rfl)))
theorem yg_5 {f : Int32 → Option β} : gfI (encY G Y n y h0) Y [7] 5 f = f (yi y 5) := gfI_at encY_0 (by decide) rfl
theorem yp_5 {x : Int32} {f : Hp → Option β} : pfV (encY G Y n y h0) Y [7] 5 (.int x) f = f (encY G Y n (ysi y 5 x) h0) := (pfV_at encY_0 (by decide) (by show 5 < 10; decide)).trans (congrArg f ((congrArg (fun z => hset (encY G Y n y h0) Y (ob 7 z)) (show (yFs Y y).set 5 (.int x) = yFs Y (ysi y 5 x) by unfold yFs; rw [yi_ysi_s, yi_ysi_n (k := 5) (j := 2) (by decide), yi_ysi_n (k := 5) (j := 3) (by decide), yi_ysi_n (k := 5) (j := 9) (by decide)]; rfl)).trans (encY_set0 rfl)))
theorem yg_9 {f : Int32 → Option β} : gfI (encY G Y n y h0) Y [7] 9 f = f (yi y 9) := gfI_at encY_0 (by decide) rfl
theorem yp_9 {x : Int32} {f : Hp → Option β} : pfV (encY G Y n y h0) Y [7] 9 (.int x) f = f (encY G Y n (ysi y 9 x) h0) := (pfV_at encY_0 (by decide) (by show 9 < 10; decide)).trans (congrArg f ((congrArg (fun z => hset (encY G Y n y h0) Y (ob 7 z)) (show (yFs Y y).set 9 (.int x) = yFs Y (ysi y 9 x) by unfold yFs; rw [yi_ysi_s, yi_ysi_n (k := 9) (j := 2) (by decide), yi_ysi_n (k := 9) (j := 3) (by decide), yi_ysi_n (k := 9) (j := 5) (by decide)]; rfl)).trans (encY_set0 rfl)))
theorem yas_1 {k : Nat} {x : Int32} {f : Hp → Option β} (hk : k < 6) : asI (g_c G 0) id (encY G Y n y h0) (Y + 1) (nI k) x f = f (encY G Y n (ysa y 1 (upK (ya y 1) k x)) h0) := (asI_at encY_1 hk (by decide)).trans (congrArg f encY_set1)
theorem yas_2 {k : Nat} {x : Int32} {f : Hp → Option β} (hk : k < 120) : asI (g_c G 0) id (encY G Y n y h0) (Y + 2) (nI k) x f = f (encY G Y n (ysa y 2 (upK (ya y 2) k x)) h0) := (asI_at encY_2 hk (by decide)).trans (congrArg f encY_set2)
theorem yas_3 {k : Nat} {x : Int32} {f : Hp → Option β} (hk : k < 10) : asI (g_c G 0) id (encY G Y n y h0) (Y + 3) (nI k) x f = f (encY G Y n (ysa y 3 (upK (ya y 3) k x)) h0) := (asI_at encY_3 hk (by decide)).trans (congrArg f encY_set3)
theorem yas_4 {k : Nat} {x : Int32} {f : Hp → Option β} (hk : k < 10) : asI (g_c G 0) id (encY G Y n y h0) (Y + 4) (nI k) x f = f (encY G Y n (ysa y 4 (upK (ya y 4) k x)) h0) := (asI_at encY_4 hk (by decide)).trans (congrArg f encY_set4)
theorem yas_5 {k : Nat} {x : Int32} {f : Hp → Option β} (hk : k < 10) : asI (g_c G 0) id (encY G Y n y h0) (Y + 5) (nI k) x f = f (encY G Y n (ysa y 5 (upK (ya y 5) k x)) h0) := (asI_at encY_5 hk (by decide)).trans (congrArg f encY_set5)
theorem yal_6 {k : Nat} {f : Int32 → Option β} (hk : k < n) (hn : n ≤ 120) : alI (g_c G 2) (encY G Y n y h0) (Y + 6) (nI k) f = f (ya y 6 k) := alI_at encY_6 hk (by omega)
theorem yln_6 {f : Int32 → Option β} : lnI (g_c G 2) (encY G Y n y h0) (Y + 6) f = f (nI n) := lnI_at encY_6
end YE
/-- the text as it lies in the class's array: bytes with a sign -/
def TxR (y : YS) (tp : Nat → Int32) (n : Nat) : Prop := n ≤ 120 ∧ (∀ j, j < n → ya y 6 j = sxB (tp j)) ∧ ∀ j, j < n → ∃ m, m < 256 ∧ tp j = nI m
theorem sx_eq {m x : Nat} (hm : m < 256) (hx : x < 128) : sxB (nI m) = nI x ↔ m = x := sx_all ⟨m, hm⟩ ⟨x, hx⟩
theorem here_t {tp : Nat → Int32} {z p : Nat} (h : p < z) : hereP tp z p = tp p := if_neg (by omega)
theorem here_f {tp : Nat → Int32} {z p : Nat} (h : z ≤ p) : hereP tp z p = -1 := if_pos h
section YT
variable {G : Gx} {Y n nx : Nat} {y : YS} {h0 : Hp} {tp : Nat → Int32}
theorem TxR.cg {y' : YS} (h : TxR y tp n) (e : ya y' 6 = ya y 6) : TxR y' tp n := ⟨h.1, by rw [e]; exact h.2.1, h.2.2⟩
theorem nI_m1 {k : Nat} (h : k < 2 ^ 31) : ¬ (-1 : Int32) = nI k := fun z => by
  have h2 : (0 : Int32) ≤ nI k := nI_pos' h
  rw [← z] at h2
  exact absurd h2 (by decide)
set_option maxRecDepth 100000 in
set_option maxHeartbeats 1000000 in
theorem y_take (hT : TxR y tp n) {p x : Nat} (hp : yi y 2 = nI p) (hpn : p ≤ n) (hx : x < 128) : F_X7_take G (encY G Y n y h0) nx Y (nI x) = some (if hereP tp n p = nI x then nI 1 else nI 0, encY G Y n (if hereP tp n p = nI x then ysi y 2 (nI (p + 1)) else y) h0, nx) := by
  obtain ⟨hn, h6, hm⟩ := hT
  unfold F_X7_take F_X7_take_25
  by_cases c : n ≤ p
  · have e : ¬ hereP tp n p = nI x := by rw [here_f c]; exact nI_m1 (by omega)
    rw [if_neg e, if_neg e]
    simp (maxSteps := 3000000) (disch := omega) only [hp, yi_ysi_s, yi_ysi_n, ya_ysi, yi_ysa, ya_ysa_s, ya_ysa_n, ysi_ysi, ysa_ysa, yk, yg_0, yg_1, yg_2, yg_3, yg_4, yg_5, yg_6, yg_7, yg_8, yg_9, yp_2, yp_3, yp_5, yp_9, yas_1, yas_2, yas_3, yas_4, yas_5, yal_6, yln_6, cl_some, nm_b, nn_some, qn_some, qn_none, zk_0, zk_1, zk_n0, zk_n1, nI_add, pk_mul, pk_sub, nI_leE, nI_ltE, nI_eqE, nI_lt0, nI_ge0, nI_eq0, nI_gt0, nI_le0, ilt_t, ilt_f, ile_t, ile_f, ieq_t, ieq_f, if_tt, if_ff, Nat.add_sub_cancel]
  · have hl : p < n := by omega
    obtain ⟨m, hm2, em⟩ := hm p hl
    have e6 : ya y 6 p = sxB (nI m) := by rw [h6 p hl, em]
    have eh : hereP tp n p = nI m := by rw [here_t hl, em]
    have es : (sxB (nI m) = nI x) ↔ (hereP tp n p = nI x) := by rw [eh, sx_eq hm2 hx]; exact (nI_eq (by omega) (by omega)).symm
    by_cases c2 : hereP tp n p = nI x
    · rw [if_pos c2, if_pos c2]
      simp (maxSteps := 3000000) (disch := omega) only [hp, e6, yi_ysi_s, yi_ysi_n, ya_ysi, yi_ysa, ya_ysa_s, ya_ysa_n, ysi_ysi, ysa_ysa, yk, yg_0, yg_1, yg_2, yg_3, yg_4, yg_5, yg_6, yg_7, yg_8, yg_9, yp_2, yp_3, yp_5, yp_9, yas_1, yas_2, yas_3, yas_4, yas_5, yal_6, yln_6, cl_some, nm_b, nn_some, qn_some, qn_none, zk_0, zk_1, zk_n0, zk_n1, nI_add, pk_mul, pk_sub, nI_leE, nI_ltE, nI_eqE, nI_lt0, nI_ge0, nI_eq0, nI_gt0, nI_le0, ilt_t, ilt_f, ile_t, ile_f, ieq_t, ieq_f, if_tt, if_ff, Nat.add_sub_cancel]
      rw [if_pos (es.mpr c2)]
    · rw [if_neg c2, if_neg c2]
      simp (maxSteps := 3000000) (disch := omega) only [hp, e6, yi_ysi_s, yi_ysi_n, ya_ysi, yi_ysa, ya_ysa_s, ya_ysa_n, ysi_ysi, ysa_ysa, yk, yg_0, yg_1, yg_2, yg_3, yg_4, yg_5, yg_6, yg_7, yg_8, yg_9, yp_2, yp_3, yp_5, yp_9, yas_1, yas_2, yas_3, yas_4, yas_5, yal_6, yln_6, cl_some, nm_b, nn_some, qn_some, qn_none, zk_0, zk_1, zk_n0, zk_n1, nI_add, pk_mul, pk_sub, nI_leE, nI_ltE, nI_eqE, nI_lt0, nI_ge0, nI_eq0, nI_gt0, nI_le0, ilt_t, ilt_f, ile_t, ile_f, ieq_t, ieq_f, if_tt, if_ff, Nat.add_sub_cancel]
      rw [if_neg (fun z => c2 (es.mp z))]
theorem y_put {c : Nat} (hc : yi y 5 = nI c) (hl : c < 120) (x : Int32) : F_X7_put G (encY G Y n y h0) nx Y x = some (nI 1, encY G Y n (ysi (ysa y 2 (upK (ya y 2) c x)) 5 (nI (c + 1))) h0, nx) := by
  unfold F_X7_put
  simp (maxSteps := 3000000) (disch := omega) only [hc, yi_ysi_s, yi_ysi_n, ya_ysi, yi_ysa, ya_ysa_s, ya_ysa_n, ysi_ysi, ysa_ysa, yk, yg_0, yg_1, yg_2, yg_3, yg_4, yg_5, yg_6, yg_7, yg_8, yg_9, yp_2, yp_3, yp_5, yp_9, yas_1, yas_2, yas_3, yas_4, yas_5, yal_6, yln_6, cl_some, nm_b, nn_some, qn_some, qn_none, zk_0, zk_1, zk_n0, zk_n1, nI_add, pk_mul, pk_sub, nI_leE, nI_ltE, nI_eqE, nI_lt0, nI_ge0, nI_eq0, nI_gt0, nI_le0, ilt_t, ilt_f, ile_t, ile_f, ieq_t, ieq_f, if_tt, if_ff, Nat.add_sub_cancel]
theorem fg_bin {m : Nat} (hm : m < 256) : (bIn (nI m) (nI 48) (nI 57) = 0) ↔ (m < 48 ∨ 57 < m) := by
  unfold bIn
  have e1 : (nI 48 ≤ nI m) ↔ 48 ≤ m := by rw [nI_leE (by omega) (by omega)]
  have e2 : (nI m ≤ nI 57) ↔ m ≤ 57 := by rw [nI_leE (by omega) (by omega)]
  by_cases c : nI 48 ≤ nI m ∧ nI m ≤ nI 57
  · rw [if_pos c]
    have := e1.mp c.1
    have := e2.mp c.2
    exact ⟨fun z => absurd z (by decide), fun z => by omega⟩
  · rw [if_neg c]
    refine ⟨fun _ => ?_, fun _ => rfl⟩
    by_cases d : 48 ≤ m ∧ m ≤ 57
    · exact absurd ⟨e1.mpr d.1, e2.mpr d.2⟩ c
    · omega
theorem fg_m1 : bIn (-1) (nI 48) (nI 57) = 0 := by decide
/-- the number that figures are -/
theorem fgL_s {z r p : Nat} {v : Int32} : fgL tp z (r + 1) v p = if ¬ bIn (hereP tp z p) (nI 48) (nI 57) = 0 ∧ (r = 2 ∨ ¬ v ≤ 0) then fgL tp z r (nI 10 * v + hereP tp z p - nI 48) (p + 1) else (v, p) := rfl
def FyR (y y' : YS) : Prop := (∀ k, k ≠ 2 → k ≠ 3 → yi y' k = yi y k) ∧ ya y' = ya y
theorem FyR.rf : FyR y y := ⟨fun _ _ _ => rfl, rfl⟩
theorem FyR.trans {a b c : YS} (h1 : FyR a b) (h2 : FyR b c) : FyR a c := ⟨fun k p q => (h2.1 k p q).trans (h1.1 k p q), h2.2.trans h1.2⟩
set_option maxRecDepth 100000 in
set_option maxHeartbeats 1000000 in
theorem y_num9 : ∀ (r m p v : Nat) (y : YS), r ≤ 3 → r < m → TxR y tp n → yi y 2 = nI p → p ≤ n → yi y 3 = nI v → v < 10 ^ (3 - r) → (r = 3 → v = 0) → ∃ y' : YS, F_X7_readNumber_9 G m (encY G Y n y h0) nx Y (nI (3 - r)) (if r = 3 ∨ 0 < v then nI 1 else nI 0) = some (if r = 3 ∧ bIn (hereP tp n p) (nI 48) (nI 57) = 0 then nI 0 else nI 1, encY G Y n y' h0, nx) ∧ FyR y y' ∧ yi y' 2 = nI (fgL tp n r (nI v) p).2 ∧ yi y' 3 = (fgL tp n r (nI v) p).1 := by
  intro r
  induction r with
  | zero =>
    intro m p v y hr hm hT hp hpn hv hvl h3
    obtain ⟨m, rfl⟩ : ∃ q, m = q + 1 := ⟨m - 1, by omega⟩
    refine ⟨y, ?_, FyR.rf, hp, hv⟩
    rw [F_X7_readNumber_9_s]
    unfold F_X7_readNumber_111 F_X7_readNumber_120
    rw [if_neg (show ¬ (0 = 3 ∧ bIn (hereP tp n p) (nI 48) (nI 57) = 0) by omega)]
    by_cases c : (0 : Nat) = 3 ∨ 0 < v
    · rw [if_pos c]
      simp (maxSteps := 3000000) (disch := omega) only [yi_ysi_s, yi_ysi_n, ya_ysi, yi_ysa, ya_ysa_s, ya_ysa_n, ysi_ysi, ysa_ysa, yk, yg_0, yg_1, yg_2, yg_3, yg_4, yg_5, yg_6, yg_7, yg_8, yg_9, yp_2, yp_3, yp_5, yp_9, yas_1, yas_2, yas_3, yas_4, yas_5, yal_6, yln_6, cl_some, nm_b, nn_some, qn_some, qn_none, zk_0, zk_1, zk_n0, zk_n1, nI_add, pk_mul, pk_sub, nI_leE, nI_ltE, nI_eqE, nI_lt0, nI_ge0, nI_eq0, nI_gt0, nI_le0, ilt_t, ilt_f, ile_t, ile_f, ieq_t, ieq_f, if_tt, if_ff, Nat.add_sub_cancel]
    · rw [if_neg c]
      simp (maxSteps := 3000000) (disch := omega) only [yi_ysi_s, yi_ysi_n, ya_ysi, yi_ysa, ya_ysa_s, ya_ysa_n, ysi_ysi, ysa_ysa, yk, yg_0, yg_1, yg_2, yg_3, yg_4, yg_5, yg_6, yg_7, yg_8, yg_9, yp_2, yp_3, yp_5, yp_9, yas_1, yas_2, yas_3, yas_4, yas_5, yal_6, yln_6, cl_some, nm_b, nn_some, qn_some, qn_none, zk_0, zk_1, zk_n0, zk_n1, nI_add, pk_mul, pk_sub, nI_leE, nI_ltE, nI_eqE, nI_lt0, nI_ge0, nI_eq0, nI_gt0, nI_le0, ilt_t, ilt_f, ile_t, ile_f, ieq_t, ieq_f, if_tt, if_ff, Nat.add_sub_cancel]
  | succ r ih =>
    intro m p v y hr hm hT hp hpn hv hvl h3
    obtain ⟨m, rfl⟩ : ∃ q, m = q + 1 := ⟨m - 1, by omega⟩
    obtain ⟨hn, h6, hm6⟩ := id hT
    have hv9 : v < 1000 := by
      have e1 : 10 ^ (3 - (r + 1)) ≤ 10 ^ 3 := Nat.pow_le_pow_right (by decide) (by omega)
      have e2 : (10 : Nat) ^ 3 = 1000 := by decide
      omega
    have hcond : (r + 1 = 3 ∨ 0 < v) ↔ (r = 2 ∨ ¬ nI v ≤ 0) := by
      rw [nI_le0 (by omega)]
      omega
    have es := fgL_s (tp := tp) (z := n) (r := r) (p := p) (v := nI v)
    -- the answer where nothing more is read
    have st : (bIn (hereP tp n p) (nI 48) (nI 57) = 0 ∨ ¬ r + 1 = 3) → F_X7_readNumber_111 G (encY G Y n y h0) nx (nI (3 - (r + 1))) = some (if r + 1 = 3 ∧ bIn (hereP tp n p) (nI 48) (nI 57) = 0 then nI 0 else nI 1, encY G Y n y h0, nx) := by
      intro hh
      unfold F_X7_readNumber_111 F_X7_readNumber_120
      by_cases c3 : r + 1 = 3
      · have cb := hh.resolve_right (fun z => z c3)
        have e0 : nI (3 - (r + 1)) ≤ 0 := by rw [show 3 - (r + 1) = 0 by omega]; decide
        rw [if_pos e0, if_pos (show r + 1 = 3 ∧ bIn (hereP tp n p) (nI 48) (nI 57) = 0 from ⟨c3, cb⟩), zk_n0]
      · have e0 : ¬ nI (3 - (r + 1)) ≤ 0 := by rw [nI_le0 (by omega)]; omega
        rw [if_neg e0, if_neg (show ¬ (r + 1 = 3 ∧ bIn (hereP tp n p) (nI 48) (nI 57) = 0) from fun z => c3 z.1), zk_n1]
    by_cases cm : r + 1 = 3 ∨ 0 < v
    · rw [if_pos cm]
      by_cases cb : bIn (hereP tp n p) (nI 48) (nI 57) = 0
      · have st := st (Or.inl cb)
        rw [if_neg (fun z => z.1 cb)] at es
        rw [es]
        refine ⟨y, ?_, FyR.rf, hp, hv⟩
        rw [F_X7_readNumber_9_s]
        by_cases cl : n ≤ p
        · simp (maxSteps := 3000000) (disch := omega) only [hp, st, yi_ysi_s, yi_ysi_n, ya_ysi, yi_ysa, ya_ysa_s, ya_ysa_n, ysi_ysi, ysa_ysa, yk, yg_0, yg_1, yg_2, yg_3, yg_4, yg_5, yg_6, yg_7, yg_8, yg_9, yp_2, yp_3, yp_5, yp_9, yas_1, yas_2, yas_3, yas_4, yas_5, yal_6, yln_6, cl_some, nm_b, nn_some, qn_some, qn_none, zk_0, zk_1, zk_n0, zk_n1, nI_add, pk_mul, pk_sub, nI_leE, nI_ltE, nI_eqE, nI_lt0, nI_ge0, nI_eq0, nI_gt0, nI_le0, ilt_t, ilt_f, ile_t, ile_f, ieq_t, ieq_f, if_tt, if_ff, Nat.add_sub_cancel]
        · have hl : p < n := by omega
          obtain ⟨q, hq, eq⟩ := hm6 p hl
          have e6 : ya y 6 p = sxB (nI q) := by rw [h6 p hl, eq]
          have cb2 := cb
          rw [here_t hl, eq] at cb2
          have hs := (sx_fig ⟨q, hq⟩).mpr ((fg_bin hq).mp cb2)
          have hs : sxB (nI q) < nI 48 ∨ nI 57 < sxB (nI q) := hs
          by_cases c48 : sxB (nI q) < nI 48
          · simp (maxSteps := 3000000) (disch := omega) only [hp, st, e6, yi_ysi_s, yi_ysi_n, ya_ysi, yi_ysa, ya_ysa_s, ya_ysa_n, ysi_ysi, ysa_ysa, yk, yg_0, yg_1, yg_2, yg_3, yg_4, yg_5, yg_6, yg_7, yg_8, yg_9, yp_2, yp_3, yp_5, yp_9, yas_1, yas_2, yas_3, yas_4, yas_5, yal_6, yln_6, cl_some, nm_b, nn_some, qn_some, qn_none, zk_0, zk_1, zk_n0, zk_n1, nI_add, pk_mul, pk_sub, nI_leE, nI_ltE, nI_eqE, nI_lt0, nI_ge0, nI_eq0, nI_gt0, nI_le0, ilt_t, ilt_f, ile_t, ile_f, ieq_t, ieq_f, if_tt, if_ff, Nat.add_sub_cancel]
            rw [if_pos c48]
          · have c57 := hs.resolve_left c48
            simp (maxSteps := 3000000) (disch := omega) only [hp, st, e6, yi_ysi_s, yi_ysi_n, ya_ysi, yi_ysa, ya_ysa_s, ya_ysa_n, ysi_ysi, ysa_ysa, yk, yg_0, yg_1, yg_2, yg_3, yg_4, yg_5, yg_6, yg_7, yg_8, yg_9, yp_2, yp_3, yp_5, yp_9, yas_1, yas_2, yas_3, yas_4, yas_5, yal_6, yln_6, cl_some, nm_b, nn_some, qn_some, qn_none, zk_0, zk_1, zk_n0, zk_n1, nI_add, pk_mul, pk_sub, nI_leE, nI_ltE, nI_eqE, nI_lt0, nI_ge0, nI_eq0, nI_gt0, nI_le0, ilt_t, ilt_f, ile_t, ile_f, ieq_t, ieq_f, if_tt, if_ff, Nat.add_sub_cancel]
            rw [if_neg c48, if_pos c57]
      · have hl : p < n := by
          by_cases cl : n ≤ p
          · rw [here_f cl] at cb
            exact absurd fg_m1 cb
          · omega
        obtain ⟨q, hq, eq⟩ := hm6 p hl
        have eh : hereP tp n p = nI q := by rw [here_t hl, eq]
        have cb2 := cb
        rw [eh] at cb2
        have hqr : 48 ≤ q ∧ q ≤ 57 := by
          by_cases z : q < 48 ∨ 57 < q
          · exact absurd ((fg_bin hq).mpr z) cb2
          · omega
        have e6 : ya y 6 p = nI q := by rw [h6 p hl, eq]; exact sx_dig ⟨q, hq⟩ hqr.1 hqr.2
        have ev : nI 10 * nI v + nI q - nI 48 = nI (10 * v + q - 48) := by rw [pk_mul, nI_add, pk_sub (by omega)]
        rw [if_pos ⟨cb, hcond.mp cm⟩, eh, ev] at es
        rw [es]
        have hv2 : 10 * v + q - 48 < 10 ^ (3 - r) := by
          have e1 : 10 ^ (3 - r) = 10 * 10 ^ (3 - (r + 1)) := by
            rw [show 3 - r = 3 - (r + 1) + 1 by omega, Nat.pow_succ, Nat.mul_comm]
          rw [e1]
          omega
        obtain ⟨y', r1, r2, r3, r4⟩ := ih m (p + 1) (10 * v + q - 48) (ysi (ysi y 3 (nI (10 * v + q - 48))) 2 (nI (p + 1))) (by omega) (by omega) (hT.cg rfl) yi_ysi_s (by omega) (by rw [yi_ysi_n (by decide)]; exact yi_ysi_s) hv2 (fun z => by omega)
        have f0 : FyR y (ysi (ysi y 3 (nI (10 * v + q - 48))) 2 (nI (p + 1))) := ⟨fun k h2 h3 => by rw [yi_ysi_n h2, yi_ysi_n h3], rfl⟩
        refine ⟨y', ?_, FyR.trans f0 r2, r3, r4⟩
        rw [if_neg (show ¬ (r + 1 = 3 ∧ bIn (hereP tp n p) (nI 48) (nI 57) = 0) from fun z => cb z.2)]
        rw [if_neg (show ¬ (r = 3 ∧ bIn (hereP tp n (p + 1)) (nI 48) (nI 57) = 0) from fun z => by omega)] at r1
        have e10 : nI v * nI 10 + nI q - nI 48 = nI (10 * v + q - 48) := by rw [Int32.mul_comm, ev]
        have e3r : 3 - (r + 1) + 1 = 3 - r := by omega
        have h3l : ¬ nI 3 ≤ nI (3 - (r + 1)) := by rw [nI_leE (by omega) (by omega)]; omega
        have hnp : ¬ nI n ≤ nI p := by rw [nI_leE (by omega) (by omega)]; omega
        have h48 : ¬ nI q < nI 48 := by rw [nI_ltE (by omega) (by omega)]; omega
        have h57 : ¬ nI 57 < nI q := by rw [nI_ltE (by omega) (by omega)]; omega
        rw [F_X7_readNumber_9_s]
        unfold F_X7_readNumber_107
        rw [if_neg (show ¬ nI 1 = 0 by decide), if_neg h3l]
        rw [yg_2, hp, yg_1, nn_some, yln_6, if_neg hnp, yg_1, yg_2, hp, nn_some, yal_6 hl hn, e6, if_neg h48, yg_1, yg_2, hp, nn_some, yal_6 hl hn, e6, if_neg h57, yg_3, hv, yg_1, yg_2, hp, nn_some, yal_6 hl hn, e6, e10, yp_3, yg_2, yi_ysi_n (show (2 : Nat) ≠ 3 by decide), hp, nI_add, yp_2, nm_b, nI_add, e3r, yg_3, yi_ysi_n (show (3 : Nat) ≠ 2 by decide), yi_ysi_s]
        by_cases c0 : 0 < 10 * v + q - 48
        · rw [if_pos (Or.inr c0)] at r1
          have z0 : ¬ nI (10 * v + q - 48) ≤ 0 := by rw [nI_le0 (by omega)]; omega
          rw [if_neg z0]
          exact r1
        · rw [if_neg (by omega)] at r1
          have z0 : nI (10 * v + q - 48) ≤ 0 := by rw [nI_le0 (by omega)]; omega
          rw [if_pos z0]
          exact r1
    · have st := st (Or.inr (fun z => cm (Or.inl z)))
      rw [if_neg (fun z => cm (hcond.mpr z.2))] at es
      rw [es, if_neg cm]
      refine ⟨y, ?_, FyR.rf, hp, hv⟩
      rw [F_X7_readNumber_9_s, if_pos (show nI 0 = 0 from rfl)]
      exact st
theorem y_number (hT : TxR y tp n) {p : Nat} (hp : yi y 2 = nI p) (hpn : p ≤ n) : ∃ y' : YS, F_X7_readNumber G (encY G Y n y h0) nx Y = some (if isFg tp n p then nI 1 else nI 0, encY G Y n y' h0, nx) ∧ FyR y y' ∧ yi y' 2 = nI (if isFg tp n p then (fgL tp n 3 (nI 0) p).2 else p) ∧ yi y' 3 = (fgL tp n 3 (nI 0) p).1 := by
  obtain ⟨y', r1, r2, r3, r4⟩ := y_num9 (G := G) (Y := Y) (nx := nx) (h0 := h0) (n := n) 3 fuelL p 0 (ysi y 3 (nI 0)) (by omega) (by unfold fuelL; omega) (hT.cg rfl) (by rw [yi_ysi_n (by decide)]; exact hp) hpn yi_ysi_s (by decide) (fun _ => rfl)
  have f0 : FyR y (ysi y 3 (nI 0)) := ⟨fun k h2 h3 => by rw [yi_ysi_n h3], rfl⟩
  refine ⟨y', ?_, FyR.trans f0 r2, ?_, r4⟩
  · unfold F_X7_readNumber
    rw [yp_3]
    rw [if_pos (Or.inl rfl)] at r1
    refine r1.trans ?_
    by_cases c : bIn (hereP tp n p) (nI 48) (nI 57) = 0
    · rw [if_pos ⟨rfl, c⟩, if_neg (fun z => z c)]
    · rw [if_neg (fun z => c z.2), if_pos c]
  · by_cases c : bIn (hereP tp n p) (nI 48) (nI 57) = 0
    · rw [if_neg (fun z => z c), r3, fgL_s, if_neg (fun z => z.1 c)]
    · rw [if_pos c]
      exact r3
end YT
