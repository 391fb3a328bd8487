/-! A SORT of the class -/
abbrev Sg : Type := Int32 × Int32 × List Int32
/-- the reference's steps of clauses: word, number, code -/
def sgL : List Sg → List Int32
  | [] => []
  | g :: r => g.2.2 ++ (-10 - nI 2 * g.2.1 - g.1) :: sgL r
/-- the clauses as they lie in the class's arrays -/
def SgAt (co cw cn ce : Nat → Int32) : Nat → Nat → List Sg → Prop
  | _, _, [] => True
  | i, q, g :: r => cw i = g.1 ∧ cn i = g.2.1 ∧ ce i = nI (q + g.2.2.length) ∧ (∀ j, j < g.2.2.length → co (q + j) = g.2.2.getD j 0) ∧ SgAt co cw cn ce (i + 1) (q + g.2.2.length) r
/-- a clause's code: from no truth to one -/
def okB : List Int32 → Nat → Prop
  | [], t => t = 1
  | s :: r, t => ((∃ n, s = nI n ∧ n < 2 ^ 31 ∧ n / 2 % 4 ≤ 2) ∧ t < 14 ∧ okB r (t + 1)) ∨ (s = -1 ∧ 1 ≤ t ∧ okB r t) ∨ ((s = -2 ∨ s = -3) ∧ 2 ≤ t ∧ okB r (t - 1))
def SgOk (g : Sg) : Prop := (g.1 = nI 0 ∨ g.1 = nI 1) ∧ (∃ n, n ≤ 999 ∧ g.2.1 = nI n) ∧ okB g.2.2 0
def lenS : List Sg → Nat
  | [] => 0
  | g :: r => g.2.2.length + lenS r
def SoAt (G : Gx) (lo : Nat) (h : Hp) (p : Nat) (s : Nat → Int32) (a : Nat) : Prop :=
  ∃ (pl pt pc pw pn pe : Nat) (l co cw cn ce : Nat → Int32) (x2 x3 x5 : Int32) (sg : List Sg),
    (lo ≤ p ∧ lo ≤ pl ∧ lo ≤ pt ∧ lo ≤ pc ∧ lo ≤ pw ∧ lo ≤ pn ∧ lo ≤ pe) ∧
    h p = some (ob 7 [.ref pl, .ref pt, .int x2, .int x3, .ref pc, .int x5, .ref pw, .ref pn, .ref pe, .int (nI sg.length)]) ∧
    h pl = some (aI G 6 l) ∧ h pc = some (aI G 120 co) ∧ h pw = some (aI G 10 cw) ∧ h pn = some (aI G 10 cn) ∧ h pe = some (aI G 10 ce) ∧
    (∀ w, w < 4 → l (2 + w) = s (140 + 4 * a + w) ∧ ∃ v, v ≤ 999 ∧ l (2 + w) = nI v) ∧
    sg.length ≤ 10 ∧ lenS sg ≤ 120 ∧ (∀ g ∈ sg, SgOk g) ∧ SgAt co cw cn ce 0 0 sg ∧ codeL s a = sgL sg
theorem SoAt.heap {G : Gx} {lo : Nat} {h h' : Hp} {p : Nat} {s : Nat → Int32} {a : Nat} (hs : SoAt G lo h p s a) (e : ∀ q x, lo ≤ q → h q = some x → h' q = some x) : SoAt G lo h' p s a := by
  obtain ⟨pl, pt, pc, pw, pn, pe, l, co, cw, cn, ce, x2, x3, x5, sg, ⟨b1, b2, b3, b4, b5, b6, b7⟩, h1, h2, h3, h4, h5, h6, r⟩ := hs
  exact ⟨pl, pt, pc, pw, pn, pe, l, co, cw, cn, ce, x2, x3, x5, sg, ⟨b1, b2, b3, b4, b5, b6, b7⟩, e _ _ b1 h1, e _ _ b2 h2, e _ _ b4 h3, e _ _ b5 h4, e _ _ b6 h5, e _ _ b7 h6, r⟩
theorem SoAt.enc {G : Gx} {lo X : Nat} {c : CS} {h : Hp} {p : Nat} {s : Nat → Int32} {a : Nat} (hs : SoAt G lo h p s a) (hlo : X + 108 ≤ lo) : SoAt G lo (encX G X c h) p s a := hs.heap (fun q x hq hx => by rw [encX_out (Or.inr (by omega))]; exact hx)
/-- what a step without an end mark does -/
def stB (d k s : Int32) (tk : List Bool) : List Bool :=
  if s < 0 then
    if s = -1 then (match tk with | x :: t => (!x) :: t | [] => [])
    else (match tk with | x :: y :: t => (if s = -2 then (y && x) else (y || x)) :: t | _ => [])
  else tsM s d k :: tk
def runB (d k : Int32) : List Int32 → List Bool → List Bool
  | [], tk => tk
  | s :: r, tk => runB d k r (stB d k s tk)
theorem runB_len {d k : Int32} : ∀ {L : List Int32} {tk : List Bool}, okB L tk.length → (runB d k L tk).length = 1
  | [], tk, h => h
  | s :: r, tk, h => by
    unfold runB
    rcases h with ⟨⟨n, rfl, hn, _⟩, h2, h3⟩ | ⟨rfl, h2, h3⟩ | ⟨hs, h2, h3⟩
    · refine runB_len ?_
      unfold stB
      rw [if_neg (nI_pos hn)]
      exact h3
    · refine runB_len ?_
      unfold stB
      rw [if_pos (by decide), if_pos rfl]
      cases tk with
      | nil => exact absurd h2 (by simp)
      | cons x t => exact h3
    · refine runB_len ?_
      unfold stB
      rw [if_pos (by rcases hs with rfl | rfl <;> decide), if_neg (by rcases hs with rfl | rfl <;> decide)]
      match tk, h2, h3 with
      | x :: y :: t, _, h3 => exact h3
theorem runC_B {w d k sum : Int32} {R : List Int32} : ∀ {L : List Int32} {tk : List Bool}, okB L tk.length → runC w d k (L ++ R) tk sum = runC w d k R (runB d k L tk) sum
  | [], _, _ => rfl
  | s :: r, tk, h => by
    show runC w d k (r ++ R) (stpC w d k s tk sum).1 (stpC w d k s tk sum).2 = runC w d k R (runB d k r (stB d k s tk)) sum
    rcases h with ⟨⟨n, rfl, hn, _⟩, h2, h3⟩ | ⟨rfl, h2, h3⟩ | ⟨hs, h2, h3⟩
    · have e : stpC w d k (nI n) tk sum = (stB d k (nI n) tk, sum) := by
        unfold stpC stB
        rw [if_neg (nI_pos hn), if_neg (nI_pos hn)]
      have el : okB r (stB d k (nI n) tk).length := by
        unfold stB
        rw [if_neg (nI_pos hn)]
        exact h3
      rw [e]
      exact runC_B el
    · have e : stpC w d k (-1) tk sum = (stB d k (-1) tk, sum) := by
        unfold stpC stB
        rw [if_pos (by decide), if_pos rfl, if_pos (by decide), if_pos rfl]
        cases tk <;> rfl
      have el : okB r (stB d k (-1) tk).length := by
        unfold stB
        rw [if_pos (by decide), if_pos rfl]
        cases tk with
        | nil => exact absurd h2 (by simp)
        | cons x t => exact h3
      rw [e]
      exact runC_B el
    · have e : stpC w d k s tk sum = (stB d k s tk, sum) := by
        unfold stpC stB
        have n1 : s < 0 := by rcases hs with rfl | rfl <;> decide
        have n2 : ¬ s = -1 := by rcases hs with rfl | rfl <;> decide
        have n3 : ¬ s ≤ -10 := by rcases hs with rfl | rfl <;> decide
        rw [if_pos n1, if_neg n2, if_neg n3, if_pos n1, if_neg n2]
        rcases tk with _ | ⟨x, _ | ⟨y, t⟩⟩ <;> rfl
      have el : okB r (stB d k s tk).length := by
        unfold stB
        rw [if_pos (by rcases hs with rfl | rfl <;> decide), if_neg (by rcases hs with rfl | rfl <;> decide)]
        match tk, h2, h3 with
        | x :: y :: t, _, h3 => exact h3
      rw [e]
      exact runC_B el
/-- does a clause hold -/
def hoB (d k : Int32) (L : List Int32) : Bool := (runB d k L []).head? == some true
theorem sb_end {x y : Int32} : -10 - (-10 - x - y) = x + y := by
  grind
theorem end_neg {n z : Nat} (hn : n ≤ 999) (hz : z ≤ 1) : -10 - nI 2 * nI n - nI z ≤ -10 ∧ ¬ -10 - nI 2 * nI n - nI z = -1 := by
  have e : (-10 - nI 2 * nI n - nI z).toInt = -10 - (2 * n : Nat) - z := by
    rw [pk_mul]
    have e1 : (-10 - nI (2 * n)).toInt = -10 - ((2 * n : Nat) : Int) := by
      rw [fb_subI, nI_toInt (by omega)]
      · rfl
      · rw [nI_toInt (by omega), show ((-10 : Int32)).toInt = -10 by decide]; omega
      · rw [nI_toInt (by omega), show ((-10 : Int32)).toInt = -10 by decide]; omega
    rw [fb_subI, e1, nI_toInt (by omega)]
    · rw [e1, nI_toInt (by omega)]; omega
    · rw [e1, nI_toInt (by omega)]; omega
  constructor
  · rw [fa_le, e, show ((-10 : Int32)).toInt = -10 by decide]
    omega
  · rw [fa_eq, e, show ((-1 : Int32)).toInt = -1 by decide]
    omega
theorem runC_st {w d k x sum : Int32} {R : List Int32} {tk : List Bool} : runC w d k (x :: R) tk sum = runC w d k R (stpC w d k x tk sum).1 (stpC w d k x tk sum).2 := rfl
theorem stpC_end {w d k x sum : Int32} {tk : List Bool} (h1 : x < 0) (h2 : ¬ x = -1) (h3 : x ≤ -10) : stpC w d k x tk sum = ([], sum + (if tk.head? = some true ∧ (-10 - x) - (-10 - x) / nI 2 * nI 2 = w then (-10 - x) / nI 2 else 0)) := by
  unfold stpC
  rw [if_pos h1, if_neg h2, if_pos h3]
theorem end_vals {n z : Nat} (hn : n ≤ 999) (hz : z ≤ 1) : (-10 - (-10 - nI 2 * nI n - nI z)) / nI 2 = nI n ∧ (-10 - (-10 - nI 2 * nI n - nI z)) - (-10 - (-10 - nI 2 * nI n - nI z)) / nI 2 * nI 2 = nI z := by
  rw [sb_end, pk_mul, nI_add, pk_div (by omega) (by decide) (by decide), pk_mul, pk_sub (by omega), show (2 * n + z) / 2 = n by omega, show 2 * n + z - n * 2 = z by omega]
  exact ⟨rfl, rfl⟩
theorem runC_end {w z n : Nat} {d k sum : Int32} {R : List Int32} {tk : List Bool} (hw : w ≤ 1) (hz : z ≤ 1) (hn : n ≤ 999) : runC (nI w) d k ((-10 - nI 2 * nI n - nI z) :: R) tk sum = runC (nI w) d k R [] (sum + if tk.head? = some true ∧ z = w then nI n else 0) := by
  obtain ⟨a1, a2⟩ := end_neg hn hz
  obtain ⟨v1, v2⟩ := end_vals hn hz
  generalize -10 - nI 2 * nI n - nI z = x at *
  have a0 : x < 0 := by
    rw [fa_le] at a1
    rw [fa_lt]
    have : ((-10 : Int32)).toInt = -10 := by decide
    have : ((0 : Int32)).toInt = 0 := by decide
    omega
  rw [runC_st, stpC_end a0 a2 a1, v2, v1]
  simp (disch := omega) only [nI_eqE]
/-- the sum over clauses -/
def sgF (w : Nat) (d k : Int32) : List Sg → Int32 → Int32
  | [], sum => sum
  | g :: r, sum => sgF w d k r (if hoB d k g.2.2 = true ∧ g.1 = nI w then sum + g.2.1 else sum)
theorem sgF_c {w : Nat} {d k sum : Int32} {g : Sg} {r : List Sg} : sgF w d k (g :: r) sum = sgF w d k r (if hoB d k g.2.2 = true ∧ g.1 = nI w then sum + g.2.1 else sum) := rfl
theorem sgL_c {g : Sg} {r : List Sg} : sgL (g :: r) = g.2.2 ++ (-10 - nI 2 * g.2.1 - g.1) :: sgL r := rfl
theorem runC_sg {w : Nat} {d k : Int32} (hw : w ≤ 1) : ∀ {sg : List Sg} {sum : Int32}, (∀ g ∈ sg, SgOk g) → runC (nI w) d k (sgL sg) [] sum = sgF w d k sg sum
  | [], _, _ => rfl
  | g :: r, sum, h => by
    obtain ⟨h1, ⟨n, hn, h2⟩, h3⟩ := h g (by simp)
    obtain ⟨z, hz, ez⟩ : ∃ z, z ≤ 1 ∧ g.1 = nI z := by
      rcases h1 with q | q
      · exact ⟨0, by omega, q⟩
      · exact ⟨1, by omega, q⟩
    rw [sgL_c, sgF_c, h2, ez, runC_B h3, runC_end hw hz hn, runC_sg hw (fun g hg => h g (by simp [hg]))]
    congr 1
    by_cases c1 : hoB d k g.2.2 = true
    · have c2 : (runB d k g.2.2 []).head? = some true := by
        unfold hoB at c1
        simpa using c1
      by_cases c3 : z = w
      · rw [if_pos ⟨c2, c3⟩, if_pos ⟨c1, by rw [c3]⟩]
      · rw [if_neg (fun q => c3 q.2), if_neg (fun q => c3 ((nI_eq (by omega) (by omega)).mp q.2))]
        exact Int32.add_zero _
    · have c2 : ¬ (runB d k g.2.2 []).head? = some true := fun q => c1 (by unfold hoB; simp [q])
      rw [if_neg (fun q => c2 q.1), if_neg (fun q => c1 q.1)]
      exact Int32.add_zero _
theorem sgF_le {w : Nat} {d k : Int32} : ∀ {sg : List Sg} {m : Nat}, (∀ g ∈ sg, SgOk g) → ∃ m', m' ≤ m + 999 * sg.length ∧ sgF w d k sg (nI m) = nI m'
  | [], m, _ => ⟨m, by simp, rfl⟩
  | g :: r, m, h => by
    obtain ⟨_, ⟨n, hn, h2⟩, _⟩ := h g (by simp)
    rw [sgF_c, h2]
    split
    · rw [nI_add]
      obtain ⟨m', h3, h4⟩ := sgF_le (w := w) (d := d) (k := k) (sg := r) (m := m + n) (fun g hg => h g (by simp [hg]))
      exact ⟨m', by simp only [List.length_cons]; omega, h4⟩
    · obtain ⟨m', h3, h4⟩ := sgF_le (w := w) (d := d) (k := k) (sg := r) (m := m) (fun g hg => h g (by simp [hg]))
      exact ⟨m', by simp only [List.length_cons]; omega, h4⟩
theorem sum_sg {s : Nat → Int32} {a w : Nat} {d k : Int32} {sg : List Sg} (hw : w ≤ 1) (h : ∀ g ∈ sg, SgOk g) (e : codeL s a = sgL sg) : sumF s a (nI w) d k = capC (sgF w d k sg 0) := by
  unfold sumF
  rw [e, runC_sg hw h]
theorem SoAt.sum_le {G : Gx} {lo : Nat} {h : Hp} {p : Nat} {s : Nat → Int32} {a : Nat} (hs : SoAt G lo h p s a) {w : Nat} (hw : w ≤ 1) (d k : Int32) : ∃ m, m ≤ 1000 ∧ sumF s a (nI w) d k = nI m := by
  obtain ⟨pl, pt, pc, pw, pn, pe, l, co, cw, cn, ce, x2, x3, x5, sg, _, _, _, _, _, _, _, _, hl, _, hg, _, e⟩ := hs
  rw [sum_sg hw hg e]
  obtain ⟨m, h1, h2⟩ := sgF_le (w := w) (d := d) (k := k) (sg := sg) (m := 0) hg
  rw [show (0 : Int32) = nI 0 from rfl, h2]
  have : 999 * sg.length ≤ 999 * 10 := Nat.mul_le_mul_left _ hl
  unfold capC
  simp (disch := omega) only [nI_ltE]
  by_cases c : 1000 < m
  · rw [if_pos c]; exact ⟨1000, by omega, rfl⟩
  · rw [if_neg c]; exact ⟨m, by omega, rfl⟩
section XS
variable {G : Gx} {h : Hp} {nx : Nat}
theorem x_h96 {s d k x l2 l3 l4 l5 l6 : Int32} {l0 : Nat} {k6 : Hp → Nat → Nat → Int32 → Int32 → Int32 → Int32 → Int32 → Rz Int32} (hx : isM s d k = x) : F_X7_holds_96 G k6 h nx x l0 l2 l3 l4 l5 l6 s = F_X7_holds_166 G k6 h nx (b2i (tsM s d k)) l0 l2 l3 l4 l5 l6 := by
  unfold F_X7_holds_96 tsM
  rw [nm_b, nm_b, hx]
  generalize s / nI 2 - s / nI 2 / nI 4 * nI 4 = g
  generalize s / nI 8 = y
  by_cases c0 : g = 0
  · rw [if_pos c0, if_pos c0]
    by_cases c : y ≤ x
    · rw [if_pos c, decide_eq_false (Int32.not_lt.mpr c)]
      rfl
    · rw [if_neg c, decide_eq_true (Int32.not_le.mp c)]
      rfl
  · rw [if_neg c0, if_neg c0]
    by_cases c1 : g = nI 1
    · rw [if_pos c1, if_pos c1]
      by_cases c : x = y
      · rw [if_pos c, decide_eq_true c]
        rfl
      · rw [if_neg c, decide_eq_false c]
        rfl
    · rw [if_neg c1, if_neg c1]
      by_cases c : x ≤ y
      · rw [if_pos c, decide_eq_false (Int32.not_lt.mpr c)]
        rfl
      · rw [if_neg c, decide_eq_true (Int32.not_le.mp c)]
        rfl
theorem x_h166 {l3 l4 l6 : Int32} {l0 : Nat} {l2 : Int32} {tk : List Bool} {x : Bool} {k6 : Hp → Nat → Nat → Int32 → Int32 → Int32 → Int32 → Int32 → Rz Int32} (ht : tk.length ≤ 14) : F_X7_holds_166 G k6 h nx (b2i x) l0 l2 l3 l4 (nI (encB tk)) l6 = k6 h nx l0 l2 l3 l4 (nI (encB (x :: tk))) (l6 + nI 1) := by
  unfold F_X7_holds_166 F_X7_holds_182 F_X7_holds_185
  rw [← eb_psh (x := x) ht]
  cases x
  · rw [if_pos (show b2i false = 0 from rfl)]
    rfl
  · rw [if_neg (show ¬ b2i true = 0 by decide)]
    rfl
set_option maxRecDepth 100000 in
set_option maxHeartbeats 1000000 in
theorem x_holds6 {p pc len : Nat} {fs : List Value} {co : Nat → Int32} {d k : Int32} (hp : h p = some (ob 7 fs)) (h4 : fs[4]? = some (.ref pc)) (hpc : h pc = some (aI G 120 co)) : ∀ (L : List Int32) (i m : Nat) (tk : List Bool), i + L.length = len → len ≤ 120 → L.length < m → (∀ j, j < L.length → co (i + j) = L.getD j 0) → okB L tk.length → tk.length ≤ 14 → F_X7_holds_6 G m h nx p (nI len) d k (nI (encB tk)) (nI i) = some (b2i ((runB d k L tk).head? == some true), h, nx) := by
  have g4 : ∀ {f : Option Nat → Option (Int32 × Hp × Nat)}, gfR h p [7] 4 f = f (some pc) := gfR_at hp (by decide) h4
  intro L
  induction L with
  | nil =>
    intro i m tk hi hl hm hc hk ht
    obtain ⟨m, rfl⟩ : ∃ q, m = q + 1 := ⟨m - 1, by omega⟩
    have hi : i = len := hi
    subst hi
    match tk, hk with
    | [x], _ =>
      rw [F_X7_holds_6_s]
      unfold F_X7_holds_204
      rw [if_pos (Int32.le_refl _), eb_top (by simp)]
      cases x
      · rfl
      · rfl
  | cons s r ih =>
    intro i m tk hi hl hm hc hk ht
    obtain ⟨m, rfl⟩ : ∃ q, m = q + 1 := ⟨m - 1, by omega⟩
    have hi : i + (r.length + 1) = len := hi
    have hc0 : co i = s := hc 0 (by simp)
    have hc1 : ∀ j, j < r.length → co (i + 1 + j) = r.getD j 0 := fun j hj => by
      have := hc (j + 1) (by simp; omega)
      rw [show i + 1 + j = i + (j + 1) by omega]
      exact this
    have al : ∀ {f : Int32 → Option (Int32 × Hp × Nat)}, alI (g_c G 0) h pc (nI i) f = f s := fun {f} => (alI_at hpc (by omega) (by decide)).trans (by rw [hc0])
    have hm' : r.length < m := by have : r.length + 1 < m + 1 := hm; omega
    rw [F_X7_holds_6_s]
    unfold F_X7_holds_185
    unfold runB
    rcases hk with ⟨⟨n, rfl, hn, h42⟩, h2, h3⟩ | ⟨rfl, h2, h3⟩ | ⟨hs, h2, h3⟩
    · have e := ih (i + 1) m (tsM (nI n) d k :: tk) (by omega) hl hm' hc1 h3 (by simp; omega)
      have n1 : ¬ nI n = -1 := fun q => nI_pos hn (by rw [q]; decide)
      have n2 : ¬ nI n = -2 := fun q => nI_pos hn (by rw [q]; decide)
      have n3 : ¬ nI n = -3 := fun q => nI_pos hn (by rw [q]; decide)
      have eb : stB d k (nI n) tk = tsM (nI n) d k :: tk := if_neg (nI_pos hn)
      rw [eb, ← e]
      have ei : (nI n &&& nI 1 = 0) = (nI n - nI n / nI 2 * nI 2 = 0) := by
        rw [pk_rem hn (by decide) (by decide), show nI 1 = nI (2 ^ 1 - 1) from rfl, fa_mask]
      simp (maxSteps := 3000000) (disch := omega) only [g4, al, cl_some, nm_b, nn_some, qn_some, qn_none, zk_0, zk_1, zk_n0, zk_n1, nI_add, pk_mul, pk_sub, nI_leE, nI_ltE, nI_eqE, nI_lt0, nI_ge0, nI_eq0, nI_gt0, nI_le0, ilt_t, ilt_f, ile_t, ile_f, ieq_t, ieq_f, if_tt, if_ff, Nat.add_sub_cancel]
      rw [if_neg n1, if_neg n2, if_neg n3]
      by_cases c : nI n - nI n / nI 2 * nI 2 = 0
      · rw [if_pos (ei.mpr c), x_h96 (show isM (nI n) d k = d from if_pos c), x_h166 ht, nI_add]
      · rw [if_neg (fun q => c (ei.mp q)), x_h96 (show isM (nI n) d k = k from if_neg c), x_h166 ht, nI_add]
    · match tk, h2, h3, ht with
      | x :: t, h2, h3, ht =>
        have e := ih (i + 1) m ((!x) :: t) (by omega) hl hm' hc1 h3 ht
        have eb : stB d k (-1) (x :: t) = (!x) :: t := by
          unfold stB
          rw [if_pos (by decide), if_pos rfl]
        rw [eb, ← e, ← eb_not (by have : t.length + 1 ≤ 14 := ht; omega)]
        simp (maxSteps := 3000000) (disch := omega) only [g4, al, cl_some, nm_b, nn_some, qn_some, qn_none, zk_0, zk_1, zk_n0, zk_n1, nI_add, pk_mul, pk_sub, nI_leE, nI_ltE, nI_eqE, nI_lt0, nI_ge0, nI_eq0, nI_gt0, nI_le0, ilt_t, ilt_f, ile_t, ile_f, ieq_t, ieq_f, if_tt, if_ff, Nat.add_sub_cancel] <;> rfl
    · match tk, h2, h3, ht with
      | x :: y :: t, h2, h3, ht =>
        have ht2 : t.length ≤ 12 := by have : t.length + 1 + 1 ≤ 14 := ht; omega
        rcases hs with rfl | rfl
        · have e := ih (i + 1) m ((y && x) :: t) (by omega) hl hm' hc1 h3 (by simp; omega)
          have eb : stB d k (-2) (x :: y :: t) = (y && x) :: t := by
            unfold stB
            rw [if_pos (by decide), if_neg (by decide)]
            rfl
          rw [eb, ← e, ← eb_and ht2]
          simp (maxSteps := 3000000) (disch := omega) only [g4, al, cl_some, nm_b, nn_some, qn_some, qn_none, zk_0, zk_1, zk_n0, zk_n1, nI_add, pk_mul, pk_sub, nI_leE, nI_ltE, nI_eqE, nI_lt0, nI_ge0, nI_eq0, nI_gt0, nI_le0, ilt_t, ilt_f, ile_t, ile_f, ieq_t, ieq_f, if_tt, if_ff, Nat.add_sub_cancel] <;> rfl
        · have e := ih (i + 1) m ((y || x) :: t) (by omega) hl hm' hc1 h3 (by simp; omega)
          have eb : stB d k (-3) (x :: y :: t) = (y || x) :: t := by
            unfold stB
            rw [if_pos (by decide), if_neg (by decide)]
            rfl
          rw [eb, ← e, ← eb_or ht2]
          simp (maxSteps := 3000000) (disch := omega) only [g4, al, cl_some, nm_b, nn_some, qn_some, qn_none, zk_0, zk_1, zk_n0, zk_n1, nI_add, pk_mul, pk_sub, nI_leE, nI_ltE, nI_eqE, nI_lt0, nI_ge0, nI_eq0, nI_gt0, nI_le0, ilt_t, ilt_f, ile_t, ile_f, ieq_t, ieq_f, if_tt, if_ff, Nat.add_sub_cancel] <;> rfl
set_option maxRecDepth 100000 in
set_option maxHeartbeats 1000000 in
theorem x_chance9 {p pc pw pn pe w nc : Nat} {fs : List Value} {co cw cn ce : Nat → Int32} {d k : Int32} (hp : h p = some (ob 7 fs)) (h4 : fs[4]? = some (.ref pc)) (h6 : fs[6]? = some (.ref pw)) (h7 : fs[7]? = some (.ref pn)) (h8 : fs[8]? = some (.ref pe)) (h9 : fs[9]? = some (.int (nI nc))) (hpc : h pc = some (aI G 120 co)) (hpw : h pw = some (aI G 10 cw)) (hpn : h pn = some (aI G 10 cn)) (hpe : h pe = some (aI G 10 ce)) (hn10 : nc ≤ 10) (hw : w ≤ 1) : ∀ (sg : List Sg) (i q m : Nat) (sum : Int32), i + sg.length = nc → q + lenS sg ≤ 120 → sg.length < m → (∀ g ∈ sg, SgOk g) → SgAt co cw cn ce i q sg → F_X7_chance_9 G m h nx p (nI w) d k sum (nI q) (nI i) = some (capC (sgF w d k sg sum), h, nx) := by
  have ck7 : ∀ {α : Type} {f : Nat → Option α}, ck h p [7] f = f 7 := ck_at hp (by decide)
  have g6 : ∀ {f : Option Nat → Option (Int32 × Hp × Nat)}, gfR h p [7] 6 f = f (some pw) := gfR_at hp (by decide) h6
  have g7 : ∀ {f : Option Nat → Option (Int32 × Hp × Nat)}, gfR h p [7] 7 f = f (some pn) := gfR_at hp (by decide) h7
  have g8 : ∀ {f : Option Nat → Option (Int32 × Hp × Nat)}, gfR h p [7] 8 f = f (some pe) := gfR_at hp (by decide) h8
  have g9 : ∀ {f : Int32 → Option (Int32 × Hp × Nat)}, gfI h p [7] 9 f = f (nI nc) := gfI_at hp (by decide) h9
  intro sg
  induction sg with
  | nil =>
    intro i q m sum hi hl hm hk hs
    obtain ⟨m, rfl⟩ : ∃ q, m = q + 1 := ⟨m - 1, by omega⟩
    have hi : i = nc := hi
    subst hi
    rw [F_X7_chance_9_s]
    simp (maxSteps := 3000000) (disch := omega) only [g9, cl_some, nm_b, nn_some, qn_some, qn_none, zk_0, zk_1, zk_n0, zk_n1, nI_add, pk_mul, pk_sub, nI_leE, nI_ltE, nI_eqE, nI_lt0, nI_ge0, nI_eq0, nI_gt0, nI_le0, ilt_t, ilt_f, ile_t, ile_f, ieq_t, ieq_f, if_tt, if_ff, Nat.add_sub_cancel]
    rfl
  | cons g r ih =>
    intro i q m sum hi hl hm hk hs
    obtain ⟨m, rfl⟩ : ∃ q, m = q + 1 := ⟨m - 1, by omega⟩
    have hi : i + (r.length + 1) = nc := hi
    have hl : q + (g.2.2.length + lenS r) ≤ 120 := hl
    have hm' : r.length < m := by have : r.length + 1 < m + 1 := hm; omega
    obtain ⟨s1, s2, s3, s4, s5⟩ := hs
    obtain ⟨k1, ⟨n, hn, k2⟩, k3⟩ := hk g (by simp)
    have ih := ih (i + 1) (q + g.2.2.length) m
    have a6 : ∀ {f : Int32 → Option (Int32 × Hp × Nat)}, alI (g_c G 0) h pw (nI i) f = f g.1 := fun {f} => (alI_at hpw (by omega) (by decide)).trans (by rw [s1])
    have a7 : ∀ {f : Int32 → Option (Int32 × Hp × Nat)}, alI (g_c G 0) h pn (nI i) f = f g.2.1 := fun {f} => (alI_at hpn (by omega) (by decide)).trans (by rw [s2])
    have a8 : ∀ {f : Int32 → Option (Int32 × Hp × Nat)}, alI (g_c G 0) h pe (nI i) f = f (nI (q + g.2.2.length)) := fun {f} => (alI_at hpe (by omega) (by decide)).trans (by rw [s3])
    have eh := x_holds6 (nx := nx) (d := d) (k := k) hp h4 hpc g.2.2 q fuelL [] rfl (by omega) (by unfold fuelL; omega) s4 k3 (by simp)
    have eh : F_X7_holds G h nx p (nI q) (nI (q + g.2.2.length)) d k = some (b2i (hoB d k g.2.2), h, nx) := eh
    rw [F_X7_chance_9_s]
    unfold F_X7_chance_59
    rw [sgF_c]
    simp (maxSteps := 3000000) (disch := omega) only [g9, g6, a6, g8, a8, ck7, eh, g7, a7, cl_some, nm_b, nn_some, qn_some, qn_none, zk_0, zk_1, zk_n0, zk_n1, nI_add, pk_mul, pk_sub, nI_leE, nI_ltE, nI_eqE, nI_lt0, nI_ge0, nI_eq0, nI_gt0, nI_le0, ilt_t, ilt_f, ile_t, ile_f, ieq_t, ieq_f, if_tt, if_ff, Nat.add_sub_cancel]
    by_cases c1 : g.1 = nI w
    · rw [if_pos c1]
      cases hb : hoB d k g.2.2
      · rw [if_pos (show b2i false = 0 from rfl), if_neg (fun q => absurd q.1 (by decide))]
        exact (ih _ (by omega) (by omega) hm' (fun g hg => hk g (by simp [hg])) s5)
      · rw [if_neg (show ¬ b2i true = 0 by decide), if_pos ⟨rfl, c1⟩]
        exact (ih _ (by omega) (by omega) hm' (fun g hg => hk g (by simp [hg])) s5)
    · rw [if_neg c1, if_neg (fun q => c1 q.2)]
      exact ih _ (by omega) (by omega) hm' (fun g hg => hk g (by simp [hg])) s5
theorem x_chance {lo p a w : Nat} {s : Nat → Int32} {d k : Int32} (hs : SoAt G lo h p s a) (hw : w ≤ 1) : F_X7_chance G h nx p (nI w) d k = some (sumF s a (nI w) d k, h, nx) := by
  obtain ⟨pl, pt, pc, pw, pn, pe, l, co, cw, cn, ce, x2, x3, x5, sg, _, h1, h2, h3, h4, h5, h6, _, hl, hl2, hg, hat, e⟩ := hs
  rw [sum_sg hw hg e]
  exact x_chance9 h1 rfl rfl rfl rfl rfl h3 h4 h5 h6 hl hw sg 0 0 fuelL 0 (by omega) (by omega) (by unfold fuelL; omega) hg hat
end XS
