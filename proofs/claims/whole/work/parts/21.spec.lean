/-! THE REFERENCE's small methods. Same (v, h, nx): the answer, the heap as it was. -/
def bIn (v lo hi : Int32) : Int32 := if lo ≤ v ∧ v ≤ hi then 1 else 0
theorem bIn_z (v lo hi : Int32) : bIn v lo hi = 0 ∨ bIn v lo hi = 1 := by
  unfold bIn
  split
  · exact Or.inr rfl
  · exact Or.inl rfl
theorem bIn_1 {v lo hi : Int32} (h1 : lo ≤ v) (h2 : v ≤ hi) : bIn v lo hi = 1 := if_pos ⟨h1, h2⟩
theorem bIn_0l {v lo hi : Int32} (h1 : v < lo) : bIn v lo hi = 0 := if_neg (fun q => (Int32.not_lt.mpr q.1) h1)
theorem bIn_0r {v lo hi : Int32} (h1 : hi < v) : bIn v lo hi = 0 := if_neg (fun q => (Int32.not_lt.mpr q.2) h1)
def laterF (x : Int32) : Int32 := if x < nI 999 then x + nI 1 else nI 999
/-! THE REFERENCE's sum over the steps of a SORT -/
theorem ma_msa_n {st : MS} {k j : Nat} {f : Nat → Int32} (h : j ≠ k) : ma (msa st k f) j = ma st j := upK_n h
theorem ma_msa_s {st : MS} {k : Nat} {f : Nat → Int32} : ma (msa st k f) k = f := upK_s
theorem upK_upK {α : Type} {f : Nat → α} {k : Nat} {x y : α} : upK (upK f k x) k y = upK f k y := by
  funext j
  unfold upK
  split <;> rfl
theorem msa_msa {st : MS} {k : Nat} {f g : Nat → Int32} : msa (msa st k f) k g = msa st k g := by
  unfold msa
  rw [upK_upK]
theorem msa_self {st : MS} {k : Nat} : msa st k (ma st k) = st := by
  obtain ⟨a, b, c⟩ := st
  unfold msa ma
  refine congrArg (fun z => (a, z, c)) (funext fun j => ?_)
  unfold upK
  split
  · rename_i e; rw [e]
  · rfl
def b2i (x : Bool) : Int32 := if x then 1 else 0
theorem b2i_z (x : Bool) : b2i x = 0 ∨ b2i x = 1 := by cases x; exact Or.inl rfl; exact Or.inr rfl
theorem b2i_ne {x : Bool} (h : b2i x ≠ 0) : x = true := by cases x; exact absurd rfl h; rfl
theorem b2i_eq {x : Bool} (h : b2i x = 0) : x = false := by cases x; rfl; exact absurd h (by decide)
/-- the truths, the last first, as they lie in an array -/
def SR (tr : Nat → Int32) : List Bool → Prop
  | [] => True
  | x :: t => tr t.length = b2i x ∧ SR tr t
theorem SR_up {tr : Nat → Int32} {i : Nat} {v : Int32} : ∀ {tk : List Bool}, SR tr tk → tk.length ≤ i → SR (upK tr i v) tk
  | [], _, _ => trivial
  | x :: t, h, hl => by
    have hl' : t.length + 1 ≤ i := hl
    exact ⟨(upK_n (by omega)).trans h.1, SR_up h.2 (by omega)⟩
/-- the value that a test asks, then the test -/
def isM (s d k : Int32) : Int32 := if s - s / nI 2 * nI 2 = 0 then d else k
def tsM (s d k : Int32) : Bool := if s / nI 2 - s / nI 2 / nI 4 * nI 4 = 0 then decide (isM s d k < s / nI 8) else if s / nI 2 - s / nI 2 / nI 4 * nI 4 = nI 1 then decide (isM s d k = s / nI 8) else decide (s / nI 8 < isM s d k)
/-- what a step does with the truths and the sum -/
def stpC (w d k s : Int32) (tk : List Bool) (sum : Int32) : List Bool × Int32 :=
  if s < 0 then
    if s = -1 then (match tk with | x :: t => (!x) :: t | [] => [], sum)
    else if s ≤ -10 then ([], sum + (if tk.head? = some true ∧ (-10 - s) - (-10 - s) / nI 2 * nI 2 = w then (-10 - s) / nI 2 else 0))
    else (match tk with | x :: y :: t => (if s = -2 then (y && x) else (y || x)) :: t | _ => [], sum)
  else (tsM s d k :: tk, sum)
def runC (w d k : Int32) : List Int32 → List Bool → Int32 → Int32
  | [], _, sum => sum
  | s :: r, tk, sum => runC w d k r (stpC w d k s tk sum).1 (stpC w d k s tk sum).2
/-- the steps keep to a stack -/
def okC : List Int32 → Nat → Prop
  | [], t => t = 0
  | s :: r, t => (¬ s < 0 ∧ t < 14 ∧ okC r (t + 1)) ∨ (s = -1 ∧ 1 ≤ t ∧ okC r t) ∨ ((s = -2 ∨ s = -3) ∧ 2 ≤ t ∧ okC r (t - 1)) ∨ (s ≤ -10 ∧ t = 1 ∧ okC r 0)
def capC (x : Int32) : Int32 := if nI 1000 < x then nI 1000 else x
/-! THE REFERENCE's chances, and how known changes over a day -/
def sN (s : Nat → Int32) (k : Nat) : Nat := (s k).toNatClampNeg
def codeL (s : Nat → Int32) (a : Nat) : List Int32 := (List.range (sN s (130 + a))).map (fun j => s (170 + 140 * a + j))
def CodeOk (s : Nat → Int32) (a : Nat) : Prop := s (130 + a) = nI (sN s (130 + a)) ∧ sN s (130 + a) ≤ 140 ∧ okC (codeL s a) 0
def sumF (s : Nat → Int32) (a : Nat) (w d k : Int32) : Int32 := capC (runC w d k (codeL s a) [] 0)
/-- the same but for some fields -/
def FrM (ks : List Nat) (st st' : MS) : Prop := ∀ k : Nat, k ∉ ks → mi st' k = mi st k ∧ ma st' k = ma st k ∧ ml st' k = ml st k
theorem FrM.rf {ks : List Nat} {st : MS} : FrM ks st st := fun _ _ => ⟨rfl, rfl, rfl⟩
theorem FrM.trans {ks1 ks2 : List Nat} {a b c : MS} (h1 : FrM ks1 a b) (h2 : FrM ks2 b c) : FrM (ks1 ++ ks2) a c := fun k hk => by
  obtain ⟨p1, p2, p3⟩ := h1 k (fun q => hk (List.mem_append_left _ q))
  obtain ⟨q1, q2, q3⟩ := h2 k (fun q => hk (List.mem_append_right _ q))
  exact ⟨q1.trans p1, q2.trans p2, q3.trans p3⟩
theorem FrM.mono {ks1 ks2 : List Nat} {a b : MS} (h1 : FrM ks1 a b) (h : ∀ k ∈ ks1, k ∈ ks2) : FrM ks2 a b := fun k hk => h1 k (fun q => hk (h k q))
theorem FrM.msa {ks : List Nat} {st : MS} {k : Nat} {f : Nat → Int32} (h : k ∈ ks) : FrM ks st (msa st k f) := fun j hj => ⟨rfl, ma_msa_n (fun e => hj (e ▸ h)), rfl⟩
theorem FrM.msi {ks : List Nat} {st : MS} {k : Nat} {x : Int32} (h : k ∈ ks) : FrM ks st (msi st k x) := fun j hj => ⟨upK_n (fun e => hj (e ▸ h)), rfl, rfl⟩
theorem FrM.msl {ks : List Nat} {st : MS} {k : Nat} {f : Nat → Int64} (h : k ∈ ks) : FrM ks st (msl st k f) := fun j hj => ⟨rfl, rfl, upK_n (fun e => hj (e ▸ h))⟩
/-- a THING as the rows below need it -/
def ThOk (s : Nat → Int32) (t : Nat) : Prop := t < 8 ∧ s (1010 + t) = nI (sN s (1010 + t)) ∧ sN s (1010 + t) < 6 ∧ CodeOk s (sN s (1010 + t))
def valF (s : Nat → Int32) (t w : Nat) : Int32 := s (140 + 4 * sN s (1010 + t) + w)
def clipF (x : Int32) : Int32 := if x < 0 then 0 else if nI 1000 < x then nI 1000 else x
def illF (st : MS) (t : Nat) (d : Int32) : Int32 := clipF (sumF (ma st 1) (sN (ma st 1) (1010 + t)) (nI 0) d (ma st 1 (1018 + t)) + (if nI t = mi st 10 then mi st 11 else nI 0))
def healF (s : Nat → Int32) (t : Nat) (d : Int32) : Int32 := sumF s (sN s (1010 + t)) (nI 1) d (s (1018 + t))
def overF (st : MS) (t : Nat) (known d : Int32) : Int32 := (known.toInt64 * (nI 1000 - illF st t d).toInt64 / 1000 + (nI 1000000 - known).toInt64 * (healF (ma st 1) t d).toInt64 / 1000).toInt32
theorem illF_fr {st st1 : MS} {ks : List Nat} (h : FrM ks st st1) (h1 : 1 ∉ ks) (h2 : 10 ∉ ks) (h3 : 11 ∉ ks) : illF st1 = illF st := by
  unfold illF
  rw [(h 1 h1).2.1, (h 10 h2).1, (h 11 h3).1]
theorem overF_fr {st st1 : MS} {ks : List Nat} (h : FrM ks st st1) (h1 : 1 ∉ ks) (h2 : 10 ∉ ks) (h3 : 11 ∉ ks) : overF st1 = overF st := by
  unfold overF
  rw [illF_fr h h1 h2 h3, (h 1 h1).2.1]
/-! THE REFERENCE: a day's end for all things, what a day brings, the rows of the days to come -/
/-- alike but for known and days -/
def AgS (s s' : Nat → Int32) : Prop := ∀ k : Nat, (k < 1034 ∨ 1050 ≤ k) → s' k = s k
theorem AgS.rf {s : Nat → Int32} : AgS s s := fun _ _ => rfl
theorem AgS.trans {a b c : Nat → Int32} (h1 : AgS a b) (h2 : AgS b c) : AgS a c := fun k hk => (h2 k hk).trans (h1 k hk)
theorem AgS.up {s : Nat → Int32} {k : Nat} {x : Int32} (h1 : 1034 ≤ k) (h2 : k < 1050) : AgS s (upK s k x) := fun j hj => upK_n (by omega)
theorem sN_ag {s s' : Nat → Int32} (h : AgS s s') {k : Nat} (hk : k < 1034 ∨ 1050 ≤ k) : sN s' k = sN s k := by unfold sN; rw [h k hk]
theorem codeL_ag {s s' : Nat → Int32} (h : AgS s s') {a : Nat} (ha : a < 6) (hl : sN s (130 + a) ≤ 140) : codeL s' a = codeL s a := by
  unfold codeL
  rw [sN_ag h (by omega)]
  refine List.map_congr_left (fun j hj => h _ ?_)
  have := List.mem_range.mp hj
  omega
theorem CodeOk_ag {s s' : Nat → Int32} (h : AgS s s') {a : Nat} (ha : a < 6) (hc : CodeOk s a) : CodeOk s' a := by
  obtain ⟨h1, h2, h3⟩ := hc
  refine ⟨?_, ?_, ?_⟩
  · rw [sN_ag h (by omega), h _ (by omega)]; exact h1
  · rw [sN_ag h (by omega)]; exact h2
  · rw [codeL_ag h ha h2]; exact h3
theorem sumF_ag {s s' : Nat → Int32} (h : AgS s s') {a : Nat} (ha : a < 6) (hc : CodeOk s a) : sumF s' a = sumF s a := by
  unfold sumF
  rw [codeL_ag h ha hc.2.1]
theorem ThOk_ag {s s' : Nat → Int32} (h : AgS s s') {t : Nat} (ht : ThOk s t) : ThOk s' t := by
  obtain ⟨h1, h2, h3, h4⟩ := ht
  have e := sN_ag h (k := 1010 + t) (by omega)
  refine ⟨h1, ?_, ?_, ?_⟩
  · rw [e, h _ (by omega)]; exact h2
  · rw [e]; exact h3
  · rw [e]; exact CodeOk_ag h h3 h4
theorem valF_ag {s s' : Nat → Int32} (h : AgS s s') {t w : Nat} (ht : ThOk s t) (hw : w < 4) : valF s' t w = valF s t w := by
  obtain ⟨h1, h2, h3, h4⟩ := ht
  unfold valF
  rw [sN_ag h (k := 1010 + t) (by omega)]
  exact h _ (by omega)
theorem healF_ag {s s' : Nat → Int32} (h : AgS s s') {t : Nat} (ht : ThOk s t) : healF s' t = healF s t := by
  obtain ⟨h1, h2, h3, h4⟩ := ht
  unfold healF
  rw [sN_ag h (k := 1010 + t) (by omega), sumF_ag h h3 h4, h _ (by omega)]
theorem illF_ag {st st' : MS} (h : AgS (ma st 1) (ma st' 1)) (e1 : mi st' 10 = mi st 10) (e2 : mi st' 11 = mi st 11) {t : Nat} (ht : ThOk (ma st 1) t) : illF st' t = illF st t := by
  obtain ⟨h1, h2, h3, h4⟩ := ht
  unfold illF
  rw [sN_ag h (k := 1010 + t) (by omega), sumF_ag h h3 h4, h (1018 + t) (by omega), e1, e2]
theorem overF_ag {st st' : MS} (h : AgS (ma st 1) (ma st' 1)) (e1 : mi st' 10 = mi st 10) (e2 : mi st' 11 = mi st 11) {t : Nat} (ht : ThOk (ma st 1) t) : overF st' t = overF st t := by
  unfold overF
  rw [illF_ag h e1 e2 ht, healF_ag h ht]
def ovStep (st : MS) (t : Nat) : MS := msa st 1 (upK (upK (ma st 1) (1034 + t) (overF st t (ma st 1 (1034 + t)) (ma st 1 (1042 + t)))) (1042 + t) (laterF (ma st 1 (1042 + t))))
def ovS (st : MS) : Nat → MS
  | 0 => st
  | j + 1 => ovStep (ovS st j) j
theorem ovStep_ag {st : MS} {t : Nat} (ht : t < 8) : AgS (ma st 1) (ma (ovStep st t) 1) := by
  unfold ovStep
  rw [ma_msa_s]
  exact (AgS.up (by omega) (by omega)).trans (AgS.up (by omega) (by omega))
theorem ovS_ag {st : MS} : ∀ {j : Nat}, j ≤ 8 → AgS (ma st 1) (ma (ovS st j) 1)
  | 0, _ => AgS.rf
  | j + 1, h => (ovS_ag (by omega)).trans (ovStep_ag (by omega))
theorem FrM.of1 {st st' : MS} {ks : List Nat} (h : FrM ks st st') (k : Nat) (hk : k ∉ ks) : mi st' k = mi st k := (h k hk).1
theorem FrM.ofa {st st' : MS} {ks : List Nat} (h : FrM ks st st') (k : Nat) (hk : k ∉ ks) : ma st' k = ma st k := (h k hk).2.1
theorem FrM.ofl {st st' : MS} {ks : List Nat} (h : FrM ks st st') (k : Nat) (hk : k ∉ ks) : ml st' k = ml st k := (h k hk).2.2
theorem ovStep_fr {st st1 : MS} {t : Nat} (h : FrM [9] st st1) : FrM [9] (ovStep st t) (ovStep st1 t) := fun k hk => by
  unfold ovStep
  rw [overF_fr h (by decide) (by decide) (by decide), h.ofa 1 (by decide)]
  refine ⟨h.of1 k hk, ?_, h.ofl k hk⟩
  by_cases e : k = 1
  · rw [e, ma_msa_s, ma_msa_s]
  · rw [ma_msa_n e, ma_msa_n e]
    exact h.ofa k hk
def brF (s : Nat → Int32) (t : Nat) (kn : Int32) : Int64 := kn.toInt64 * (valF s t 0).toInt64 / 1000 - (nI 1000000 - kn).toInt64 * (valF s t 1).toInt64 / 1000
/-! THE REFERENCE: the rows of the days to come; the best of them, kept by a stamp -/
theorem mi_msi_s {st : MS} {k : Nat} {x : Int32} : mi (msi st k x) k = x := upK_s
theorem mi_msi_n {st : MS} {k j : Nat} {x : Int32} (h : j ≠ k) : mi (msi st k x) j = mi st j := upK_n h
theorem ml_msl_s {st : MS} {k : Nat} {f : Nat → Int64} : ml (msl st k f) k = f := upK_s
theorem ml_msl_n {st : MS} {k j : Nat} {f : Nat → Int64} (h : j ≠ k) : ml (msl st k f) j = ml st j := upK_n h
def rowSt (st : MS) (t kind : Nat) : Int32 × Int32 :=
  if kind = 0 then (ma st 1 (1034 + t), ma st 1 (1042 + t))
  else
    let k0 : Int32 := if kind = 1 ∨ 0 < valF (ma st 1) t 3 then nI 1000000 else nI 0
    (overF st t k0 (nI 0), laterF (nI 0))
def rowK (st : MS) (t kind : Nat) : Nat → Int32 × Int32
  | 0 => rowSt st t kind
  | j + 1 => (overF st t (rowK st t kind j).1 (rowK st t kind j).2, laterF (rowK st t kind j).2)
theorem ma_fr1 {st st1 : MS} {ks : List Nat} (h : FrM ks st st1) (h1 : 1 ∉ ks) : ma st1 1 = ma st 1 := h.ofa 1 h1
/-! THE REFERENCE: best, not, looked from a place of a row on; what is kept by a stamp -/
/-- best, not, looked of n days from a place on -/
def bP (st : MS) (t : Nat) : Nat → Nat → Int64 × Int64 × Int64
  | 0, _ => (0, 0, 0)
  | n + 1, p =>
    let day := brF (ma st 1) t (ma st 12 p)
    let nt := 1000 * (mi st 20).toInt64 + day + (bP st t n (p + 1)).1
    let lk := day - 1000 * (valF (ma st 1) t 2).toInt64 + ((ma st 12 p).toInt64 * (bP st t n 9).1 + (nI 1000000 - ma st 12 p).toInt64 * ((bP st t n 18).1 - 1000 * (valF (ma st 1) t 3).toInt64)) / 1000000
    (if nt ≤ lk then lk else nt, nt, lk)
theorem bP_fr {st st1 : MS} {ks : List Nat} (h : FrM ks st st1) (h1 : 1 ∉ ks) (h2 : 12 ∉ ks) (h3 : 20 ∉ ks) {t : Nat} : ∀ (n p : Nat), bP st1 t n p = bP st t n p
  | 0, _ => rfl
  | n + 1, p => by
    unfold bP
    rw [bP_fr h h1 h2 h3 n (p + 1), bP_fr h h1 h2 h3 n 9, bP_fr h h1 h2 h3 n 18, h.ofa 1 h1, h.ofa 12 h2, h.of1 20 h3]
def MemoOk (st : MS) (t : Nat) : Prop := ∀ p n : Nat, 1 ≤ n → n ≤ 8 → p + n ≤ 27 → ma st 17 (9 * p + n) = mi st 18 → ml st 14 (9 * p + n) = (bP st t n p).1 ∧ ml st 15 (9 * p + n) = (bP st t n p).2.1 ∧ ml st 16 (9 * p + n) = (bP st t n p).2.2
theorem memo_put {st st1 : MS} {t n p : Nat} (h : MemoOk st t) (hn : 1 ≤ n) (hn8 : n ≤ 8) (hF : FrM [14, 15, 16, 17] st st1) (h17 : ma st1 17 = upK (ma st 17) (9 * p + n) (mi st 18)) (h14 : ml st1 14 = upK (ml st 14) (9 * p + n) (bP st t n p).1) (h15 : ml st1 15 = upK (ml st 15) (9 * p + n) (bP st t n p).2.1) (h16 : ml st1 16 = upK (ml st 16) (9 * p + n) (bP st t n p).2.2) : MemoOk st1 t := by
  intro p' n' h1 h8 hp hs
  rw [bP_fr hF (by decide) (by decide) (by decide), h14, h15, h16]
  by_cases e : 9 * p' + n' = 9 * p + n
  · have en : n' = n := by omega
    have ep : p' = p := by omega
    subst en; subst ep
    exact ⟨upK_s, upK_s, upK_s⟩
  · rw [upK_n e, upK_n e, upK_n e]
    rw [h17, upK_n e, hF.of1 18 (by decide)] at hs
    exact h p' n' h1 h8 hp hs
/-- what a call leaves of the stamps -/
def Stm (st st1 : MS) : Prop := ∀ i : Nat, ma st1 17 i = ma st 17 i ∨ ma st1 17 i = mi st 18
theorem Stm.rf {st : MS} : Stm st st := fun _ => Or.inl rfl
theorem Stm.trans {a b c : MS} (h1 : Stm a b) (h2 : Stm b c) (e : mi b 18 = mi a 18) : Stm a c := fun i => by
  rcases h2 i with q | q
  · rcases h1 i with q1 | q1
    · exact Or.inl (q.trans q1)
    · exact Or.inr (q.trans q1)
  · exact Or.inr (q.trans e)
/-! THE REFERENCE: best by a wage, numbers -/
/-- all stamps are at most the present one, which is N -/
def StOk (st : MS) (N : Nat) : Prop := mi st 18 = nI N ∧ ∀ i : Nat, ∃ m : Nat, m ≤ N ∧ ma st 17 i = nI m
def KB : List Nat := [14, 15, 16, 17, 18, 20]
theorem bP_cg {st st1 : MS} (h1 : ma st1 1 = ma st 1) (h20 : mi st1 20 = mi st 20) (h12 : ∀ i, i < 27 → ma st1 12 i = ma st 12 i) {t : Nat} : ∀ (n p : Nat), p + n ≤ 27 → n ≤ 8 → bP st1 t n p = bP st t n p
  | 0, _, _, _ => rfl
  | n + 1, p, hp, hn => by
    unfold bP
    rw [bP_cg h1 h20 h12 n (p + 1) (by omega) (by omega), bP_cg h1 h20 h12 n 9 (by omega) (by omega), bP_cg h1 h20 h12 n 18 (by omega) (by omega), h1, h20, h12 p (by omega)]
def nwF (st : MS) (t n : Nat) (w : Int32) : Bool := decide ((bP (msi st 20 w) t n 0).2.2 ≤ (bP (msi st 20 w) t n 0).2.1)
/-- the state with the rows of a thing laid -/
def rwS (st : MS) (t : Nat) : MS := msi (msa st 12 (fun i => (rowK st t (i / 9) (i % 9)).1)) 19 (nI t)
def srch (f : Nat → Bool) : Nat → Nat → Int32
  | _, 0 => -5
  | w, r + 1 => if f w then nI w else srch f (w + 1) r
def nmF (st : MS) (t n : Nat) : Int32 := srch (fun w => nwF (rwS st t) t n (nI w)) 0 201
theorem nwF_cg {st st1 : MS} {t n : Nat} (hn : n ≤ 8) (h1 : ma st1 1 = ma st 1) (h12 : ∀ i, i < 27 → ma st1 12 i = (rowK st t (i / 9) (i % 9)).1) (w : Int32) : nwF st1 t n w = nwF (rwS st t) t n w := by
  unfold nwF
  rw [bP_cg (st := msi (rwS st t) 20 w) (st1 := msi st1 20 w) h1 (mi_msi_s.trans mi_msi_s.symm) (fun i hi => (h12 i hi).trans (congrFun (upK_s (f := st.2.1) (k := 12) (x := fun i => (rowK st t (i / 9) (i % 9)).1)) i).symm) n 0 (by omega) hn]
def wgF (x : Int32) : Int32 := if x = -5 then nI 201 else x
def lkF (s : Nat → Int32) : Int32 := if s 4 < s 1 then s 4 else s 1
def cnF (x : Int32) : Nat → Int32
  | 0 => nI 0
  | k + 1 => cnF x k + (x >>> (nI k &&& 31) &&& nI 1)
/-! THE REFERENCE: whom a plan looks at -/
def KW : List Nat := [9, 12, 13, 19] ++ KB
theorem KW_1 : 1 ∉ KW := by decide
theorem KW_10 : 10 ∉ KW := by decide
theorem KW_11 : 11 ∉ KW := by decide
/-- a PLAN's kind and number -/
def PlOk (s : Nat → Int32) (p : Nat) : Prop := p < 12 ∧ s (1070 + p) = nI (sN s (1070 + p)) ∧ sN s (1070 + p) ≤ 6 ∧ s (1082 + p) = nI (sN s (1082 + p)) ∧ sN s (1082 + p) ≤ 99
def woF (st : MS) (p t : Nat) : Int32 :=
  if sN (ma st 1) (1070 + p) = 1 then wgF (nmF st t (1 + sN (ma st 1) (1082 + p) % 3))
  else if sN (ma st 1) (1070 + p) = 3 then nI 1000000 - ma st 1 (1034 + t)
  else if sN (ma st 1) (1070 + p) = 5 then ma st 1 (1042 + t)
  else nI 0
theorem nmF_fr {st st1 : MS} {ks : List Nat} (h : FrM ks st st1) (h1 : 1 ∉ ks) (h2 : 10 ∉ ks) (h3 : 11 ∉ ks) {t n : Nat} (hn : n ≤ 8) : nmF st1 t n = nmF st t n := by
  have eo := overF_fr h h1 h2 h3
  have ek : ∀ kk j, rowK st1 t kk j = rowK st t kk j := by
    intro kk j
    induction j with
    | zero =>
      unfold rowK rowSt
      rw [h.ofa 1 h1, eo]
    | succ j ih =>
      unfold rowK
      rw [ih, eo]
  unfold nmF
  refine congrArg (fun f => srch f 0 201) (funext fun w => ?_)
  unfold nwF
  rw [bP_cg (st := msi (rwS st t) 20 (nI w)) (st1 := msi (rwS st1 t) 20 (nI w)) (h.ofa 1 h1) (mi_msi_s.trans mi_msi_s.symm) (fun i hi => by
    have e : ∀ z : MS, ma (rwS z t) 12 = fun i => (rowK z t (i / 9) (i % 9)).1 := fun z => ma_msa_s (st := z) (k := 12) (f := fun i => (rowK z t (i / 9) (i % 9)).1)
    show ma (rwS st1 t) 12 i = ma (rwS st t) 12 i
    rw [e, e]
    exact congrArg Prod.fst (ek _ _)) n 0 (by omega) hn]
theorem woF_fr {st st1 : MS} {ks : List Nat} (h : FrM ks st st1) (h1 : 1 ∉ ks) (h2 : 10 ∉ ks) (h3 : 11 ∉ ks) {p t : Nat} : woF st1 p t = woF st p t := by
  unfold woF
  rw [h.ofa 1 h1, nmF_fr h h1 h2 h3 (by omega)]
/-! THE REFERENCE: one after the other; as told -/
def bitI (set : Int32) (t : Nat) : Int32 := set >>> (nI t &&& 31) &&& nI 1
/-- how many are looked at -/
def LkOk (s : Nat → Int32) (nt lk : Nat) : Prop := s 1 = nI nt ∧ nt ≤ 8 ∧ lkF s = nI lk ∧ lk ≤ nt
def tuF (s1 fr : Int32) : Nat → Int32
  | 0 => nI 0
  | n + 1 => tuF s1 fr n ||| (nI 1 <<< ((fr + nI n - (fr + nI n) / s1 * s1) &&& 31))
def toF (all lk : Int32) : Nat → Int32
  | 0 => nI 0
  | t + 1 => toF all lk t ||| (if bitI all t = nI 1 ∧ cnF (toF all lk t) 8 < lk then nI 1 <<< (nI t &&& 31) else nI 0)
def tdF (s : Nat → Int32) (p dd nt lk : Nat) : Int32 := if sN s (1094 + p) = 0 then nI 0 else toF (s (1110 + 10 * p + dd % sN s (1094 + p))) (nI lk) nt
/-! THE REFERENCE: those of the greatest worth; whom a plan looks at -/
def KX : List Nat := KW ++ [21]
def pickF (W : Nat → Int32) (set : Int32) : Nat → Int32
  | 0 => -1
  | t + 1 => if bitI set t = nI 0 ∧ (pickF W set t = -1 ∨ W (pickF W set t).toNatClampNeg < W t) then nI t else pickF W set t
theorem pick_s (W : Nat → Int32) (set : Int32) (t : Nat) : pickF W set (t + 1) = if bitI set t = nI 0 ∧ (pickF W set t = -1 ∨ W (pickF W set t).toNatClampNeg < W t) then nI t else pickF W set t := rfl
theorem pick_or (W : Nat → Int32) (set : Int32) : ∀ t : Nat, pickF W set t = -1 ∨ ∃ j : Nat, j < t ∧ pickF W set t = nI j
  | 0 => Or.inl rfl
  | t + 1 => by
    unfold pickF
    split
    · exact Or.inr ⟨t, by omega, rfl⟩
    · rcases pick_or W set t with h | ⟨j, h1, h2⟩
      · exact Or.inl h
      · exact Or.inr ⟨j, by omega, h2⟩
theorem pick_cg {W W' : Nat → Int32} {set : Int32} : ∀ {t : Nat}, t < 2 ^ 31 → (∀ j, j < t → W' j = W j) → pickF W' set t = pickF W set t
  | 0, _, _ => rfl
  | t + 1, ht, h => by
    have ih := pick_cg (W := W) (W' := W') (set := set) (t := t) (by omega) (fun j hj => h j (by omega))
    unfold pickF
    rw [ih, h t (by omega)]
    rcases pick_or W set t with q | ⟨j, h1, h2⟩
    · rw [q]
      simp
    · rw [h2, nI_clamp (by omega), h j (by omega)]
def grF (W : Nat → Int32) (nt : Nat) : Nat → Int32
  | 0 => nI 0
  | n + 1 => grF W nt n ||| (nI 1 <<< (pickF W (grF W nt n) nt &&& 31))
theorem gr_cg {W W' : Nat → Int32} {nt : Nat} (hn : nt < 2 ^ 31) (h : ∀ j, j < nt → W' j = W j) : ∀ n : Nat, grF W' nt n = grF W nt n
  | 0 => rfl
  | n + 1 => by
    unfold grF
    rw [gr_cg hn h n, pick_cg hn h]
/-! THE REFERENCE: whom on a day; what all bring on a day -/
def whF (st : MS) (p dd nt lk : Nat) : Int32 :=
  if nt = 0 then nI 0
  else if sN (ma st 1) (1070 + p) = 2 then tuF (nI nt) (nI ((dd * lk + sN (ma st 1) (1082 + p)) % nt)) lk
  else if sN (ma st 1) (1070 + p) = 4 then tuF (nI nt) (nI ((31 * dd + 17 * sN (ma st 1) (1082 + p)) % 97 % nt)) lk
  else if sN (ma st 1) (1070 + p) = 6 then tdF (ma st 1) p dd nt lk
  else grF (woF st p) nt lk
/-- a plan, with its row -/
def PrOk (s : Nat → Int32) (p : Nat) : Prop := PlOk s p ∧ s (1094 + p) = nI (sN s (1094 + p)) ∧ sN s (1094 + p) ≤ 10
def baF (s : Nat → Int32) : Nat → Int64
  | 0 => 0
  | t + 1 => baF s t + brF s t (s (1034 + t))
