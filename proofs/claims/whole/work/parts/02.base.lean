/-! what is there beside the objects, and stays: the texts, who is no one of a kind -/
def txL : List (String × Nat × String) := [("GateWatch$Sort", 73, "ill"), ("GateWatch$Sort", 75, "heal"), ("GateWatch$Sort", 77, "well"), ("GateWatch$Sort", 79, "bad"), ("GateWatch$Sort", 81, "look"), ("GateWatch$Sort", 83, "mend"), ("GateWatchModel", 123, "ill "), ("GateWatchModel", 125, "heal "), ("GateWatchModel", 134, "well "), ("GateWatchModel", 140, "bad "), ("GateWatchModel", 142, "look "), ("GateWatchModel", 144, "mend ")]
def txN : List Nat := [3, 4, 4, 3, 4, 4, 4, 5, 5, 4, 5, 5]
def txB : List (List Int32) := [[105, 108, 108], [104, 101, 97, 108], [119, 101, 108, 108], [98, 97, 100], [108, 111, 111, 107], [109, 101, 110, 100], [105, 108, 108, 32], [104, 101, 97, 108, 32], [119, 101, 108, 108, 32], [98, 97, 100, 32], [108, 111, 111, 107, 32], [109, 101, 110, 100, 32]]
def ncL : List (String × String) := [("GateWatch$Numbered", "GateWatch$Told"), ("GateWatch$Turn", "GateWatch$Told"), ("GateWatch$Near", "GateWatch$Told"), ("GateWatch$Drawn", "GateWatch$Told"), ("GateWatch$Far", "GateWatch$Told"), ("GateWatch$Plan", "GateWatch$Told"), ("GateWatch$Turn", "GateWatch$Numbered"), ("GateWatch$Near", "GateWatch$Numbered"), ("GateWatch$Drawn", "GateWatch$Numbered"), ("GateWatch$Far", "GateWatch$Numbered"), ("GateWatch$Told", "GateWatch$Numbered"), ("GateWatch$Plan", "GateWatch$Numbered"), ("GateWatch$Numbered", "GateWatch$Turn"), ("GateWatch$Near", "GateWatch$Turn"), ("GateWatch$Far", "GateWatch$Turn"), ("GateWatch$Told", "GateWatch$Turn"), ("GateWatch$Plan", "GateWatch$Turn"), ("GateWatch$Numbered", "GateWatch$Near"), ("GateWatch$Turn", "GateWatch$Near"), ("GateWatch$Drawn", "GateWatch$Near"), ("GateWatch$Told", "GateWatch$Near"), ("GateWatch$Plan", "GateWatch$Near"), ("GateWatch$Numbered", "GateWatch$Drawn"), ("GateWatch$Turn", "GateWatch$Drawn"), ("GateWatch$Near", "GateWatch$Drawn"), ("GateWatch$Far", "GateWatch$Drawn"), ("GateWatch$Told", "GateWatch$Drawn"), ("GateWatch$Plan", "GateWatch$Drawn"), ("GateWatch$Numbered", "GateWatch$Far"), ("GateWatch$Turn", "GateWatch$Far"), ("GateWatch$Near", "GateWatch$Far"), ("GateWatch$Drawn", "GateWatch$Far"), ("GateWatch$Told", "GateWatch$Far"), ("GateWatch$Plan", "GateWatch$Far")]
def nsL : List (String × Nat × MethodName × String) := [("GateWatch", 13, ⟨"GateWatch$Book", "<init>", "()V"⟩, "GateWatch"), ("GateWatch$Outlook", 108, ⟨"GateWatch", "bothWays", "(IJJ)J"⟩, "GateWatch"), ("GateWatch$Tree", 148, ⟨"GateWatch", "bothWays", "(IJJ)J"⟩, "GateWatch")]
def csL : List (String × String) := [("[B", "java/lang/Cloneable"), ("GateWatch$Drawn", "GateWatch$Turn"), ("GateWatch$Far", "GateWatch$Near"), ("GateWatch$Numbered", "GateWatch$Plan"), ("GateWatch$Turn", "GateWatch$Plan"), ("GateWatch$Near", "GateWatch$Plan"), ("GateWatch$Drawn", "GateWatch$Plan"), ("GateWatch$Far", "GateWatch$Plan"), ("GateWatch$Told", "GateWatch$Plan")]
def va_AOA (ty : FieldType) (U : State) : Prop := (Cond.arrayOver (.array ty)).before #[] U = true
theorem va_AOA.use {ty : FieldType} {A : Array Value} {U : State} (h : va_AOA ty U) : (Cond.arrayOver (.array ty)).before A U = true := h
def nc_RO (U : State) : Prop := (∀ q ∈ ncL, va_Nc q.1 q.2 U) ∧ (∀ q ∈ csL, va_Nw (.castable q.1 q.2) U) ∧ ∀ q ∈ nsL, va_Nw (.methodLinkNest q.1 q.2.1 q.2.2.1 q.2.2.2) U
/-! BASE: one judgement for a method's frame over a heap that is a function from addresses (base + place) to cells; every method stands on the same words tbG; new cells come at the heap's end. -/
abbrev Hp : Type := Nat → Option va_E
abbrev Lc : Type := List (Option Value)
abbrev Mt : Type := MethodName × ByteArray × Nat × Option FieldType × String × Nat × Nat
def m_y (M : Mt) : MethodName := M.1
def m_cc (M : Mt) : ByteArray := M.2.1
def m_nL (M : Mt) : Nat := M.2.2.1
def m_rt (M : Mt) : Option FieldType := M.2.2.2.1
def m_own (M : Mt) : String := M.2.2.2.2.1
def m_mc (M : Mt) : Nat := M.2.2.2.2.2.1
def m_ms (M : Mt) : Nat := M.2.2.2.2.2.2
/-- what is fixed: launch, where the classes' numbers and slots lie, the array classes, the base, the script, the texts -/
abbrev Gx : Type := Launch × va_G × (Nat → ClassId) × Nat × (Nat × Nat × (Nat → Int32)) × (Nat → Nat) × (Nat → Nat)
def g_l (G : Gx) : Launch := G.1
def g_D (G : Gx) : va_G := G.2.1
def g_c (G : Gx) : Nat → ClassId := G.2.2.1
def g_B (G : Gx) : Nat := G.2.2.2.1
def g_b (G : Gx) : Nat := G.2.2.2.2.1.1
def g_L (G : Gx) : Nat := G.2.2.2.2.1.2.1
def g_xs (G : Gx) : Nat → Int32 := G.2.2.2.2.1.2.2
def g_sK (G : Gx) : Nat → Nat := G.2.2.2.2.2.1
def g_sV (G : Gx) : Nat → Nat := G.2.2.2.2.2.2
def g_ty (G : Gx) : List (ClassId × FieldType) := [(g_c G 0, .int), (g_c G 1, .long), (g_c G 2, .byte), (g_c G 3, .boolean), (g_c G 4, .object "GateWatch$Sort"), (g_c G 5, .object "GateWatch$Plan"), (g_c G 6, .array .int)]
/-- what a cell holds -/
def ob (ci : Nat) (fs : List Value) : va_E := .inr (ci, fs)
def aI (G : Gx) (n : Nat) (f : Nat → Int32) : va_E := .inl (g_c G 0, n, .inl f)
def aJ (G : Gx) (n : Nat) (f : Nat → Int64) : va_E := .inl (g_c G 1, n, .inr (.inl f))
def aB (G : Gx) (n : Nat) (f : Nat → Int32) : va_E := .inl (g_c G 2, n, .inl f)
def aZ (G : Gx) (n : Nat) (f : Nat → Int32) : va_E := .inl (g_c G 3, n, .inl f)
def aS (G : Gx) (n : Nat) (f : Nat → Option Nat) : va_E := .inl (g_c G 4, n, .inr (.inr (.inr (.inr f))))
def aP (G : Gx) (n : Nat) (f : Nat → Option Nat) : va_E := .inl (g_c G 5, n, .inr (.inr (.inr (.inr f))))
def aG (G : Gx) (n : Nat) (f : Nat → Option Nat) : va_E := .inl (g_c G 6, n, .inr (.inr (.inr (.inr f))))
def hset (h : Hp) (a : Nat) (e : va_E) : Hp := fun q => if q = a then some e else h q
theorem hset_same {h : Hp} {a : Nat} {e : va_E} : hset h a e a = some e := if_pos rfl
theorem hset_ne {h : Hp} {a q : Nat} {e : va_E} (n : q ≠ a) : hset h a e q = h q := if_neg n
abbrev gA (G : Gx) : Nat → Prop := fun q => g_B G ≤ q
/-- the heap's picture, nx cells behind the base -/
def Wd (G : Gx) (h : Hp) (nx : Nat) (H : Heap) : Prop := H.size = g_B G + nx ∧ ∀ (a : Nat) (e : va_E), h a = some e → g_B G ≤ a ∧ va_at (g_D G) vwCl (a, e) H
def tx_RO (G : Gx) (U : State) (H : Heap) : Prop := vk_S 12 txN txB (g_sK G) (g_sV G) (gA G) U H ∧ (∀ i : Nat, i < 12 → vk_R (txL.getD i ("", 0, "")).1 (txL.getD i ("", 0, "")).2.1 (txL.getD i ("", 0, "")).2.2 (g_sK G i) U) ∧ va_Z "java/lang/String" "COMPACT_STRINGS" "Z" (.int 1) (gA G) U H ∧ va_Zq "jdk/internal/util/Preconditions" "SIOOBE_FORMATTER" "Ljava/util/function/BiFunction;" (gA G) U H
/-- what is there beside it, and stays -/
def RO (G : Gx) (U : State) (H : Heap) : Prop := va_K (g_D G) vwCl (g_ty G) U ∧ va_X (g_b G) (g_L G) (g_xs G) U H ∧ g_b G < g_B G ∧ g_B G ≤ H.size ∧ tx_RO G U H ∧ nc_RO U ∧ va_AO "GateWatch$Sort" U ∧ va_AO "GateWatch$Plan" U ∧ va_AOA .int U
def rmAt (M : Mt) (d : Nat) : Room := { frames := d + 1, cells := m_mc M, slots := m_ms M, locals := 48 * (d + 1) }
def Cx (G : Gx) (M : Mt) (p : Program) (s : State) (m : MethodId) (args : Array Value) (meth : Method) (c : Code) : Prop :=
  p.tables.exec = Jvm.exec ∧ c.code = m_cc M ∧ meth.sig.returnType = m_rt M ∧ c.maxLocals = m_nL M ∧ s.vm.findClass (m_own M) = some m.cls ∧ (∀ w ∈ tbG, w.before args s = true) ∧ meth.locks = false ∧ meth.name = (m_y M).name ∧ RO G s s.heap
def lpairs (ls : Lc) : List (Nat × Value) := ls.zipIdx.filterMap (fun q => q.1.map (fun v => (q.2, v)))
theorem lpairs_mem {ls : Lc} {i : Nat} {v : Value} : (i, v) ∈ lpairs ls ↔ ls[i]? = some (some v) := by
  simp only [lpairs, List.mem_filterMap, Prod.exists, List.mem_zipIdx_iff_getElem?, Option.map_eq_some_iff, Prod.mk.injEq]
  constructor
  · rintro ⟨a, b, h, w, h2, rfl, rfl⟩
    rw [h, h2]
  · intro h
    exact ⟨some v, i, h, v, rfl, rfl, rfl⟩
def Lh (ls0 : Array Slot) (nL : Nat) (ls : Lc) : Prop := lv_has ls0 nL (lpairs ls)
theorem Lh.at {ls0 : Array Slot} {nL : Nat} {ls : Lc} {i : Nat} {v : Value} (h : Lh ls0 nL ls) (e : ls[i]? = some (some v)) : ls0[i]? = some (.val v) := h.2.2 (i, v) (lpairs_mem.mpr e)
/-- what lies two wide just below a store is lost -/
def unw (x : Option Value) : Option Value := match x with
  | some (.long _) => none
  | some (.double _) => none
  | y => y
def lst1 : Lc → Nat → Value → Lc
  | [], _, _ => []
  | _ :: r, 0, v => some v :: r
  | x :: r, 1, v => unw x :: (match r with | [] => [] | _ :: r' => some v :: r')
  | x :: r, n + 2, v => x :: lst1 r (n + 1) v
def lst2 : Lc → Nat → Value → Lc
  | [], _, _ => []
  | _ :: r, 0, v => some v :: (match r with | [] => [] | _ :: r' => none :: r')
  | x :: r, 1, v => unw x :: (match r with | [] => [] | _ :: r' => some v :: (match r' with | [] => [] | _ :: r'' => none :: r''))
  | x :: r, n + 2, v => x :: lst2 r (n + 1) v
theorem unw_le {x : Option Value} {w : Value} (h : unw x = some w) : x = some w ∧ ¬ w.category = 2 := by
  unfold unw at h
  split at h
  · cases h
  · cases h
  · rename_i n1 n2
    refine ⟨h, fun q => ?_⟩
    cases w <;> first | exact n1 _ h | exact n2 _ h | cases q
theorem lst1_le : ∀ {ls : Lc} {i j : Nat} {v w : Value}, (lst1 ls i v)[j]? = some (some w) → (j = i ∧ w = v) ∨ (j ≠ i ∧ ls[j]? = some (some w) ∧ ¬ (j + 1 = i ∧ w.category = 2))
  | [], i, j, v, w, h => by simp [lst1] at h
  | x :: r, 0, 0, v, w, h => by
    simp only [lst1, List.getElem?_cons_zero, Option.some.injEq] at h
    exact Or.inl ⟨rfl, h.symm⟩
  | x :: r, 0, j + 1, v, w, h => by
    simp only [lst1, List.getElem?_cons_succ] at h
    exact Or.inr ⟨by omega, by simpa using h, fun q => by omega⟩
  | x :: r, 1, 0, v, w, h => by
    simp only [lst1, List.getElem?_cons_zero, Option.some.injEq] at h
    obtain ⟨h1, h2⟩ := unw_le h
    exact Or.inr ⟨by omega, by simp [h1], fun q => h2 q.2⟩
  | x :: [], 1, j + 1, v, w, h => by simp [lst1] at h
  | x :: y :: r, 1, 1, v, w, h => by
    simp only [lst1, List.getElem?_cons_succ, List.getElem?_cons_zero, Option.some.injEq] at h
    exact Or.inl ⟨rfl, h.symm⟩
  | x :: y :: r, 1, j + 2, v, w, h => by
    simp only [lst1, List.getElem?_cons_succ] at h
    exact Or.inr ⟨by omega, by simpa using h, fun q => by omega⟩
  | x :: r, n + 2, 0, v, w, h => by
    simp only [lst1, List.getElem?_cons_zero, Option.some.injEq] at h
    exact Or.inr ⟨by omega, by simp [h], fun q => by omega⟩
  | x :: r, n + 2, j + 1, v, w, h => by
    simp only [lst1, List.getElem?_cons_succ] at h
    rcases lst1_le h with ⟨h1, h2⟩ | ⟨h1, h2, h3⟩
    · exact Or.inl ⟨by omega, h2⟩
    · exact Or.inr ⟨by omega, by simpa using h2, fun q => h3 ⟨by omega, q.2⟩⟩
theorem lst2_le : ∀ {ls : Lc} {i j : Nat} {v w : Value}, (lst2 ls i v)[j]? = some (some w) → (j = i ∧ w = v) ∨ (j ≠ i ∧ j ≠ i + 1 ∧ ls[j]? = some (some w) ∧ ¬ (j + 1 = i ∧ w.category = 2))
  | [], i, j, v, w, h => by simp [lst2] at h
  | x :: r, 0, 0, v, w, h => by
    simp only [lst2, List.getElem?_cons_zero, Option.some.injEq] at h
    exact Or.inl ⟨rfl, h.symm⟩
  | x :: [], 0, j + 1, v, w, h => by simp [lst2] at h
  | x :: y :: r, 0, 1, v, w, h => by simp [lst2] at h
  | x :: y :: r, 0, j + 2, v, w, h => by
    simp only [lst2, List.getElem?_cons_succ] at h
    exact Or.inr ⟨by omega, by omega, by simpa using h, fun q => by omega⟩
  | x :: r, 1, 0, v, w, h => by
    simp only [lst2, List.getElem?_cons_zero, Option.some.injEq] at h
    obtain ⟨h1, h2⟩ := unw_le h
    exact Or.inr ⟨by omega, by omega, by simp [h1], fun q => h2 q.2⟩
  | x :: [], 1, j + 1, v, w, h => by simp [lst2] at h
  | x :: y :: r, 1, 1, v, w, h => by
    simp only [lst2, List.getElem?_cons_succ, List.getElem?_cons_zero, Option.some.injEq] at h
    exact Or.inl ⟨rfl, h.symm⟩
  | x :: y :: [], 1, j + 2, v, w, h => by simp [lst2] at h
  | x :: y :: z :: r, 1, 2, v, w, h => by simp [lst2] at h
  | x :: y :: z :: r, 1, j + 3, v, w, h => by
    simp only [lst2, List.getElem?_cons_succ] at h
    exact Or.inr ⟨by omega, by omega, by simpa using h, fun q => by omega⟩
  | x :: r, n + 2, 0, v, w, h => by
    simp only [lst2, List.getElem?_cons_zero, Option.some.injEq] at h
    exact Or.inr ⟨by omega, by omega, by simp [h], fun q => by omega⟩
  | x :: r, n + 2, j + 1, v, w, h => by
    simp only [lst2, List.getElem?_cons_succ] at h
    rcases lst2_le h with ⟨h1, h2⟩ | ⟨h1, h1', h2, h3⟩
    · exact Or.inl ⟨by omega, h2⟩
    · exact Or.inr ⟨by omega, by omega, by simpa using h2, fun q => h3 ⟨by omega, q.2⟩⟩
theorem Lh.st1 {ls0 : Array Slot} {nL : Nat} {ls : Lc} {i : Nat} {v : Value} (h : lv_has ls0 nL ((i, v) :: (lpairs ls).filter (fun q => !(q.1 == i) && !(q.1 + 1 == i && q.2.category == 2)))) : Lh ls0 nL (lst1 ls i v) := by
  refine ⟨h.1, h.2.1, fun q hq => ?_⟩
  obtain ⟨j, w⟩ := q
  rcases lst1_le (lpairs_mem.mp hq) with ⟨rfl, rfl⟩ | ⟨h1, h2, h3⟩
  · exact h.2.2 _ List.mem_cons_self
  · refine h.2.2 _ (List.mem_cons_of_mem _ (List.mem_filter.mpr ⟨lpairs_mem.mpr h2, ?_⟩))
    simp only [Bool.and_eq_true, Bool.not_eq_true', beq_eq_false_iff_ne, Bool.and_eq_false_iff, ne_eq]
    refine ⟨h1, ?_⟩
    by_cases q : j + 1 = i
    · exact Or.inr (fun e => h3 ⟨q, e⟩)
    · exact Or.inl q
theorem Lh.st2 {ls0 : Array Slot} {nL : Nat} {ls : Lc} {i : Nat} {v : Value} (h : lv_has ls0 nL ((i, v) :: (lpairs ls).filter (fun q => !(q.1 == i) && (!(q.1 == i + 1) && !(q.1 + 1 == i && q.2.category == 2))))) : Lh ls0 nL (lst2 ls i v) := by
  refine ⟨h.1, h.2.1, fun q hq => ?_⟩
  obtain ⟨j, w⟩ := q
  rcases lst2_le (lpairs_mem.mp hq) with ⟨rfl, rfl⟩ | ⟨h1, h1', h2, h3⟩
  · exact h.2.2 _ List.mem_cons_self
  · refine h.2.2 _ (List.mem_cons_of_mem _ (List.mem_filter.mpr ⟨lpairs_mem.mpr h2, ?_⟩))
    simp only [Bool.and_eq_true, Bool.not_eq_true', beq_eq_false_iff_ne, Bool.and_eq_false_iff, ne_eq]
    refine ⟨h1, h1', ?_⟩
    by_cases q : j + 1 = i
    · exact Or.inr (fun e => h3 ⟨q, e⟩)
    · exact Or.inl q
/-- fewer locals known -/
theorem Lh.weak {ls0 : Array Slot} {nL : Nat} {ls ls' : Lc} (h : Lh ls0 nL ls) (e : ∀ (i : Nat) (v : Value), ls'[i]? = some (some v) → ls[i]? = some (some v)) : Lh ls0 nL ls' := ⟨h.1, h.2.1, fun q hq => h.2.2 q (lpairs_mem.mpr (e q.1 q.2 (lpairs_mem.mp hq)))⟩
abbrev Po : Type := Option Value → Hp → Nat → Prop
def QcOf (G : Gx) (post : Po) : Array Value → State → Outcome → State → Prop := fun _ st o t => (∃ (v : Option Value) (h' : Hp) (nx' : Nat), o = .returned v ∧ post v h' nx' ∧ Wd G h' nx' t.heap) ∧ va_F (gA G) st t
/-- from here the method comes to its end, with post -/
def Ok (G : Gx) (M : Mt) (d : Nat) (post : Po) (pc : Nat) (ls : Lc) (stk : List Value) (h : Hp) (nx kc ks : Nat) : Prop :=
  ∀ (p : Program) (e : Env) (s : State) (m : MethodId) (args : Array Value) (below : List Frame) (meth : Method) (c : Code) (H : Heap) (locs : List Loc) (ls0 : Array Slot), Cx G M p s m args meth c → Wd G h nx H → va_S (gA G) s.heap H locs → Lh ls0 (m_nL M) ls →
    W p (g_l G) e (rmAt M d) s m args below meth c H locs kc ks (MQ below (QcOf G post) args s (m_mc M) (m_ms M) (gA G)) (F0 m pc ls0 stk)
section OK
variable {G : Gx} {M : Mt} {d : Nat} {post : Po} {pc : Nat} {ls : Lc} {stk : List Value} {h : Hp} {nx kc ks : Nat}
theorem Ok.weak {ls' : Lc} (k : Ok G M d post pc ls' stk h nx kc ks) (e : ∀ (i : Nat) (v : Value), ls'[i]? = some (some v) → ls[i]? = some (some v)) : Ok G M d post pc ls stk h nx kc ks :=
  fun p e0 s m args below meth c H locs ls0 C hW hS hl => k p e0 s m args below meth c H locs ls0 C hW hS (hl.weak e)
theorem Ok.eqh {h' : Hp} (k : Ok G M d post pc ls stk h' nx kc ks) (e : h = h') : Ok G M d post pc ls stk h nx kc ks := e ▸ k
theorem Ok.eqs {stk' : List Value} (k : Ok G M d post pc ls stk' h nx kc ks) (e : stk = stk') : Ok G M d post pc ls stk h nx kc ks := e ▸ k
theorem Ok.eql {ls' : Lc} (k : Ok G M d post pc ls' stk h nx kc ks) (e : ls = ls') : Ok G M d post pc ls stk h nx kc ks := e ▸ k
theorem Ok.iload {i : Nat} {x : Int32} (hd : decode (m_cc M) pc = .ok (.iload i, 2)) (hv : ls[i]? = some (some (.int x))) (k : Ok G M d post (pc + 2) ls (.int x :: stk) h nx kc ks) : Ok G M d post pc ls (stk) h nx kc ks := by
  intro p e s m args below meth c H locs ls0 C hW hS hl
  exact lv_iload C.1 C.2.1 hd (hl.at hv) (k p e s m args below meth c H locs ls0 C hW hS hl)
theorem Ok.iload_n {j : Fin 4} {x : Int32} (hd : decode (m_cc M) pc = .ok (.iload_n j, 1)) (hv : ls[(j : Nat)]? = some (some (.int x))) (k : Ok G M d post (pc + 1) ls (.int x :: stk) h nx kc ks) : Ok G M d post pc ls (stk) h nx kc ks := by
  intro p e s m args below meth c H locs ls0 C hW hS hl
  exact lv_iload_n C.1 C.2.1 hd rfl (hl.at hv) (k p e s m args below meth c H locs ls0 C hW hS hl)
theorem Ok.lload {i : Nat} {x : Int64} (hd : decode (m_cc M) pc = .ok (.lload i, 2)) (hv : ls[i]? = some (some (.long x))) (k : Ok G M d post (pc + 2) ls (.long x :: stk) h nx kc ks) : Ok G M d post pc ls (stk) h nx kc ks := by
  intro p e s m args below meth c H locs ls0 C hW hS hl
  exact lv_lload C.1 C.2.1 hd (hl.at hv) (k p e s m args below meth c H locs ls0 C hW hS hl)
theorem Ok.lload_n {j : Fin 4} {x : Int64} (hd : decode (m_cc M) pc = .ok (.lload_n j, 1)) (hv : ls[(j : Nat)]? = some (some (.long x))) (k : Ok G M d post (pc + 1) ls (.long x :: stk) h nx kc ks) : Ok G M d post pc ls (stk) h nx kc ks := by
  intro p e s m args below meth c H locs ls0 C hW hS hl
  exact lv_lload_n C.1 C.2.1 hd rfl (hl.at hv) (k p e s m args below meth c H locs ls0 C hW hS hl)
theorem Ok.aload {i : Nat} {x : Nat} (hd : decode (m_cc M) pc = .ok (.aload i, 2)) (hv : ls[i]? = some (some (.ref x))) (k : Ok G M d post (pc + 2) ls (.ref x :: stk) h nx kc ks) : Ok G M d post pc ls (stk) h nx kc ks := by
  intro p e s m args below meth c H locs ls0 C hW hS hl
  exact lv_aload C.1 C.2.1 hd (hl.at hv) (k p e s m args below meth c H locs ls0 C hW hS hl)
theorem Ok.aload_n {j : Fin 4} {x : Nat} (hd : decode (m_cc M) pc = .ok (.aload_n j, 1)) (hv : ls[(j : Nat)]? = some (some (.ref x))) (k : Ok G M d post (pc + 1) ls (.ref x :: stk) h nx kc ks) : Ok G M d post pc ls (stk) h nx kc ks := by
  intro p e s m args below meth c H locs ls0 C hW hS hl
  exact lv_aload_n C.1 C.2.1 hd rfl (hl.at hv) (k p e s m args below meth c H locs ls0 C hW hS hl)
theorem Ok.aloadN {i : Nat} (hd : decode (m_cc M) pc = .ok (.aload i, 2)) (hv : ls[i]? = some (some .null)) (k : Ok G M d post (pc + 2) ls (.null :: stk) h nx kc ks) : Ok G M d post pc ls (stk) h nx kc ks := by
  intro p e s m args below meth c H locs ls0 C hW hS hl
  exact lv_aloadN C.1 C.2.1 hd (hl.at hv) (k p e s m args below meth c H locs ls0 C hW hS hl)
theorem Ok.aload_nN {j : Fin 4} (hd : decode (m_cc M) pc = .ok (.aload_n j, 1)) (hv : ls[(j : Nat)]? = some (some .null)) (k : Ok G M d post (pc + 1) ls (.null :: stk) h nx kc ks) : Ok G M d post pc ls (stk) h nx kc ks := by
  intro p e s m args below meth c H locs ls0 C hW hS hl
  exact lv_aload_nN C.1 C.2.1 hd rfl (hl.at hv) (k p e s m args below meth c H locs ls0 C hW hS hl)
theorem Ok.istore {i : Nat} {x : Int32} (hd : decode (m_cc M) pc = .ok (.istore i, 2)) (hn : i < m_nL M) (k : Ok G M d post (pc + 2) (lst1 ls i (.int x)) stk h nx kc ks) : Ok G M d post pc ls (.int x :: stk) h nx kc ks := by
  intro p e s m args below meth c H locs ls0 C hW hS hl
  exact lv_istore C.1 C.2.1 hd (show lv_has ls0 (m_nL M) (lpairs ls) from hl) hn rfl (fun ls1 hl1 => k p e s m args below meth c H locs ls1 C hW hS (Lh.st1 hl1))
theorem Ok.istore_n {j : Fin 4} {x : Int32} (hd : decode (m_cc M) pc = .ok (.istore_n j, 1)) (hn : (j : Nat) < m_nL M) (k : Ok G M d post (pc + 1) (lst1 ls (j : Nat) (.int x)) stk h nx kc ks) : Ok G M d post pc ls (.int x :: stk) h nx kc ks := by
  intro p e s m args below meth c H locs ls0 C hW hS hl
  exact lv_istore_n C.1 C.2.1 hd rfl (show lv_has ls0 (m_nL M) (lpairs ls) from hl) hn rfl (fun ls1 hl1 => k p e s m args below meth c H locs ls1 C hW hS (Lh.st1 hl1))
theorem Ok.lstore {i : Nat} {x : Int64} (hd : decode (m_cc M) pc = .ok (.lstore i, 2)) (hn : i + 1 < m_nL M) (k : Ok G M d post (pc + 2) (lst2 ls i (.long x)) stk h nx kc ks) : Ok G M d post pc ls (.long x :: stk) h nx kc ks := by
  intro p e s m args below meth c H locs ls0 C hW hS hl
  exact lv_lstore C.1 C.2.1 hd (show lv_has ls0 (m_nL M) (lpairs ls) from hl) hn rfl (fun ls1 hl1 => k p e s m args below meth c H locs ls1 C hW hS (Lh.st2 hl1))
theorem Ok.lstore_n {j : Fin 4} {x : Int64} (hd : decode (m_cc M) pc = .ok (.lstore_n j, 1)) (hn : (j : Nat) + 1 < m_nL M) (k : Ok G M d post (pc + 1) (lst2 ls (j : Nat) (.long x)) stk h nx kc ks) : Ok G M d post pc ls (.long x :: stk) h nx kc ks := by
  intro p e s m args below meth c H locs ls0 C hW hS hl
  exact lv_lstore_n C.1 C.2.1 hd rfl (show lv_has ls0 (m_nL M) (lpairs ls) from hl) hn rfl (fun ls1 hl1 => k p e s m args below meth c H locs ls1 C hW hS (Lh.st2 hl1))
theorem Ok.astore {i : Nat} {x : Nat} (hd : decode (m_cc M) pc = .ok (.astore i, 2)) (hn : i < m_nL M) (k : Ok G M d post (pc + 2) (lst1 ls i (.ref x)) stk h nx kc ks) : Ok G M d post pc ls (.ref x :: stk) h nx kc ks := by
  intro p e s m args below meth c H locs ls0 C hW hS hl
  exact lv_astore C.1 C.2.1 hd (show lv_has ls0 (m_nL M) (lpairs ls) from hl) hn rfl (fun ls1 hl1 => k p e s m args below meth c H locs ls1 C hW hS (Lh.st1 hl1))
theorem Ok.astore_n {j : Fin 4} {x : Nat} (hd : decode (m_cc M) pc = .ok (.astore_n j, 1)) (hn : (j : Nat) < m_nL M) (k : Ok G M d post (pc + 1) (lst1 ls (j : Nat) (.ref x)) stk h nx kc ks) : Ok G M d post pc ls (.ref x :: stk) h nx kc ks := by
  intro p e s m args below meth c H locs ls0 C hW hS hl
  exact lv_astore_n C.1 C.2.1 hd rfl (show lv_has ls0 (m_nL M) (lpairs ls) from hl) hn rfl (fun ls1 hl1 => k p e s m args below meth c H locs ls1 C hW hS (Lh.st1 hl1))
theorem Ok.iinc {i : Nat} {n : Int} {x : Int32} (hd : decode (m_cc M) pc = .ok (.iinc i n, 3)) (hv : ls[i]? = some (some (.int x))) (hn : i < m_nL M) (k : Ok G M d post (pc + 3) (lst1 ls i (.int (x + Int32.ofInt n))) stk h nx kc ks) : Ok G M d post pc ls stk h nx kc ks := by
  intro p e s m args below meth c H locs ls0 C hW hS hl
  obtain ⟨q, hq⟩ := List.getElem?_of_mem (lpairs_mem.mpr hv)
  exact lv_iinc C.1 C.2.1 hd (show lv_has ls0 (m_nL M) (lpairs ls) from hl) hq rfl hn rfl (fun ls1 hl1 => k p e s m args below meth c H locs ls1 C hW hS (Lh.st1 hl1))
theorem Ok.iconst {n : Int} (hd : decode (m_cc M) pc = .ok (.iconst n, 1)) (k : Ok G M d post (pc + 1) ls (.int (Int32.ofInt n) :: stk) h nx kc ks) : Ok G M d post pc ls (stk) h nx kc ks := by
  intro p e s m args below meth c H locs ls0 C hW hS hl
  exact lv_iconst C.1 C.2.1 hd rfl (k p e s m args below meth c H locs ls0 C hW hS hl)
theorem Ok.bipush {n : Int} (hd : decode (m_cc M) pc = .ok (.bipush n, 2)) (k : Ok G M d post (pc + 2) ls (.int (Int8.ofInt n).toInt32 :: stk) h nx kc ks) : Ok G M d post pc ls (stk) h nx kc ks := by
  intro p e s m args below meth c H locs ls0 C hW hS hl
  exact lv_bipush C.1 C.2.1 hd rfl (k p e s m args below meth c H locs ls0 C hW hS hl)
theorem Ok.sipush {n : Int} (hd : decode (m_cc M) pc = .ok (.sipush n, 3)) (k : Ok G M d post (pc + 3) ls (.int (Int16.ofInt n).toInt32 :: stk) h nx kc ks) : Ok G M d post pc ls (stk) h nx kc ks := by
  intro p e s m args below meth c H locs ls0 C hW hS hl
  exact lv_sipush C.1 C.2.1 hd rfl (k p e s m args below meth c H locs ls0 C hW hS hl)
theorem Ok.iconstV {n : Int} {v : Int32} (hd : decode (m_cc M) pc = .ok (.iconst n, 1)) (hv : Int32.ofInt n = v) (k : Ok G M d post (pc + 1) ls (.int v :: stk) h nx kc ks) : Ok G M d post pc ls (stk) h nx kc ks := by
  intro p e s m args below meth c H locs ls0 C hW hS hl
  exact lv_iconst C.1 C.2.1 hd hv (k p e s m args below meth c H locs ls0 C hW hS hl)
theorem Ok.bipushV {n : Int} {v : Int32} (hd : decode (m_cc M) pc = .ok (.bipush n, 2)) (hv : (Int8.ofInt n).toInt32 = v) (k : Ok G M d post (pc + 2) ls (.int v :: stk) h nx kc ks) : Ok G M d post pc ls (stk) h nx kc ks := by
  intro p e s m args below meth c H locs ls0 C hW hS hl
  exact lv_bipush C.1 C.2.1 hd hv (k p e s m args below meth c H locs ls0 C hW hS hl)
theorem Ok.sipushV {n : Int} {v : Int32} (hd : decode (m_cc M) pc = .ok (.sipush n, 3)) (hv : (Int16.ofInt n).toInt32 = v) (k : Ok G M d post (pc + 3) ls (.int v :: stk) h nx kc ks) : Ok G M d post pc ls (stk) h nx kc ks := by
  intro p e s m args below meth c H locs ls0 C hW hS hl
  exact lv_sipush C.1 C.2.1 hd hv (k p e s m args below meth c H locs ls0 C hW hS hl)
theorem Ok.lconst {n : Fin 2} (hd : decode (m_cc M) pc = .ok (.lconst n, 1)) (k : Ok G M d post (pc + 1) ls (.long (Int64.ofNat (n : Nat)) :: stk) h nx kc ks) : Ok G M d post pc ls (stk) h nx kc ks := by
  intro p e s m args below meth c H locs ls0 C hW hS hl
  exact lv_lconst C.1 C.2.1 hd rfl (k p e s m args below meth c H locs ls0 C hW hS hl)
theorem Ok.aconst_null (hd : decode (m_cc M) pc = .ok (.aconst_null, 1)) (k : Ok G M d post (pc + 1) ls (.null :: stk) h nx kc ks) : Ok G M d post pc ls (stk) h nx kc ks := by
  intro p e s m args below meth c H locs ls0 C hW hS hl
  exact lv_null C.1 C.2.1 hd (k p e s m args below meth c H locs ls0 C hW hS hl)
theorem Ok.ldc {i : Nat} {v : Int32} (hd : decode (m_cc M) pc = .ok (.ldc i, 2)) (hw : Cond.constant (m_own M) i v ∈ tbG) (k : Ok G M d post (pc + 2) ls (.int v :: stk) h nx kc ks) : Ok G M d post pc ls (stk) h nx kc ks := by
  intro p e s m args below meth c H locs ls0 C hW hS hl
  exact lv_ldc C.1 C.2.1 C.2.2.2.2.1 (C.2.2.2.2.2.1 _ hw) hd (k p e s m args below meth c H locs ls0 C hW hS hl)
theorem Ok.ldc_w {i : Nat} {v : Int32} (hd : decode (m_cc M) pc = .ok (.ldc_w i, 3)) (hw : Cond.constant (m_own M) i v ∈ tbG) (k : Ok G M d post (pc + 3) ls (.int v :: stk) h nx kc ks) : Ok G M d post pc ls (stk) h nx kc ks := by
  intro p e s m args below meth c H locs ls0 C hW hS hl
  exact lv_ldcw C.1 C.2.1 C.2.2.2.2.1 (C.2.2.2.2.2.1 _ hw) hd (k p e s m args below meth c H locs ls0 C hW hS hl)
theorem Ok.ldc2_w {i : Nat} {v : Int64} (hd : decode (m_cc M) pc = .ok (.ldc2_w i, 3)) (hw : Cond.constantLong (m_own M) i v ∈ tbG) (k : Ok G M d post (pc + 3) ls (.long v :: stk) h nx kc ks) : Ok G M d post pc ls (stk) h nx kc ks := by
  intro p e s m args below meth c H locs ls0 C hW hS hl
  exact lv_ldc2 C.1 C.2.1 C.2.2.2.2.1 (C.2.2.2.2.2.1 _ hw) hd (k p e s m args below meth c H locs ls0 C hW hS hl)
theorem Ok.dup {v : Value} (hd : decode (m_cc M) pc = .ok (.dup, 1)) (hc : v.category = 1) (k : Ok G M d post (pc + 1) ls (v :: v :: stk) h nx kc ks) : Ok G M d post pc ls (v :: stk) h nx kc ks := by
  intro p e s m args below meth c H locs ls0 C hW hS hl
  exact lv_dup C.1 C.2.1 hd hc (k p e s m args below meth c H locs ls0 C hW hS hl)
theorem Ok.pop {v : Value} (hd : decode (m_cc M) pc = .ok (.pop, 1)) (hc : v.category = 1) (k : Ok G M d post (pc + 1) ls (stk) h nx kc ks) : Ok G M d post pc ls (v :: stk) h nx kc ks := by
  intro p e s m args below meth c H locs ls0 C hW hS hl
  exact lv_pop C.1 C.2.1 hd hc (k p e s m args below meth c H locs ls0 C hW hS hl)
theorem Ok.dup2 {v w : Value} (hd : decode (m_cc M) pc = .ok (.dup2, 1)) (hc : v.category = 1) (hc2 : w.category = 1) (k : Ok G M d post (pc + 1) ls (v :: w :: v :: w :: stk) h nx kc ks) : Ok G M d post pc ls (v :: w :: stk) h nx kc ks := by
  intro p e s m args below meth c H locs ls0 C hW hS hl
  exact lv_dup2_11 C.1 C.2.1 hd hc hc2 (k p e s m args below meth c H locs ls0 C hW hS hl)
theorem Ok.iadd {x y : Int32} (hd : decode (m_cc M) pc = .ok (.iadd, 1)) (k : Ok G M d post (pc + 1) ls (.int (x + y) :: stk) h nx kc ks) : Ok G M d post pc ls (.int y :: .int x :: stk) h nx kc ks := by
  intro p e s m args below meth c H locs ls0 C hW hS hl
  exact lv_iadd C.1 C.2.1 hd (k p e s m args below meth c H locs ls0 C hW hS hl)
theorem Ok.isub {x y : Int32} (hd : decode (m_cc M) pc = .ok (.isub, 1)) (k : Ok G M d post (pc + 1) ls (.int (x - y) :: stk) h nx kc ks) : Ok G M d post pc ls (.int y :: .int x :: stk) h nx kc ks := by
  intro p e s m args below meth c H locs ls0 C hW hS hl
  exact lv_isub C.1 C.2.1 hd (k p e s m args below meth c H locs ls0 C hW hS hl)
theorem Ok.imul {x y : Int32} (hd : decode (m_cc M) pc = .ok (.imul, 1)) (k : Ok G M d post (pc + 1) ls (.int (x * y) :: stk) h nx kc ks) : Ok G M d post pc ls (.int y :: .int x :: stk) h nx kc ks := by
  intro p e s m args below meth c H locs ls0 C hW hS hl
  exact lv_imul C.1 C.2.1 hd (k p e s m args below meth c H locs ls0 C hW hS hl)
theorem Ok.iand {x y : Int32} (hd : decode (m_cc M) pc = .ok (.iand, 1)) (k : Ok G M d post (pc + 1) ls (.int (x &&& y) :: stk) h nx kc ks) : Ok G M d post pc ls (.int y :: .int x :: stk) h nx kc ks := by
  intro p e s m args below meth c H locs ls0 C hW hS hl
  exact lv_iand C.1 C.2.1 hd (k p e s m args below meth c H locs ls0 C hW hS hl)
theorem Ok.ior {x y : Int32} (hd : decode (m_cc M) pc = .ok (.ior, 1)) (k : Ok G M d post (pc + 1) ls (.int (x ||| y) :: stk) h nx kc ks) : Ok G M d post pc ls (.int y :: .int x :: stk) h nx kc ks := by
  intro p e s m args below meth c H locs ls0 C hW hS hl
  exact lv_ior C.1 C.2.1 hd (k p e s m args below meth c H locs ls0 C hW hS hl)
theorem Ok.ixor {x y : Int32} (hd : decode (m_cc M) pc = .ok (.ixor, 1)) (k : Ok G M d post (pc + 1) ls (.int (x ^^^ y) :: stk) h nx kc ks) : Ok G M d post pc ls (.int y :: .int x :: stk) h nx kc ks := by
  intro p e s m args below meth c H locs ls0 C hW hS hl
  exact lv_ixor C.1 C.2.1 hd (k p e s m args below meth c H locs ls0 C hW hS hl)
theorem Ok.ishl {x y : Int32} (hd : decode (m_cc M) pc = .ok (.ishl, 1)) (k : Ok G M d post (pc + 1) ls (.int (x <<< (y &&& 31)) :: stk) h nx kc ks) : Ok G M d post pc ls (.int y :: .int x :: stk) h nx kc ks := by
  intro p e s m args below meth c H locs ls0 C hW hS hl
  exact lv_ishl C.1 C.2.1 hd (k p e s m args below meth c H locs ls0 C hW hS hl)
theorem Ok.ishr {x y : Int32} (hd : decode (m_cc M) pc = .ok (.ishr, 1)) (k : Ok G M d post (pc + 1) ls (.int (x >>> (y &&& 31)) :: stk) h nx kc ks) : Ok G M d post pc ls (.int y :: .int x :: stk) h nx kc ks := by
  intro p e s m args below meth c H locs ls0 C hW hS hl
  exact lv_ishr C.1 C.2.1 hd (k p e s m args below meth c H locs ls0 C hW hS hl)
theorem Ok.iaddN {x y : Nat} (hd : decode (m_cc M) pc = .ok (.iadd, 1)) (k : Ok G M d post (pc + 1) ls (.int (nI (x + y)) :: stk) h nx kc ks) : Ok G M d post pc ls (.int (nI y) :: .int (nI x) :: stk) h nx kc ks := Ok.iadd hd (by rw [nI_add]; exact k)
theorem Ok.imulN {x y : Nat} (hd : decode (m_cc M) pc = .ok (.imul, 1)) (k : Ok G M d post (pc + 1) ls (.int (nI (x * y)) :: stk) h nx kc ks) : Ok G M d post pc ls (.int (nI y) :: .int (nI x) :: stk) h nx kc ks := Ok.imul hd (by rw [pk_mul]; exact k)
theorem Ok.iushr {x y : Int32} (hd : decode (m_cc M) pc = .ok (.iushr, 1)) (k : Ok G M d post (pc + 1) ls (.int (x.toUInt32 >>> (y.toUInt32 &&& Int32.toUInt32 31)).toInt32 :: stk) h nx kc ks) : Ok G M d post pc ls (.int y :: .int x :: stk) h nx kc ks := by
  intro p e s m args below meth c H locs ls0 C hW hS hl
  exact lv_iushr C.1 C.2.1 hd rfl (k p e s m args below meth c H locs ls0 C hW hS hl)
theorem Ok.ineg {x : Int32} (hd : decode (m_cc M) pc = .ok (.ineg, 1)) (k : Ok G M d post (pc + 1) ls (.int (-x) :: stk) h nx kc ks) : Ok G M d post pc ls (.int x :: stk) h nx kc ks := by
  intro p e s m args below meth c H locs ls0 C hW hS hl
  exact lv_ineg C.1 C.2.1 hd (k p e s m args below meth c H locs ls0 C hW hS hl)
theorem Ok.idiv {x y : Int32} (hd : decode (m_cc M) pc = .ok (.idiv, 1)) (hne : ¬ y = 0) (k : Ok G M d post (pc + 1) ls (.int (x / y) :: stk) h nx kc ks) : Ok G M d post pc ls (.int y :: .int x :: stk) h nx kc ks := by
  intro p e s m args below meth c H locs ls0 C hW hS hl
  exact lv_idiv C.1 C.2.1 hd hne (k p e s m args below meth c H locs ls0 C hW hS hl)
theorem Ok.irem {x y : Int32} (hd : decode (m_cc M) pc = .ok (.irem, 1)) (hne : ¬ y = 0) (k : Ok G M d post (pc + 1) ls (.int (x - x / y * y) :: stk) h nx kc ks) : Ok G M d post pc ls (.int y :: .int x :: stk) h nx kc ks := by
  intro p e s m args below meth c H locs ls0 C hW hS hl
  exact lv_irem C.1 C.2.1 hd hne (k p e s m args below meth c H locs ls0 C hW hS hl)
theorem Ok.ladd {x y : Int64} (hd : decode (m_cc M) pc = .ok (.ladd, 1)) (k : Ok G M d post (pc + 1) ls (.long (x + y) :: stk) h nx kc ks) : Ok G M d post pc ls (.long y :: .long x :: stk) h nx kc ks := by
  intro p e s m args below meth c H locs ls0 C hW hS hl
  exact lv_ladd C.1 C.2.1 hd (k p e s m args below meth c H locs ls0 C hW hS hl)
theorem Ok.lsub {x y : Int64} (hd : decode (m_cc M) pc = .ok (.lsub, 1)) (k : Ok G M d post (pc + 1) ls (.long (x - y) :: stk) h nx kc ks) : Ok G M d post pc ls (.long y :: .long x :: stk) h nx kc ks := by
  intro p e s m args below meth c H locs ls0 C hW hS hl
  exact lv_lsub C.1 C.2.1 hd (k p e s m args below meth c H locs ls0 C hW hS hl)
theorem Ok.lmul {x y : Int64} (hd : decode (m_cc M) pc = .ok (.lmul, 1)) (k : Ok G M d post (pc + 1) ls (.long (x * y) :: stk) h nx kc ks) : Ok G M d post pc ls (.long y :: .long x :: stk) h nx kc ks := by
  intro p e s m args below meth c H locs ls0 C hW hS hl
  exact lv_lmul C.1 C.2.1 hd (k p e s m args below meth c H locs ls0 C hW hS hl)
theorem Ok.land {x y : Int64} (hd : decode (m_cc M) pc = .ok (.land, 1)) (k : Ok G M d post (pc + 1) ls (.long (x &&& y) :: stk) h nx kc ks) : Ok G M d post pc ls (.long y :: .long x :: stk) h nx kc ks := by
  intro p e s m args below meth c H locs ls0 C hW hS hl
  exact lv_land C.1 C.2.1 hd (k p e s m args below meth c H locs ls0 C hW hS hl)
theorem Ok.lor {x y : Int64} (hd : decode (m_cc M) pc = .ok (.lor, 1)) (k : Ok G M d post (pc + 1) ls (.long (x ||| y) :: stk) h nx kc ks) : Ok G M d post pc ls (.long y :: .long x :: stk) h nx kc ks := by
  intro p e s m args below meth c H locs ls0 C hW hS hl
  exact lv_lor C.1 C.2.1 hd (k p e s m args below meth c H locs ls0 C hW hS hl)
theorem Ok.ldiv {x y : Int64} (hd : decode (m_cc M) pc = .ok (.ldiv, 1)) (hne : ¬ y = 0) (k : Ok G M d post (pc + 1) ls (.long (x / y) :: stk) h nx kc ks) : Ok G M d post pc ls (.long y :: .long x :: stk) h nx kc ks := by
  intro p e s m args below meth c H locs ls0 C hW hS hl
  exact lv_ldiv C.1 C.2.1 hd hne (k p e s m args below meth c H locs ls0 C hW hS hl)
theorem Ok.lshl {x : Int64} {y : Int32} (hd : decode (m_cc M) pc = .ok (.lshl, 1)) (k : Ok G M d post (pc + 1) ls (.long (x <<< (y.toInt64 &&& 63)) :: stk) h nx kc ks) : Ok G M d post pc ls (.int y :: .long x :: stk) h nx kc ks := by
  intro p e s m args below meth c H locs ls0 C hW hS hl
  exact lv_lshl C.1 C.2.1 hd rfl (k p e s m args below meth c H locs ls0 C hW hS hl)
theorem Ok.lshr {x : Int64} {y : Int32} (hd : decode (m_cc M) pc = .ok (.lshr, 1)) (k : Ok G M d post (pc + 1) ls (.long (x >>> (y.toInt64 &&& 63)) :: stk) h nx kc ks) : Ok G M d post pc ls (.int y :: .long x :: stk) h nx kc ks := by
  intro p e s m args below meth c H locs ls0 C hW hS hl
  exact lv_lshr C.1 C.2.1 hd rfl (k p e s m args below meth c H locs ls0 C hW hS hl)
theorem Ok.lushr {x : Int64} {y : Int32} (hd : decode (m_cc M) pc = .ok (.lushr, 1)) (k : Ok G M d post (pc + 1) ls (.long (x.toUInt64 >>> (y.toInt64.toUInt64 &&& Int64.toUInt64 63)).toInt64 :: stk) h nx kc ks) : Ok G M d post pc ls (.int y :: .long x :: stk) h nx kc ks := by
  intro p e s m args below meth c H locs ls0 C hW hS hl
  exact lv_lushr C.1 C.2.1 hd rfl (k p e s m args below meth c H locs ls0 C hW hS hl)
theorem Ok.i2l {x : Int32} (hd : decode (m_cc M) pc = .ok (.i2l, 1)) (k : Ok G M d post (pc + 1) ls (.long x.toInt64 :: stk) h nx kc ks) : Ok G M d post pc ls (.int x :: stk) h nx kc ks := by
  intro p e s m args below meth c H locs ls0 C hW hS hl
  exact lv_i2l C.1 C.2.1 hd rfl (k p e s m args below meth c H locs ls0 C hW hS hl)
theorem Ok.l2i {x : Int64} (hd : decode (m_cc M) pc = .ok (.l2i, 1)) (k : Ok G M d post (pc + 1) ls (.int x.toInt32 :: stk) h nx kc ks) : Ok G M d post pc ls (.long x :: stk) h nx kc ks := by
  intro p e s m args below meth c H locs ls0 C hW hS hl
  exact lv_l2i C.1 C.2.1 hd rfl (k p e s m args below meth c H locs ls0 C hW hS hl)
theorem Ok.i2b {x : Int32} (hd : decode (m_cc M) pc = .ok (.i2b, 1)) (k : Ok G M d post (pc + 1) ls (.int x.toInt8.toInt32 :: stk) h nx kc ks) : Ok G M d post pc ls (.int x :: stk) h nx kc ks := by
  intro p e s m args below meth c H locs ls0 C hW hS hl
  exact lv_i2b C.1 C.2.1 hd rfl (k p e s m args below meth c H locs ls0 C hW hS hl)
theorem Ok.i2c {x : Int32} (hd : decode (m_cc M) pc = .ok (.i2c, 1)) (k : Ok G M d post (pc + 1) ls (.int (x.toUInt32 % 65536).toInt32 :: stk) h nx kc ks) : Ok G M d post pc ls (.int x :: stk) h nx kc ks := by
  intro p e s m args below meth c H locs ls0 C hW hS hl
  exact lv_i2c C.1 C.2.1 hd rfl (k p e s m args below meth c H locs ls0 C hW hS hl)
theorem Ok.lcmp {x y : Int64} (hd : decode (m_cc M) pc = .ok (.lcmp, 1)) (k : Ok G M d post (pc + 1) ls (.int (lg_cmp x y) :: stk) h nx kc ks) : Ok G M d post pc ls (.long y :: .long x :: stk) h nx kc ks := by
  intro p e s m args below meth c H locs ls0 C hW hS hl
  exact W.lcmp C.1 C.2.1 hd (k p e s m args below meth c H locs ls0 C hW hS hl)
theorem Ok.goto {off : Int} {tgt : Nat} (hd : decode (m_cc M) pc = .ok (.goto off, 3)) (ht : (pc : Int) + off = (tgt : Int)) (k : Ok G M d post tgt ls (stk) h nx kc ks) : Ok G M d post pc ls (stk) h nx kc ks := by
  intro p e s m args below meth c H locs ls0 C hW hS hl
  exact lv_goto C.1 C.2.1 hd ht (k p e s m args below meth c H locs ls0 C hW hS hl)
theorem Ok.icmp_eq {x y : Int32} {off : Int} {tgt : Nat} (hd : decode (m_cc M) pc = .ok (.if_icmp .eq off, 3)) (ht : (pc : Int) + off = (tgt : Int)) (kt : x = y → Ok G M d post tgt ls stk h nx kc ks) (kf : ¬ x = y → Ok G M d post (pc + 3) ls stk h nx kc ks) : Ok G M d post pc ls (.int y :: .int x :: stk) h nx kc ks := by
  intro p e s m args below meth c H locs ls0 C hW hS hl
  exact lv_icmp_eq C.1 C.2.1 hd ht (fun q => kt q p e s m args below meth c H locs ls0 C hW hS hl) (fun q => kf q p e s m args below meth c H locs ls0 C hW hS hl)
theorem Ok.icmp_ne {x y : Int32} {off : Int} {tgt : Nat} (hd : decode (m_cc M) pc = .ok (.if_icmp .ne off, 3)) (ht : (pc : Int) + off = (tgt : Int)) (kt : x ≠ y → Ok G M d post tgt ls stk h nx kc ks) (kf : x = y → Ok G M d post (pc + 3) ls stk h nx kc ks) : Ok G M d post pc ls (.int y :: .int x :: stk) h nx kc ks := by
  intro p e s m args below meth c H locs ls0 C hW hS hl
  exact lv_icmp_ne C.1 C.2.1 hd ht (fun q => kt q p e s m args below meth c H locs ls0 C hW hS hl) (fun q => kf q p e s m args below meth c H locs ls0 C hW hS hl)
theorem Ok.icmp_lt {x y : Int32} {off : Int} {tgt : Nat} (hd : decode (m_cc M) pc = .ok (.if_icmp .lt off, 3)) (ht : (pc : Int) + off = (tgt : Int)) (kt : x < y → Ok G M d post tgt ls stk h nx kc ks) (kf : ¬ x < y → Ok G M d post (pc + 3) ls stk h nx kc ks) : Ok G M d post pc ls (.int y :: .int x :: stk) h nx kc ks := by
  intro p e s m args below meth c H locs ls0 C hW hS hl
  exact lv_icmp_lt C.1 C.2.1 hd ht (fun q => kt q p e s m args below meth c H locs ls0 C hW hS hl) (fun q => kf q p e s m args below meth c H locs ls0 C hW hS hl)
theorem Ok.icmp_ge {x y : Int32} {off : Int} {tgt : Nat} (hd : decode (m_cc M) pc = .ok (.if_icmp .ge off, 3)) (ht : (pc : Int) + off = (tgt : Int)) (kt : y ≤ x → Ok G M d post tgt ls stk h nx kc ks) (kf : ¬ y ≤ x → Ok G M d post (pc + 3) ls stk h nx kc ks) : Ok G M d post pc ls (.int y :: .int x :: stk) h nx kc ks := by
  intro p e s m args below meth c H locs ls0 C hW hS hl
  exact lv_icmp_ge C.1 C.2.1 hd ht (fun q => kt q p e s m args below meth c H locs ls0 C hW hS hl) (fun q => kf q p e s m args below meth c H locs ls0 C hW hS hl)
theorem Ok.icmp_gt {x y : Int32} {off : Int} {tgt : Nat} (hd : decode (m_cc M) pc = .ok (.if_icmp .gt off, 3)) (ht : (pc : Int) + off = (tgt : Int)) (kt : y < x → Ok G M d post tgt ls stk h nx kc ks) (kf : ¬ y < x → Ok G M d post (pc + 3) ls stk h nx kc ks) : Ok G M d post pc ls (.int y :: .int x :: stk) h nx kc ks := by
  intro p e s m args below meth c H locs ls0 C hW hS hl
  exact lv_icmp_gt C.1 C.2.1 hd ht (fun q => kt q p e s m args below meth c H locs ls0 C hW hS hl) (fun q => kf q p e s m args below meth c H locs ls0 C hW hS hl)
theorem Ok.icmp_le {x y : Int32} {off : Int} {tgt : Nat} (hd : decode (m_cc M) pc = .ok (.if_icmp .le off, 3)) (ht : (pc : Int) + off = (tgt : Int)) (kt : x ≤ y → Ok G M d post tgt ls stk h nx kc ks) (kf : ¬ x ≤ y → Ok G M d post (pc + 3) ls stk h nx kc ks) : Ok G M d post pc ls (.int y :: .int x :: stk) h nx kc ks := by
  intro p e s m args below meth c H locs ls0 C hW hS hl
  exact lv_icmp_le C.1 C.2.1 hd ht (fun q => kt q p e s m args below meth c H locs ls0 C hW hS hl) (fun q => kf q p e s m args below meth c H locs ls0 C hW hS hl)
theorem Ok.if_eq {x : Int32} {off : Int} {tgt : Nat} (hd : decode (m_cc M) pc = .ok (.ifCond .eq off, 3)) (ht : (pc : Int) + off = (tgt : Int)) (kt : x = 0 → Ok G M d post tgt ls stk h nx kc ks) (kf : ¬ x = 0 → Ok G M d post (pc + 3) ls stk h nx kc ks) : Ok G M d post pc ls (.int x :: stk) h nx kc ks := by
  intro p e s m args below meth c H locs ls0 C hW hS hl
  exact lv_if_eq C.1 C.2.1 hd ht (fun q => kt q p e s m args below meth c H locs ls0 C hW hS hl) (fun q => kf q p e s m args below meth c H locs ls0 C hW hS hl)
theorem Ok.if_ne {x : Int32} {off : Int} {tgt : Nat} (hd : decode (m_cc M) pc = .ok (.ifCond .ne off, 3)) (ht : (pc : Int) + off = (tgt : Int)) (kt : x ≠ 0 → Ok G M d post tgt ls stk h nx kc ks) (kf : x = 0 → Ok G M d post (pc + 3) ls stk h nx kc ks) : Ok G M d post pc ls (.int x :: stk) h nx kc ks := by
  intro p e s m args below meth c H locs ls0 C hW hS hl
  exact lv_if_ne C.1 C.2.1 hd ht (fun q => kt q p e s m args below meth c H locs ls0 C hW hS hl) (fun q => kf q p e s m args below meth c H locs ls0 C hW hS hl)
theorem Ok.if_lt {x : Int32} {off : Int} {tgt : Nat} (hd : decode (m_cc M) pc = .ok (.ifCond .lt off, 3)) (ht : (pc : Int) + off = (tgt : Int)) (kt : x < 0 → Ok G M d post tgt ls stk h nx kc ks) (kf : ¬ x < 0 → Ok G M d post (pc + 3) ls stk h nx kc ks) : Ok G M d post pc ls (.int x :: stk) h nx kc ks := by
  intro p e s m args below meth c H locs ls0 C hW hS hl
  exact lv_if_lt C.1 C.2.1 hd ht (fun q => kt q p e s m args below meth c H locs ls0 C hW hS hl) (fun q => kf q p e s m args below meth c H locs ls0 C hW hS hl)
theorem Ok.if_ge {x : Int32} {off : Int} {tgt : Nat} (hd : decode (m_cc M) pc = .ok (.ifCond .ge off, 3)) (ht : (pc : Int) + off = (tgt : Int)) (kt : 0 ≤ x → Ok G M d post tgt ls stk h nx kc ks) (kf : ¬ 0 ≤ x → Ok G M d post (pc + 3) ls stk h nx kc ks) : Ok G M d post pc ls (.int x :: stk) h nx kc ks := by
  intro p e s m args below meth c H locs ls0 C hW hS hl
  exact lv_if_ge C.1 C.2.1 hd ht (fun q => kt q p e s m args below meth c H locs ls0 C hW hS hl) (fun q => kf q p e s m args below meth c H locs ls0 C hW hS hl)
theorem Ok.if_gt {x : Int32} {off : Int} {tgt : Nat} (hd : decode (m_cc M) pc = .ok (.ifCond .gt off, 3)) (ht : (pc : Int) + off = (tgt : Int)) (kt : 0 < x → Ok G M d post tgt ls stk h nx kc ks) (kf : ¬ 0 < x → Ok G M d post (pc + 3) ls stk h nx kc ks) : Ok G M d post pc ls (.int x :: stk) h nx kc ks := by
  intro p e s m args below meth c H locs ls0 C hW hS hl
  exact lv_if_gt C.1 C.2.1 hd ht (fun q => kt q p e s m args below meth c H locs ls0 C hW hS hl) (fun q => kf q p e s m args below meth c H locs ls0 C hW hS hl)
theorem Ok.if_le {x : Int32} {off : Int} {tgt : Nat} (hd : decode (m_cc M) pc = .ok (.ifCond .le off, 3)) (ht : (pc : Int) + off = (tgt : Int)) (kt : x ≤ 0 → Ok G M d post tgt ls stk h nx kc ks) (kf : ¬ x ≤ 0 → Ok G M d post (pc + 3) ls stk h nx kc ks) : Ok G M d post pc ls (.int x :: stk) h nx kc ks := by
  intro p e s m args below meth c H locs ls0 C hW hS hl
  exact lv_if_le C.1 C.2.1 hd ht (fun q => kt q p e s m args below meth c H locs ls0 C hW hS hl) (fun q => kf q p e s m args below meth c H locs ls0 C hW hS hl)
theorem Ok.ifnull {off : Int} {x : Nat} (hd : decode (m_cc M) pc = .ok (.ifnull off, 3)) (k : Ok G M d post (pc + 3) ls (stk) h nx kc ks) : Ok G M d post pc ls (.ref x :: stk) h nx kc ks := by
  intro p e s m args below meth c H locs ls0 C hW hS hl
  exact lv_ifnull C.1 C.2.1 hd (k p e s m args below meth c H locs ls0 C hW hS hl)
theorem Ok.ifnullN {off : Int} {tgt : Nat} (hd : decode (m_cc M) pc = .ok (.ifnull off, 3)) (ht : (pc : Int) + off = (tgt : Int)) (k : Ok G M d post tgt ls (stk) h nx kc ks) : Ok G M d post pc ls (.null :: stk) h nx kc ks := by
  intro p e s m args below meth c H locs ls0 C hW hS hl
  exact lv_ifnullN C.1 C.2.1 hd ht (k p e s m args below meth c H locs ls0 C hW hS hl)
theorem Ok.ifnonnull {off : Int} {tgt x : Nat} (hd : decode (m_cc M) pc = .ok (.ifnonnull off, 3)) (ht : (pc : Int) + off = (tgt : Int)) (k : Ok G M d post tgt ls (stk) h nx kc ks) : Ok G M d post pc ls (.ref x :: stk) h nx kc ks := by
  intro p e s m args below meth c H locs ls0 C hW hS hl
  exact lv_ifnonnull C.1 C.2.1 hd ht (k p e s m args below meth c H locs ls0 C hW hS hl)
theorem Ok.ifnonnullN {off : Int} (hd : decode (m_cc M) pc = .ok (.ifnonnull off, 3)) (k : Ok G M d post (pc + 3) ls (stk) h nx kc ks) : Ok G M d post pc ls (.null :: stk) h nx kc ks := by
  intro p e s m args below meth c H locs ls0 C hW hS hl
  exact lv_ifnonnullN C.1 C.2.1 hd (k p e s m args below meth c H locs ls0 C hW hS hl)
theorem Ok.tableIn {dflt lo hi : Int} {offs : Array Int} {len : Nat} {x : Int32} {off : Int} {tgt : Nat} (hd : decode (m_cc M) pc = .ok (.tableswitch dflt lo hi offs, len)) (h1 : ¬ x.toInt < lo) (h2 : ¬ hi < x.toInt) (ho : offs[(x.toInt - lo).toNat]? = some off) (ht : (pc : Int) + off = (tgt : Int)) (k : Ok G M d post tgt ls stk h nx kc ks) : Ok G M d post pc ls (.int x :: stk) h nx kc ks := by
  intro p e s m args below meth c H locs ls0 C hW hS hl
  exact lv_tableIn C.1 C.2.1 hd h1 h2 ho ht (k p e s m args below meth c H locs ls0 C hW hS hl)
theorem Ok.tableOut {dflt lo hi : Int} {offs : Array Int} {len : Nat} {x : Int32} {tgt : Nat} (hd : decode (m_cc M) pc = .ok (.tableswitch dflt lo hi offs, len)) (h1 : x.toInt < lo ∨ hi < x.toInt) (ht : (pc : Int) + dflt = (tgt : Int)) (k : Ok G M d post tgt ls stk h nx kc ks) : Ok G M d post pc ls (.int x :: stk) h nx kc ks := by
  intro p e s m args below meth c H locs ls0 C hW hS hl
  exact lv_tableOut C.1 C.2.1 hd h1 ht (k p e s m args below meth c H locs ls0 C hW hS hl)
theorem Ok.lookup {dflt : Int} {ps : Array (Int × Int)} {len : Nat} {x : Int32} {off : Int} {tgt : Nat} (hd : decode (m_cc M) pc = .ok (.lookupswitch dflt ps, len)) (hp : (ps.toList.zip (ps.toList.drop 1)).all (fun (a, next) => a.1 < next.1) = true) (ho : Op.lookupswitch.offset ps.toList dflt x.toInt = off) (ht : (pc : Int) + off = (tgt : Int)) (k : Ok G M d post tgt ls stk h nx kc ks) : Ok G M d post pc ls (.int x :: stk) h nx kc ks := by
  intro p e s m args below meth c H locs ls0 C hW hS hl
  exact lv_lookup C.1 C.2.1 hd hp ho ht (k p e s m args below meth c H locs ls0 C hW hS hl)
theorem Wd.P {G : Gx} {h : Hp} {nx : Nat} {H : Heap} (hW : Wd G h nx H) {a : Nat} {e : va_E} (ha : h a = some e) : va_P (g_D G) vwCl [(a, e)] H := fun k q hq => by
  cases k with
  | zero => cases hq; exact (hW.2 a e ha).2
  | succ k => simp at hq
theorem RO.K {G : Gx} {U : State} {H : Heap} (h : RO G U H) : va_K (g_D G) vwCl (g_ty G) U := h.1
theorem Cx.K {p : Program} {s : State} {m : MethodId} {args : Array Value} {meth : Method} {c : Code} (C : Cx G M p s m args meth c) : va_K (g_D G) vwCl (g_ty G) s := C.2.2.2.2.2.2.2.2.1
theorem Cx.w {p : Program} {s : State} {m : MethodId} {args : Array Value} {meth : Method} {c : Code} (C : Cx G M p s m args meth c) {w : Cond} (hw : w ∈ tbG) : w.before args s = true := C.2.2.2.2.2.1 w hw
theorem Ok.getf {Cn : String} {T : u_T} {N ci i a kf : Nat} {ref : String} {fs : List Value} {v : Value} (hd : decode (m_cc M) pc = .ok (.getfield i, 3)) (hc : vwCl[ci]? = some (Cn, T, N)) (hin : ∀ w ∈ u_ws Cn T N, w ∈ tbG) (hk : kf < N) (hlink : Cond.fieldLink (m_own M) i ref (T kf).2.1 (T kf).2.2.1 ∈ tbG) (hsame : ref = (T kf).1 ∨ Cond.sameField ref (T kf).1 (T kf).2.1 (T kf).2.2.1 ∈ tbG) (ha : h a = some (ob ci fs)) (hv : fs[kf]? = some v) (k : Ok G M d post (pc + 3) ls (v :: stk) h nx kc ks) : Ok G M d post pc ls (.ref a :: stk) h nx kc ks := by
  intro p e s m args below meth c H locs ls0 C hW hS hl
  refine va_get C.1 C.2.1 C.2.2.2.2.2.1 hin C.2.2.2.2.1 C.K (hW.P ha) 0 rfl hc kf hk (C.w hlink) ?_ hv hd (k p e s m args below meth c H locs ls0 C hW hS hl)
  rcases hsame with q | q
  · intro x hx; rw [q]; exact hx
  · intro x hx; exact (u_same (C.w q) x hx)
theorem Ok.iald {a n : Nat} {f : Nat → Int32} {i : Int32} (hd : decode (m_cc M) pc = .ok (.iaload, 1)) (ha : h a = some (aI G n f)) (hi : vp_in i n) (k : Ok G M d post (pc + 1) ls (.int (f i.toNatClampNeg) :: stk) h nx kc ks) : Ok G M d post pc ls (.int i :: .ref a :: stk) h nx kc ks := by
  intro p e s m args below meth c H locs ls0 C hW hS hl
  exact va_iald C.1 C.2.1 C.K (hW.P ha) 0 0 rfl rfl hi hd (k p e s m args below meth c H locs ls0 C hW hS hl)
theorem Ok.lald {a n : Nat} {f : Nat → Int64} {i : Int32} (hd : decode (m_cc M) pc = .ok (.laload, 1)) (ha : h a = some (aJ G n f)) (hi : vp_in i n) (k : Ok G M d post (pc + 1) ls (.long (f i.toNatClampNeg) :: stk) h nx kc ks) : Ok G M d post pc ls (.int i :: .ref a :: stk) h nx kc ks := by
  intro p e s m args below meth c H locs ls0 C hW hS hl
  exact va_lald C.1 C.2.1 C.K (hW.P ha) 0 1 rfl rfl hi hd (k p e s m args below meth c H locs ls0 C hW hS hl)
theorem Ok.bald {a n : Nat} {f : Nat → Int32} {i : Int32} (hd : decode (m_cc M) pc = .ok (.baload, 1)) (ha : h a = some (aB G n f)) (hi : vp_in i n) (k : Ok G M d post (pc + 1) ls (.int (f i.toNatClampNeg) :: stk) h nx kc ks) : Ok G M d post pc ls (.int i :: .ref a :: stk) h nx kc ks := by
  intro p e s m args below meth c H locs ls0 C hW hS hl
  exact va_bald C.1 C.2.1 C.K (hW.P ha) 0 2 rfl rfl hi hd (k p e s m args below meth c H locs ls0 C hW hS hl)
theorem Ok.zald {a n : Nat} {f : Nat → Int32} {i : Int32} (hd : decode (m_cc M) pc = .ok (.baload, 1)) (ha : h a = some (aZ G n f)) (hi : vp_in i n) (k : Ok G M d post (pc + 1) ls (.int (f i.toNatClampNeg) :: stk) h nx kc ks) : Ok G M d post pc ls (.int i :: .ref a :: stk) h nx kc ks := by
  intro p e s m args below meth c H locs ls0 C hW hS hl
  exact va_zald C.1 C.2.1 C.K (hW.P ha) 0 3 rfl rfl hi hd (k p e s m args below meth c H locs ls0 C hW hS hl)
theorem Ok.sald {a n : Nat} {f : Nat → Option Nat} {i : Int32} (hd : decode (m_cc M) pc = .ok (.aaload, 1)) (ha : h a = some (aS G n f)) (hi : vp_in i n) (k : Ok G M d post (pc + 1) ls (va_rf (f i.toNatClampNeg) :: stk) h nx kc ks) : Ok G M d post pc ls (.int i :: .ref a :: stk) h nx kc ks := by
  intro p e s m args below meth c H locs ls0 C hW hS hl
  exact va_aldq C.1 C.2.1 C.K (hW.P ha) 0 4 (C := "GateWatch$Sort") rfl rfl hi hd (k p e s m args below meth c H locs ls0 C hW hS hl)
theorem Ok.pald {a n : Nat} {f : Nat → Option Nat} {i : Int32} (hd : decode (m_cc M) pc = .ok (.aaload, 1)) (ha : h a = some (aP G n f)) (hi : vp_in i n) (k : Ok G M d post (pc + 1) ls (va_rf (f i.toNatClampNeg) :: stk) h nx kc ks) : Ok G M d post pc ls (.int i :: .ref a :: stk) h nx kc ks := by
  intro p e s m args below meth c H locs ls0 C hW hS hl
  exact va_aldq C.1 C.2.1 C.K (hW.P ha) 0 5 (C := "GateWatch$Plan") rfl rfl hi hd (k p e s m args below meth c H locs ls0 C hW hS hl)
theorem Ok.gald {a n : Nat} {f : Nat → Option Nat} {i : Int32} (hd : decode (m_cc M) pc = .ok (.aaload, 1)) (ha : h a = some (aG G n f)) (hi : vp_in i n) (k : Ok G M d post (pc + 1) ls (va_rf (f i.toNatClampNeg) :: stk) h nx kc ks) : Ok G M d post pc ls (.int i :: .ref a :: stk) h nx kc ks := by
  intro p e s m args below meth c H locs ls0 C hW hS hl
  have hlt : i.toNatClampNeg < n := Nat.not_le.mp fun q => hi (Or.inr q)
  exact W.aald (v := va_rf (f i.toNatClampNeg)) (ty := .array .int) C.1 C.2.1 ((hW.P ha) 0 _ rfl) ((C.K.2 6 (g_c G 6, .array .int) rfl).1 n (fun j => va_rf (f j))) rfl (fun q => by cases q) (by show ¬ (i < 0 ∨ (arrV _ _ _).slots.size ≤ _); rw [arrV_size]; exact hi) (by show (arrV _ _ _).slots[_]? = _; rw [arrV_read _ _ hlt]) rfl rfl hd (k p e s m args below meth c H locs ls0 C hW hS hl)
theorem Ok.alenI {a n : Nat} {f : Nat → Int32} (hd : decode (m_cc M) pc = .ok (.arraylength, 1)) (ha : h a = some (aI G n f)) (k : Ok G M d post (pc + 1) ls (.int (nI n) :: stk) h nx kc ks) : Ok G M d post pc ls (.ref a :: stk) h nx kc ks := by
  intro p e s m args below meth c H locs ls0 C hW hS hl
  exact va_alen C.1 C.2.1 C.K (hW.P ha) 0 0 rfl rfl rfl hd (k p e s m args below meth c H locs ls0 C hW hS hl)
theorem Ok.alenJ {a n : Nat} {f : Nat → Int64} (hd : decode (m_cc M) pc = .ok (.arraylength, 1)) (ha : h a = some (aJ G n f)) (k : Ok G M d post (pc + 1) ls (.int (nI n) :: stk) h nx kc ks) : Ok G M d post pc ls (.ref a :: stk) h nx kc ks := by
  intro p e s m args below meth c H locs ls0 C hW hS hl
  exact va_alen C.1 C.2.1 C.K (hW.P ha) 0 1 rfl rfl rfl hd (k p e s m args below meth c H locs ls0 C hW hS hl)
theorem Ok.alenB {a n : Nat} {f : Nat → Int32} (hd : decode (m_cc M) pc = .ok (.arraylength, 1)) (ha : h a = some (aB G n f)) (k : Ok G M d post (pc + 1) ls (.int (nI n) :: stk) h nx kc ks) : Ok G M d post pc ls (.ref a :: stk) h nx kc ks := by
  intro p e s m args below meth c H locs ls0 C hW hS hl
  exact va_alen C.1 C.2.1 C.K (hW.P ha) 0 2 rfl rfl rfl hd (k p e s m args below meth c H locs ls0 C hW hS hl)
theorem Ok.alenZ {a n : Nat} {f : Nat → Int32} (hd : decode (m_cc M) pc = .ok (.arraylength, 1)) (ha : h a = some (aZ G n f)) (k : Ok G M d post (pc + 1) ls (.int (nI n) :: stk) h nx kc ks) : Ok G M d post pc ls (.ref a :: stk) h nx kc ks := by
  intro p e s m args below meth c H locs ls0 C hW hS hl
  exact va_alen C.1 C.2.1 C.K (hW.P ha) 0 3 rfl rfl rfl hd (k p e s m args below meth c H locs ls0 C hW hS hl)
theorem Ok.alenS {a n : Nat} {f : Nat → Option Nat} (hd : decode (m_cc M) pc = .ok (.arraylength, 1)) (ha : h a = some (aS G n f)) (k : Ok G M d post (pc + 1) ls (.int (nI n) :: stk) h nx kc ks) : Ok G M d post pc ls (.ref a :: stk) h nx kc ks := by
  intro p e s m args below meth c H locs ls0 C hW hS hl
  exact va_alen C.1 C.2.1 C.K (hW.P ha) 0 4 rfl rfl rfl hd (k p e s m args below meth c H locs ls0 C hW hS hl)
theorem Ok.alenP {a n : Nat} {f : Nat → Option Nat} (hd : decode (m_cc M) pc = .ok (.arraylength, 1)) (ha : h a = some (aP G n f)) (k : Ok G M d post (pc + 1) ls (.int (nI n) :: stk) h nx kc ks) : Ok G M d post pc ls (.ref a :: stk) h nx kc ks := by
  intro p e s m args below meth c H locs ls0 C hW hS hl
  exact va_alen C.1 C.2.1 C.K (hW.P ha) 0 5 rfl rfl rfl hd (k p e s m args below meth c H locs ls0 C hW hS hl)
theorem Ok.alenG {a n : Nat} {f : Nat → Option Nat} (hd : decode (m_cc M) pc = .ok (.arraylength, 1)) (ha : h a = some (aG G n f)) (k : Ok G M d post (pc + 1) ls (.int (nI n) :: stk) h nx kc ks) : Ok G M d post pc ls (.ref a :: stk) h nx kc ks := by
  intro p e s m args below meth c H locs ls0 C hW hS hl
  exact va_alen C.1 C.2.1 C.K (hW.P ha) 0 6 rfl rfl rfl hd (k p e s m args below meth c H locs ls0 C hW hS hl)
theorem Ok.sld {i : Int32} (hd : decode (m_cc M) pc = .ok (.iaload, 1)) (hi : vp_in i (g_L G)) (k : Ok G M d post (pc + 1) ls (.int (g_xs G i.toNatClampNeg) :: stk) h nx kc ks) : Ok G M d post pc ls (.int i :: .ref (g_b G) :: stk) h nx kc ks := by
  intro p e s m args below meth c H locs ls0 C hW hS hl
  obtain ⟨hK, hX, hb, hB, -⟩ := C.2.2.2.2.2.2.2.2
  exact va_sld C.1 C.2.1 hX (Nat.lt_of_lt_of_le hb hB) (Nat.not_le.mpr hb) hS hi hd (k p e s m args below meth c H locs ls0 C hW hS hl)
theorem Ok.slen (hd : decode (m_cc M) pc = .ok (.arraylength, 1)) (k : Ok G M d post (pc + 1) ls (.int (nI (g_L G)) :: stk) h nx kc ks) : Ok G M d post pc ls (.ref (g_b G) :: stk) h nx kc ks := by
  intro p e s m args below meth c H locs ls0 C hW hS hl
  obtain ⟨hK, hX, hb, hB, -⟩ := C.2.2.2.2.2.2.2.2
  exact va_slen C.1 C.2.1 hX (Nat.lt_of_lt_of_le hb hB) (Nat.not_le.mpr hb) hS hd (k p e s m args below meth c H locs ls0 C hW hS hl)
theorem ast_iast {D : va_G} {cl : List vw_C} {cA : ClassId} {a n j : Nat} {f : Nat → Int32} {x : Int32} {H1 : Heap} (e : H1[a]? = some ((vp_cell cA (n, .inl f)).setSlot j (.int x))) : va_at D cl (a, .inl (cA, n, .inl (upd f j x))) H1 := by
  show H1[a]? = some (vp_cell _ _)
  rw [e, vp_cell_i, vp_cell_i, arrV_store]
  congr 2
  funext q
  by_cases hq : q = j
  · subst hq
    simp [updV, upd]
  · simp [updV, upd, hq]
theorem ast_last {D : va_G} {cl : List vw_C} {cA : ClassId} {a n j : Nat} {f : Nat → Int64} {x : Int64} {H1 : Heap} (e : H1[a]? = some ((vp_cell cA (n, .inr (.inl f))).setSlot j (.long x))) : va_at D cl (a, .inl (cA, n, .inr (.inl (vp_updL f j x)))) H1 := by
  show H1[a]? = some (vp_cell _ _)
  rw [e, vp_cell_l, vp_cell_l, arrV_store]
  congr 2
  funext q
  by_cases hq : q = j
  · subst hq
    simp [updV, vp_updL]
  · simp [updV, vp_updL, hq]
theorem ast_bast {D : va_G} {cl : List vw_C} {cA : ClassId} {a n j : Nat} {f : Nat → Int32} {x : Int32} {H1 : Heap} (e : H1[a]? = some ((vp_cell cA (n, .inl f)).setSlot j (narrow .byte (.int x)))) : va_at D cl (a, .inl (cA, n, .inl (upd f j (vp_nar .byte x)))) H1 := by
  show H1[a]? = some (vp_cell _ _)
  rw [e, vp_cell_i, vp_cell_i, arrV_store]
  congr 2
  funext q
  by_cases hq : q = j
  · subst hq
    simp [updV, upd, vp_nar]
    try rfl
  · simp [updV, upd, hq]
theorem ast_zast {D : va_G} {cl : List vw_C} {cA : ClassId} {a n j : Nat} {f : Nat → Int32} {x : Int32} {H1 : Heap} (e : H1[a]? = some ((vp_cell cA (n, .inl f)).setSlot j (narrow .boolean (.int x)))) : va_at D cl (a, .inl (cA, n, .inl (upd f j (vp_nar .boolean x)))) H1 := by
  show H1[a]? = some (vp_cell _ _)
  rw [e, vp_cell_i, vp_cell_i, arrV_store]
  congr 2
  funext q
  by_cases hq : q = j
  · subst hq
    simp [updV, upd, vp_nar]
    try rfl
  · simp [updV, upd, hq]
theorem Wd.put {G : Gx} {h : Hp} {nx : Nat} {H H1 : Heap} (hW : Wd G h nx H) {a : Nat} {e e0 : va_E} (ha : h a = some e0) (h1 : va_at (g_D G) vwCl (a, e) H1) (z : H1.size = H.size) (oq : ∀ q : Nat, q ≠ a → H1[q]? = H[q]?) : Wd G (hset h a e) nx H1 := by
  refine ⟨z.trans hW.1, fun q e' hq => ?_⟩
  by_cases n : q = a
  · subst n
    rw [hset_same] at hq
    cases hq
    exact ⟨(hW.2 q _ ha).1, h1⟩
  · rw [hset_ne n] at hq
    obtain ⟨b1, b2⟩ := hW.2 q e' hq
    exact ⟨b1, b2.kept (oq q n)⟩
theorem Wd.push {G : Gx} {h : Hp} {nx : Nat} {H H1 : Heap} (hW : Wd G h nx H) {e : va_E} (h1 : va_at (g_D G) vwCl (g_B G + nx, e) H1) (z : H1.size = H.size + 1) (oq : ∀ q : Nat, q < H.size → H1[q]? = H[q]?) : Wd G (hset h (g_B G + nx) e) (nx + 1) H1 := by
  refine ⟨by rw [z, hW.1]; rfl, fun q e' hq => ?_⟩
  by_cases n : q = g_B G + nx
  · subst n
    rw [hset_same] at hq
    cases hq
    exact ⟨Nat.le_add_right _ _, h1⟩
  · rw [hset_ne n] at hq
    obtain ⟨b1, b2⟩ := hW.2 q e' hq
    exact ⟨b1, b2.kept (oq q b2.lt)⟩
theorem Ok.putf {Cn : String} {T : u_T} {N ci i a kf : Nat} {ref : String} {fs : List Value} {v : Value} {ty : FieldType} (hd : decode (m_cc M) pc = .ok (.putfield i, 3)) (hc : vwCl[ci]? = some (Cn, T, N)) (hin : ∀ w ∈ u_ws Cn T N, w ∈ tbG) (ty0 : Nat → FieldType) (hty : ∀ k, k < N → parseFieldDescriptor (T k).2.2.1 = some (ty0 k)) (hnm : ∀ a, a < N → ∀ b, b < N → a ≠ b → (T a).2.1 ≠ (T b).2.1) (hk : kf < N) (hlink : Cond.fieldLink (m_own M) i ref (T kf).2.1 (T kf).2.2.1 ∈ tbG) (hsame : ref = (T kf).1 ∨ Cond.sameField ref (T kf).1 (T kf).2.1 (T kf).2.2.1 ∈ tbG) (hfin : (T kf).2.2.2 = false) (htd : parseFieldDescriptor (T kf).2.2.1 = some ty) (hn : narrow ty v = v) (hfit : fits ty v = true) (hlf : kf < fs.length) (ha : h a = some (ob ci fs)) (k : Ok G M d post (pc + 3) ls stk (hset h a (ob ci (fs.set kf v))) nx kc ks) : Ok G M d post pc ls (v :: .ref a :: stk) h nx kc ks := by
  intro p e s m args below meth c H locs ls0 C hW hS hl
  have hK := C.K
  have hts := C.2.2.2.2.2.1
  have hsame' : ∀ x, s.fieldFound? (T kf).1 (T kf).2.1 (T kf).2.2.1 = some x → s.fieldFound? ref (T kf).2.1 (T kf).2.2.1 = some x := by
    rcases hsame with q | q
    · intro x hx; rw [q]; exact hx
    · intro x hx; exact (u_same (C.w q) x hx)
  have hap := va_apart (own := m_own M) hts hin ty0 hty hnm hK hc
  have he := (hW.2 a _ ha).2
  obtain ⟨r, h1, cell, q1, q2, q3, q4⟩ := he
  have hr : r = (Cn, T, N) := Option.some.inj (h1.symm.trans hc)
  subst hr
  obtain ⟨hSl, hfc, kC, hkC, hkind⟩ := hK.1 ci _ hc
  obtain ⟨cf, kF, fi, f, hi, hsl⟩ := hSl kf hk
  have hlay := hts _ (hin _ (u_in_lay hk))
  unfold u_lay at hlay
  rw [if_neg (by rw [hfin]; decide)] at hlay
  have hst := (u_facts hfc hkC (u_lays hts hin hk) hi).1
  have h6 := u_store hfc hkC hkind hlay hi htd hn hfit
  refine W.putK C.1 C.2.1 (f := f) ⟨C.2.2.2.2.1, C.w hlink, ⟨_, _, _, hsame' _ hi⟩, hst⟩ (by rw [q2]; exact h6) q1 q3 (by rw [hsl]; exact k2_hasslot (q4 kf hk)) rfl rfl hd fun H' e1 e2 e3 => ?_
  rw [hsl] at e1 ⊢
  exact k p e s m args below meth c H' _ ls0 C (hW.put ha ⟨_, hc, t_OB.to (V := updV (vp_V fs) kf v) ⟨_, e1, q2, q3, t_set q4 hap hk v⟩ (fun j _ => vp_updV_set hlf v j)⟩ e2 e3) (hS.put e2 e3 (hW.2 a _ ha).1) hl
theorem Ok.putF {Cn : String} {T : u_T} {N ci i a kf : Nat} {ref : String} {fs : List Value} {v : Value} {ty : FieldType} (hd : decode (m_cc M) pc = .ok (.putfield i, 3)) (hc : vwCl[ci]? = some (Cn, T, N)) (hin : ∀ w ∈ u_ws Cn T N, w ∈ tbG) (ty0 : Nat → FieldType) (hty : ∀ k, k < N → parseFieldDescriptor (T k).2.2.1 = some (ty0 k)) (hnm : ∀ a, a < N → ∀ b, b < N → a ≠ b → (T a).2.1 ≠ (T b).2.1) (hk : kf < N) (hlink : Cond.fieldLink (m_own M) i ref (T kf).2.1 (T kf).2.2.1 ∈ tbG) (hsame : ref = (T kf).1 ∨ Cond.sameField ref (T kf).1 (T kf).2.1 (T kf).2.2.1 ∈ tbG) (hfin : (T kf).2.2.2 = true) (hini : (m_y M).name = "<init>") (hdecl : (T kf).1 = m_own M) (htd : parseFieldDescriptor (T kf).2.2.1 = some ty) (hn : narrow ty v = v) (hfit : fits ty v = true) (hlf : kf < fs.length) (ha : h a = some (ob ci fs)) (k : Ok G M d post (pc + 3) ls stk (hset h a (ob ci (fs.set kf v))) nx kc ks) : Ok G M d post pc ls (v :: .ref a :: stk) h nx kc ks := by
  intro p e s m args below meth c H locs ls0 C hW hS hl
  have hK := C.K
  have hts := C.2.2.2.2.2.1
  have hsame' : ∀ x, s.fieldFound? (T kf).1 (T kf).2.1 (T kf).2.2.1 = some x → s.fieldFound? ref (T kf).2.1 (T kf).2.2.1 = some x := by
    rcases hsame with q | q
    · intro x hx; rw [q]; exact hx
    · intro x hx; exact (u_same (C.w q) x hx)
  have hap := va_apart (own := m_own M) hts hin ty0 hty hnm hK hc
  have he := (hW.2 a _ ha).2
  obtain ⟨r, h1, cell, q1, q2, q3, q4⟩ := he
  have hr : r = (Cn, T, N) := Option.some.inj (h1.symm.trans hc)
  subst hr
  obtain ⟨hSl, hfc, kC, hkC, hkind⟩ := hK.1 ci _ hc
  obtain ⟨cf, kF, fi, f, hi, hsl⟩ := hSl kf hk
  have hlay := hts _ (hin _ (u_in_lay hk))
  unfold u_lay at hlay
  rw [if_pos hfin] at hlay
  have hst := (u_facts hfc hkC (u_lays hts hin hk) hi).1
  have hcf : m.cls = cf := by
    obtain ⟨_, _, c', _, _, _, -, -, hf', -, -, -, hown2, -⟩ := Cond.laysFinal_spec hlay
    have e1 : c' = cf := by have := hi.symm.trans hf'; simp at this; exact this.1.symm
    rw [hdecl] at hown2
    rw [← e1]; exact Option.some.inj (C.2.2.2.2.1.symm.trans hown2)
  have h6 := u_fits hfc hkC hkind (Or.inr hlay) hi htd hn hfit
  refine W.putFinK C.1 C.2.1 C.2.2.2.2.1 (C.w hlink) (hsame' _ hi) hst hcf (C.2.2.2.2.2.2.2.1.trans hini) (by rw [q2]; exact h6) q1 q3 (by rw [hsl]; exact k2_hasslot (q4 kf hk)) rfl rfl hd fun H' e1 e2 e3 => ?_
  rw [hsl] at e1 ⊢
  exact k p e s m args below meth c H' _ ls0 C (hW.put ha ⟨_, hc, t_OB.to (V := updV (vp_V fs) kf v) ⟨_, e1, q2, q3, t_set q4 hap hk v⟩ (fun j _ => vp_updV_set hlf v j)⟩ e2 e3) (hS.put e2 e3 (hW.2 a _ ha).1) hl
theorem Ok.iast {a n : Nat} {f : Nat → Int32} {i : Int32} {x : Int32} (hd : decode (m_cc M) pc = .ok (.iastore, 1)) (ha : h a = some (aI G n f)) (hi : vp_in i n) (k : Ok G M d post (pc + 1) ls stk (hset h a (aI G n (upd f i.toNatClampNeg x))) nx kc ks) : Ok G M d post pc ls (.int x :: .int i :: .ref a :: stk) h nx kc ks := by
  intro p e s m args below meth c H locs ls0 C hW hS hl
  refine W.iast C.1 C.2.1 ((hW.P ha) 0 _ rfl) ((C.K.2 0 (g_c G 0, .int) rfl).1 n (fun j => .int (f j))) (fun q => by cases q) (by show ¬ (i < 0 ∨ (arrV _ _ _).slots.size ≤ _); rw [arrV_size]; exact hi) rfl rfl hd fun H1 e1 z1 o1 => ?_
  refine k p e s m args below meth c H1 _ ls0 C (hW.put ha ?_ z1 o1) (hS.put z1 o1 (hW.2 a _ ha).1) hl
  exact ast_iast e1
theorem Ok.last {a n : Nat} {f : Nat → Int64} {i : Int32} {x : Int64} (hd : decode (m_cc M) pc = .ok (.lastore, 1)) (ha : h a = some (aJ G n f)) (hi : vp_in i n) (k : Ok G M d post (pc + 1) ls stk (hset h a (aJ G n (vp_updL f i.toNatClampNeg x))) nx kc ks) : Ok G M d post pc ls (.long x :: .int i :: .ref a :: stk) h nx kc ks := by
  intro p e s m args below meth c H locs ls0 C hW hS hl
  refine W.last C.1 C.2.1 ((hW.P ha) 0 _ rfl) ((C.K.2 1 (g_c G 1, .long) rfl).1 n (fun j => .long (f j))) (fun q => by cases q) (by show ¬ (i < 0 ∨ (arrV _ _ _).slots.size ≤ _); rw [arrV_size]; exact hi) rfl rfl hd fun H1 e1 z1 o1 => ?_
  refine k p e s m args below meth c H1 _ ls0 C (hW.put ha ?_ z1 o1) (hS.put z1 o1 (hW.2 a _ ha).1) hl
  exact ast_last e1
theorem Ok.bast {a n : Nat} {f : Nat → Int32} {i : Int32} {x : Int32} (hd : decode (m_cc M) pc = .ok (.bastore, 1)) (ha : h a = some (aB G n f)) (hi : vp_in i n) (k : Ok G M d post (pc + 1) ls stk (hset h a (aB G n (upd f i.toNatClampNeg (vp_nar .byte x)))) nx kc ks) : Ok G M d post pc ls (.int x :: .int i :: .ref a :: stk) h nx kc ks := by
  intro p e s m args below meth c H locs ls0 C hW hS hl
  refine W.bast C.1 C.2.1 ((hW.P ha) 0 _ rfl) ((C.K.2 2 (g_c G 2, .byte) rfl).1 n (fun j => .int (f j))) (fun q => by cases q) (by show ¬ (i < 0 ∨ (arrV _ _ _).slots.size ≤ _); rw [arrV_size]; exact hi) rfl rfl hd fun H1 e1 z1 o1 => ?_
  refine k p e s m args below meth c H1 _ ls0 C (hW.put ha ?_ z1 o1) (hS.put z1 o1 (hW.2 a _ ha).1) hl
  exact ast_bast e1
theorem Ok.zast {a n : Nat} {f : Nat → Int32} {i : Int32} {x : Int32} (hd : decode (m_cc M) pc = .ok (.bastore, 1)) (ha : h a = some (aZ G n f)) (hi : vp_in i n) (k : Ok G M d post (pc + 1) ls stk (hset h a (aZ G n (upd f i.toNatClampNeg (vp_nar .boolean x)))) nx kc ks) : Ok G M d post pc ls (.int x :: .int i :: .ref a :: stk) h nx kc ks := by
  intro p e s m args below meth c H locs ls0 C hW hS hl
  refine W.zast C.1 C.2.1 ((hW.P ha) 0 _ rfl) ((C.K.2 3 (g_c G 3, .boolean) rfl).1 n (fun j => .int (f j))) (fun q => by cases q) (by show ¬ (i < 0 ∨ (arrV _ _ _).slots.size ≤ _); rw [arrV_size]; exact hi) rfl rfl hd fun H1 e1 z1 o1 => ?_
  refine k p e s m args below meth c H1 _ ls0 C (hW.put ha ?_ z1 o1) (hS.put z1 o1 (hW.2 a _ ha).1) hl
  exact ast_zast e1
end OK
