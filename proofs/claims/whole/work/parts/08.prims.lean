/-! PRIMS: programs over the heap's picture; each step is told what goes on with it. -/
def Same (x : Option Value) (h : Hp) (nx : Nat) : Po := fun v h' nx' => v = x ∧ h' = h ∧ nx' = nx
abbrev Rz (α : Type) : Type := Option (α × Hp × Nat)
def fuelL : Nat := 2048
def lSub : Lc → Lc → Prop
  | [], _ => True
  | none :: r', _ :: r => lSub r' r
  | some v :: r', x :: r => x = some v ∧ lSub r' r
  | none :: r', [] => lSub r' []
  | some _ :: _, [] => False
theorem lSub_le : ∀ {ls' ls : Lc}, lSub ls' ls → ∀ (i : Nat) (v : Value), ls'[i]? = some (some v) → ls[i]? = some (some v)
  | [], _, _, i, v, q => by simp at q
  | none :: r', x :: r, h, 0, v, q => by simp at q
  | none :: r', x :: r, h, i + 1, v, q => by
    have h : lSub r' r := h
    simpa using lSub_le h i v (by simpa using q)
  | none :: r', [], h, 0, v, q => by simp at q
  | none :: r', [], h, i + 1, v, q => by
    have h : lSub r' [] := h
    have := lSub_le h i v (by simpa using q)
    simp at this
  | some w :: r', x :: r, h, 0, v, q => by
    have h : x = some w ∧ lSub r' r := h
    simp only [List.getElem?_cons_zero, Option.some.injEq] at q
    subst q
    rw [h.1]
    rfl
  | some w :: r', x :: r, h, i + 1, v, q => by
    have h : x = some w ∧ lSub r' r := h
    simpa using lSub_le h.2 i v (by simpa using q)
  | some w :: r', [], h, _, v, q => h.elim
section PD
variable {α β : Type}
def cl (r : Rz α) (f : α → Hp → Nat → Option β) : Option β := match r with
  | some q => f q.1 q.2.1 q.2.2
  | none => none
def nm (x : α) (f : α → Option β) : Option β := f x
def nn (r : Option Nat) (f : Nat → Option β) : Option β := match r with
  | some a => f a
  | none => none
def qn (r : Option Nat) (z : Option β) (f : Nat → Option β) : Option β := match r with
  | some a => f a
  | none => z
def zk (x : Int32) (f : Option β) : Option β := if x = 0 ∨ x = 1 then f else none
def ck (h : Hp) (a : Nat) (cs : List Nat) (f : Nat → Option β) : Option β := match h a with
  | some (.inr q) => if q.1 ∈ cs then f q.1 else none
  | _ => none
def gfI (h : Hp) (a : Nat) (cs : List Nat) (k : Nat) (f : Int32 → Option β) : Option β := match h a with
  | some (.inr q) => if q.1 ∈ cs then (match q.2[k]? with
    | some (.int x) => f x
    | _ => none) else none
  | _ => none
def gfJ (h : Hp) (a : Nat) (cs : List Nat) (k : Nat) (f : Int64 → Option β) : Option β := match h a with
  | some (.inr q) => if q.1 ∈ cs then (match q.2[k]? with
    | some (.long x) => f x
    | _ => none) else none
  | _ => none
def gfR (h : Hp) (a : Nat) (cs : List Nat) (k : Nat) (f : Option Nat → Option β) : Option β := match h a with
  | some (.inr q) => if q.1 ∈ cs then (match q.2[k]? with
    | some (.ref x) => f (some x)
    | some .null => f none
    | _ => none) else none
  | _ => none
def pfV (h : Hp) (a : Nat) (cs : List Nat) (k : Nat) (v : Value) (f : Hp → Option β) : Option β := match h a with
  | some (.inr q) => if q.1 ∈ cs ∧ k < q.2.length then f (hset h a (ob q.1 (q.2.set k v))) else none
  | _ => none
def alI (c : ClassId) (h : Hp) (a : Nat) (i : Int32) (f : Int32 → Option β) : Option β := match h a with
  | some (.inl (cA, n, .inl g)) => if cA = c ∧ ¬ (i < 0 ∨ n ≤ i.toNatClampNeg) then f (g i.toNatClampNeg) else none
  | _ => none
def alJ (c : ClassId) (h : Hp) (a : Nat) (i : Int32) (f : Int64 → Option β) : Option β := match h a with
  | some (.inl (cA, n, .inr (.inl g))) => if cA = c ∧ ¬ (i < 0 ∨ n ≤ i.toNatClampNeg) then f (g i.toNatClampNeg) else none
  | _ => none
def alR (c : ClassId) (h : Hp) (a : Nat) (i : Int32) (f : Option Nat → Option β) : Option β := match h a with
  | some (.inl (cA, n, .inr (.inr (.inr (.inr g))))) => if cA = c ∧ ¬ (i < 0 ∨ n ≤ i.toNatClampNeg) then f (g i.toNatClampNeg) else none
  | _ => none
def asI (c : ClassId) (nar : Int32 → Int32) (h : Hp) (a : Nat) (i x : Int32) (f : Hp → Option β) : Option β := match h a with
  | some (.inl (cA, n, .inl g)) => if cA = c ∧ ¬ (i < 0 ∨ n ≤ i.toNatClampNeg) then f (hset h a (.inl (c, n, .inl (upd g i.toNatClampNeg (nar x))))) else none
  | _ => none
def asJ (c : ClassId) (h : Hp) (a : Nat) (i : Int32) (x : Int64) (f : Hp → Option β) : Option β := match h a with
  | some (.inl (cA, n, .inr (.inl g))) => if cA = c ∧ ¬ (i < 0 ∨ n ≤ i.toNatClampNeg) then f (hset h a (.inl (c, n, .inr (.inl (vp_updL g i.toNatClampNeg x))))) else none
  | _ => none
def okR (h : Hp) (cs : List Nat) (r : Option Nat) : Bool := match r with
  | none => true
  | some v => (match h v with
    | some (.inr q) => decide (q.1 ∈ cs)
    | _ => false)
def asR (c : ClassId) (cs : List Nat) (h : Hp) (a : Nat) (i : Int32) (r : Option Nat) (f : Hp → Option β) : Option β := match h a with
  | some (.inl (cA, n, .inr (.inr (.inr (.inr g))))) => if cA = c ∧ ¬ (i < 0 ∨ n ≤ i.toNatClampNeg) ∧ okR h cs r = true then f (hset h a (.inl (c, n, .inr (.inr (.inr (.inr (va_up g i.toNatClampNeg r))))))) else none
  | _ => none
def lnI (c : ClassId) (h : Hp) (a : Nat) (f : Int32 → Option β) : Option β := match h a with
  | some (.inl (cA, n, .inl _)) => if cA = c then f (nI n) else none
  | _ => none
def lnJ (c : ClassId) (h : Hp) (a : Nat) (f : Int32 → Option β) : Option β := match h a with
  | some (.inl (cA, n, .inr (.inl _))) => if cA = c then f (nI n) else none
  | _ => none
def nwO (G : Gx) (h : Hp) (nx ci : Nat) (fs : List Value) (f : Nat → Hp → Nat → Option β) : Option β := f (g_B G + nx) (hset h (g_B G + nx) (ob ci fs)) (nx + 1)
def nwI (G : Gx) (c : ClassId) (h : Hp) (nx : Nat) (n : Int32) (lim : Nat) (f : Nat → Hp → Nat → Option β) : Option β := if ¬ n < 0 ∧ n.toNatClampNeg ≤ lim then f (g_B G + nx) (hset h (g_B G + nx) (.inl (c, n.toNatClampNeg, .inl (fun _ => (0 : Int32))))) (nx + 1) else none
def nwJ (G : Gx) (c : ClassId) (h : Hp) (nx : Nat) (n : Int32) (lim : Nat) (f : Nat → Hp → Nat → Option β) : Option β := if ¬ n < 0 ∧ n.toNatClampNeg ≤ lim then f (g_B G + nx) (hset h (g_B G + nx) (.inl (c, n.toNatClampNeg, .inr (.inl (fun _ => (0 : Int64)))))) (nx + 1) else none
def nwR (G : Gx) (c : ClassId) (h : Hp) (nx : Nat) (n : Int32) (lim : Nat) (f : Nat → Hp → Nat → Option β) : Option β := if ¬ n < 0 ∧ n.toNatClampNeg ≤ lim then f (g_B G + nx) (hset h (g_B G + nx) (.inl (c, n.toNatClampNeg, .inr (.inr (.inr (.inr (fun _ => none))))))) (nx + 1) else none
def nwG (G : Gx) (h : Hp) (nx N K : Nat) (f : Nat → Hp → Nat → Option β) : Option β := f (g_B G + nx) (mset G h nx N K) (nx + 1 + N)
def acI (c : ClassId) (ty : FieldType) (h : Hp) (a0 : Nat) (sp : Int32) (a : Nat) (dp n : Int32) (f : Hp → Option β) : Option β := match h a0, h a with
  | some (.inl (c0, n0, .inl g0)), some (.inl (c1, n1, .inl g1)) => if (c0 = c ∧ c1 = c ∧ ¬ sp < 0 ∧ ¬ dp < 0 ∧ ¬ n < 0) ∧ sp.toNatClampNeg + n.toNatClampNeg ≤ n0 ∧ dp.toNatClampNeg + n.toNatClampNeg ≤ n1 ∧ (List.range n.toNatClampNeg).all (fun j => fits ty (.int (g0 (sp.toNatClampNeg + j)))) = true then f (hset h a (.inl (c, n1, .inl (cv_cpy g0 g1 sp.toNatClampNeg dp.toNatClampNeg n.toNatClampNeg)))) else none
  | _, _ => none
def clB (G : Gx) (h : Hp) (nx a lim : Nat) (f : Nat → Hp → Nat → Option β) : Option β := match h a with
  | some (.inl (cA, n, .inl g)) => if cA = g_c G 2 ∧ n ≤ lim ∧ (List.range n).all (fun j => fits .byte (.int (g j))) = true then f (g_B G + nx) (hset h (g_B G + nx) (.inl (g_c G 2, n, .inl g))) (nx + 1) else none
  | _ => none
def inC (h : Hp) (a : Nat) (all ys : List Nat) (f : Int32 → Option β) : Option β := match h a with
  | some (.inr q) => if q.1 ∈ all then f (if q.1 ∈ ys then 1 else 0) else none
  | _ => none
def slI (G : Gx) (i : Int32) (f : Int32 → Option β) : Option β := if ¬ (i < 0 ∨ g_L G ≤ i.toNatClampNeg) then f (g_xs G i.toNatClampNeg) else none
def stL (i : Nat) (f : Int32 → Option β) : Option β := if i < 12 then f (nI (txN.getD i 0)) else none
def stC (i : Nat) (k : Int32) (f : Int32 → Option β) : Option β := if i < 12 ∧ ¬ (k < 0 ∨ txN.getD i 0 ≤ k.toNatClampNeg) then f ((txB.getD i []).getD k.toNatClampNeg 0) else none
end PD
/-! what the tables say of a field, of a test of a kind -/
def FL (own : String) (i : Nat) (cs : List Nat) (k : Nat) : Prop := ∀ c ∈ cs, ∃ (Cn : String) (T : u_T) (N : Nat) (ref : String), vwCl[c]? = some (Cn, T, N) ∧ (∀ w ∈ u_ws Cn T N, w ∈ tbG) ∧ k < N ∧ Cond.fieldLink own i ref (T k).2.1 (T k).2.2.1 ∈ tbG ∧ (ref = (T k).1 ∨ Cond.sameField ref (T k).1 (T k).2.1 (T k).2.2.1 ∈ tbG)
def FP (own : String) (i : Nat) (cs : List Nat) (k : Nat) (ty : FieldType) (fin : Bool) : Prop := ∀ c ∈ cs, ∃ (Cn : String) (T : u_T) (N : Nat) (ref : String) (ty0 : Nat → FieldType), vwCl[c]? = some (Cn, T, N) ∧ (∀ w ∈ u_ws Cn T N, w ∈ tbG) ∧ (∀ k, k < N → parseFieldDescriptor (T k).2.2.1 = some (ty0 k)) ∧ (∀ a, a < N → ∀ b, b < N → a ≠ b → (T a).2.1 ≠ (T b).2.1) ∧ k < N ∧ Cond.fieldLink own i ref (T k).2.1 (T k).2.2.1 ∈ tbG ∧ (ref = (T k).1 ∨ Cond.sameField ref (T k).1 (T k).2.1 (T k).2.2.1 ∈ tbG) ∧ (T k).2.2.2 = fin ∧ parseFieldDescriptor (T k).2.2.1 = some ty ∧ (fin = true → (T k).1 = own)
def FI (own : String) (i : Nat) (all ys : List Nat) : Prop := ∃ nm : String, Cond.classLink own i nm ∈ tbG ∧ ∀ c ∈ all, ∃ r : vw_C, vwCl[c]? = some r ∧ ((c ∈ ys ∧ (r.1 = nm ∨ (r.1, nm) ∈ csL)) ∨ (c ∉ ys ∧ (r.1, nm) ∈ ncL))
theorem va_rf_cat (r : Option Nat) : (va_rf r).category = 1 := by cases r <;> rfl
theorem unw_q (r : Option Nat) : unw (some (va_rf r)) = some (va_rf r) := by cases r <;> rfl
section PX
variable {G : Gx} {M : Mt} {d : Nat} {post : Po} {pc : Nat} {ls : Lc} {stk : List Value} {h : Hp} {nx kc ks : Nat} {α β : Type} {R : β}
theorem Ok.weakL {ls' : Lc} (k : Ok G M d post pc ls' stk h nx kc ks) (e : lSub ls' ls) : Ok G M d post pc ls stk h nx kc ks := Ok.weak k (lSub_le e)
theorem Ok.aloadQ {i : Nat} {r : Option Nat} (hd : decode (m_cc M) pc = .ok (.aload i, 2)) (hv : ls[i]? = some (some (va_rf r))) (k : Ok G M d post (pc + 2) ls (va_rf r :: stk) h nx kc ks) : Ok G M d post pc ls stk h nx kc ks := by
  cases r with
  | none => exact Ok.aloadN hd hv k
  | some a => exact Ok.aload hd hv k
theorem Ok.aload_nQ {j : Fin 4} {r : Option Nat} (hd : decode (m_cc M) pc = .ok (.aload_n j, 1)) (hv : ls[(j : Nat)]? = some (some (va_rf r))) (k : Ok G M d post (pc + 1) ls (va_rf r :: stk) h nx kc ks) : Ok G M d post pc ls stk h nx kc ks := by
  cases r with
  | none => exact Ok.aload_nN hd hv k
  | some a => exact Ok.aload_n hd hv k
theorem Ok.astoreN {i : Nat} (hd : decode (m_cc M) pc = .ok (.astore i, 2)) (hn : i < m_nL M) (k : Ok G M d post (pc + 2) (lst1 ls i .null) stk h nx kc ks) : Ok G M d post pc ls (.null :: stk) h nx kc ks := by
  intro p e s m args below meth c H locs ls0 C hW hS hl
  exact lv_astoreN C.1 C.2.1 hd (show lv_has ls0 (m_nL M) (lpairs ls) from hl) hn rfl (fun ls1 hl1 => k p e s m args below meth c H locs ls1 C hW hS (Lh.st1 hl1))
theorem Ok.astore_nN {j : Fin 4} (hd : decode (m_cc M) pc = .ok (.astore_n j, 1)) (hn : (j : Nat) < m_nL M) (k : Ok G M d post (pc + 1) (lst1 ls (j : Nat) .null) stk h nx kc ks) : Ok G M d post pc ls (.null :: stk) h nx kc ks := by
  intro p e s m args below meth c H locs ls0 C hW hS hl
  exact lv_astore_nN C.1 C.2.1 hd rfl (show lv_has ls0 (m_nL M) (lpairs ls) from hl) hn rfl (fun ls1 hl1 => k p e s m args below meth c H locs ls1 C hW hS (Lh.st1 hl1))
theorem X.istore {i : Nat} {x : Int32} {f : Int32 → Option β} {L : Int32 → Lc} (hd : decode (m_cc M) pc = .ok (.istore i, 2)) (hn : i < m_nL M) (e : nm x f = some R) (hL : ∀ y : Int32, lst1 ls i (.int y) = L y) (k : ∀ y : Int32, f y = some R → Ok G M d post (pc + 2) (L y) stk h nx kc ks) : Ok G M d post pc ls (.int x :: stk) h nx kc ks := Ok.istore hd hn (by rw [hL]; exact k x e)
theorem X.istore_n {j : Fin 4} {x : Int32} {f : Int32 → Option β} {L : Int32 → Lc} (hd : decode (m_cc M) pc = .ok (.istore_n j, 1)) (hn : (j : Nat) < m_nL M) (e : nm x f = some R) (hL : ∀ y : Int32, lst1 ls (j : Nat) (.int y) = L y) (k : ∀ y : Int32, f y = some R → Ok G M d post (pc + 1) (L y) stk h nx kc ks) : Ok G M d post pc ls (.int x :: stk) h nx kc ks := Ok.istore_n hd hn (by rw [hL]; exact k x e)
theorem X.lstore {i : Nat} {x : Int64} {f : Int64 → Option β} {L : Int64 → Lc} (hd : decode (m_cc M) pc = .ok (.lstore i, 2)) (hn : i + 1 < m_nL M) (e : nm x f = some R) (hL : ∀ y : Int64, lst2 ls i (.long y) = L y) (k : ∀ y : Int64, f y = some R → Ok G M d post (pc + 2) (L y) stk h nx kc ks) : Ok G M d post pc ls (.long x :: stk) h nx kc ks := Ok.lstore hd hn (by rw [hL]; exact k x e)
theorem X.lstore_n {j : Fin 4} {x : Int64} {f : Int64 → Option β} {L : Int64 → Lc} (hd : decode (m_cc M) pc = .ok (.lstore_n j, 1)) (hn : (j : Nat) + 1 < m_nL M) (e : nm x f = some R) (hL : ∀ y : Int64, lst2 ls (j : Nat) (.long y) = L y) (k : ∀ y : Int64, f y = some R → Ok G M d post (pc + 1) (L y) stk h nx kc ks) : Ok G M d post pc ls (.long x :: stk) h nx kc ks := Ok.lstore_n hd hn (by rw [hL]; exact k x e)
theorem X.astore {i : Nat} {x : Nat} {f : Nat → Option β} {L : Nat → Lc} (hd : decode (m_cc M) pc = .ok (.astore i, 2)) (hn : i < m_nL M) (e : nm x f = some R) (hL : ∀ y : Nat, lst1 ls i (.ref y) = L y) (k : ∀ y : Nat, f y = some R → Ok G M d post (pc + 2) (L y) stk h nx kc ks) : Ok G M d post pc ls (.ref x :: stk) h nx kc ks := Ok.astore hd hn (by rw [hL]; exact k x e)
theorem X.astore_n {j : Fin 4} {x : Nat} {f : Nat → Option β} {L : Nat → Lc} (hd : decode (m_cc M) pc = .ok (.astore_n j, 1)) (hn : (j : Nat) < m_nL M) (e : nm x f = some R) (hL : ∀ y : Nat, lst1 ls (j : Nat) (.ref y) = L y) (k : ∀ y : Nat, f y = some R → Ok G M d post (pc + 1) (L y) stk h nx kc ks) : Ok G M d post pc ls (.ref x :: stk) h nx kc ks := Ok.astore_n hd hn (by rw [hL]; exact k x e)
theorem X.astoreQ {i : Nat} {x : Option Nat} {f : Option Nat → Option β} {L : Option Nat → Lc} (hd : decode (m_cc M) pc = .ok (.astore i, 2)) (hn : i < m_nL M) (e : nm x f = some R) (hL : ∀ y : Option Nat, lst1 ls i (va_rf y) = L y) (k : ∀ y : Option Nat, f y = some R → Ok G M d post (pc + 2) (L y) stk h nx kc ks) : Ok G M d post pc ls (va_rf x :: stk) h nx kc ks := by
  have k2 : Ok G M d post (pc + 2) (lst1 ls i (va_rf x)) stk h nx kc ks := by rw [hL]; exact k x e
  cases x with
  | none => exact Ok.astoreN hd hn k2
  | some a => exact Ok.astore hd hn k2
theorem X.astore_nQ {j : Fin 4} {x : Option Nat} {f : Option Nat → Option β} {L : Option Nat → Lc} (hd : decode (m_cc M) pc = .ok (.astore_n j, 1)) (hn : (j : Nat) < m_nL M) (e : nm x f = some R) (hL : ∀ y : Option Nat, lst1 ls (j : Nat) (va_rf y) = L y) (k : ∀ y : Option Nat, f y = some R → Ok G M d post (pc + 1) (L y) stk h nx kc ks) : Ok G M d post pc ls (va_rf x :: stk) h nx kc ks := by
  have k2 : Ok G M d post (pc + 1) (lst1 ls (j : Nat) (va_rf x)) stk h nx kc ks := by rw [hL]; exact k x e
  cases x with
  | none => exact Ok.astore_nN hd hn k2
  | some a => exact Ok.astore_n hd hn k2
theorem X.iinc {i : Nat} {n : Int} {x w : Int32} {f : Int32 → Option β} {L : Int32 → Lc} (hd : decode (m_cc M) pc = .ok (.iinc i n, 3)) (hv : ls[i]? = some (some (.int x))) (hn : i < m_nL M) (hw : Int32.ofInt n = w) (e : nm (x + w) f = some R) (hL : ∀ y : Int32, lst1 ls i (.int y) = L y) (k : ∀ y : Int32, f y = some R → Ok G M d post (pc + 3) (L y) stk h nx kc ks) : Ok G M d post pc ls stk h nx kc ks := Ok.iinc hd hv hn (by rw [hL, hw]; exact k (x + w) e)
theorem X.icmp_eq {x y : Int32} {off : Int} {tgt : Nat} {z1 z2 : Option β} (hd : decode (m_cc M) pc = .ok (.if_icmp .eq off, 3)) (ht : (pc : Int) + off = (tgt : Int)) (e : (if x = y then z1 else z2) = some R) (kt : z1 = some R → Ok G M d post tgt ls stk h nx kc ks) (kf : z2 = some R → Ok G M d post (pc + 3) ls stk h nx kc ks) : Ok G M d post pc ls (.int y :: .int x :: stk) h nx kc ks := by
  by_cases c : x = y
  · rw [if_pos c] at e
    exact Ok.icmp_eq hd ht (fun _ => kt e) (fun q => absurd c q)
  · rw [if_neg c] at e
    exact Ok.icmp_eq hd ht (fun q => absurd q c) (fun _ => kf e)
theorem X.icmp_ne {x y : Int32} {off : Int} {tgt : Nat} {z1 z2 : Option β} (hd : decode (m_cc M) pc = .ok (.if_icmp .ne off, 3)) (ht : (pc : Int) + off = (tgt : Int)) (e : (if x = y then z2 else z1) = some R) (kt : z1 = some R → Ok G M d post tgt ls stk h nx kc ks) (kf : z2 = some R → Ok G M d post (pc + 3) ls stk h nx kc ks) : Ok G M d post pc ls (.int y :: .int x :: stk) h nx kc ks := by
  by_cases c : x = y
  · rw [if_pos c] at e
    exact Ok.icmp_ne hd ht (fun q => absurd c q) (fun _ => kf e)
  · rw [if_neg c] at e
    exact Ok.icmp_ne hd ht (fun _ => kt e) (fun q => absurd q c)
theorem X.icmp_lt {x y : Int32} {off : Int} {tgt : Nat} {z1 z2 : Option β} (hd : decode (m_cc M) pc = .ok (.if_icmp .lt off, 3)) (ht : (pc : Int) + off = (tgt : Int)) (e : (if x < y then z1 else z2) = some R) (kt : z1 = some R → Ok G M d post tgt ls stk h nx kc ks) (kf : z2 = some R → Ok G M d post (pc + 3) ls stk h nx kc ks) : Ok G M d post pc ls (.int y :: .int x :: stk) h nx kc ks := by
  by_cases c : x < y
  · rw [if_pos c] at e
    exact Ok.icmp_lt hd ht (fun _ => kt e) (fun q => absurd c q)
  · rw [if_neg c] at e
    exact Ok.icmp_lt hd ht (fun q => absurd q c) (fun _ => kf e)
theorem X.icmp_ge {x y : Int32} {off : Int} {tgt : Nat} {z1 z2 : Option β} (hd : decode (m_cc M) pc = .ok (.if_icmp .ge off, 3)) (ht : (pc : Int) + off = (tgt : Int)) (e : (if y ≤ x then z1 else z2) = some R) (kt : z1 = some R → Ok G M d post tgt ls stk h nx kc ks) (kf : z2 = some R → Ok G M d post (pc + 3) ls stk h nx kc ks) : Ok G M d post pc ls (.int y :: .int x :: stk) h nx kc ks := by
  by_cases c : y ≤ x
  · rw [if_pos c] at e
    exact Ok.icmp_ge hd ht (fun _ => kt e) (fun q => absurd c q)
  · rw [if_neg c] at e
    exact Ok.icmp_ge hd ht (fun q => absurd q c) (fun _ => kf e)
theorem X.icmp_gt {x y : Int32} {off : Int} {tgt : Nat} {z1 z2 : Option β} (hd : decode (m_cc M) pc = .ok (.if_icmp .gt off, 3)) (ht : (pc : Int) + off = (tgt : Int)) (e : (if y < x then z1 else z2) = some R) (kt : z1 = some R → Ok G M d post tgt ls stk h nx kc ks) (kf : z2 = some R → Ok G M d post (pc + 3) ls stk h nx kc ks) : Ok G M d post pc ls (.int y :: .int x :: stk) h nx kc ks := by
  by_cases c : y < x
  · rw [if_pos c] at e
    exact Ok.icmp_gt hd ht (fun _ => kt e) (fun q => absurd c q)
  · rw [if_neg c] at e
    exact Ok.icmp_gt hd ht (fun q => absurd q c) (fun _ => kf e)
theorem X.icmp_le {x y : Int32} {off : Int} {tgt : Nat} {z1 z2 : Option β} (hd : decode (m_cc M) pc = .ok (.if_icmp .le off, 3)) (ht : (pc : Int) + off = (tgt : Int)) (e : (if x ≤ y then z1 else z2) = some R) (kt : z1 = some R → Ok G M d post tgt ls stk h nx kc ks) (kf : z2 = some R → Ok G M d post (pc + 3) ls stk h nx kc ks) : Ok G M d post pc ls (.int y :: .int x :: stk) h nx kc ks := by
  by_cases c : x ≤ y
  · rw [if_pos c] at e
    exact Ok.icmp_le hd ht (fun _ => kt e) (fun q => absurd c q)
  · rw [if_neg c] at e
    exact Ok.icmp_le hd ht (fun q => absurd q c) (fun _ => kf e)
theorem X.if_eq {x : Int32} {off : Int} {tgt : Nat} {z1 z2 : Option β} (hd : decode (m_cc M) pc = .ok (.ifCond .eq off, 3)) (ht : (pc : Int) + off = (tgt : Int)) (e : (if x = 0 then z1 else z2) = some R) (kt : z1 = some R → Ok G M d post tgt ls stk h nx kc ks) (kf : z2 = some R → Ok G M d post (pc + 3) ls stk h nx kc ks) : Ok G M d post pc ls (.int x :: stk) h nx kc ks := by
  by_cases c : x = 0
  · rw [if_pos c] at e
    exact Ok.if_eq hd ht (fun _ => kt e) (fun q => absurd c q)
  · rw [if_neg c] at e
    exact Ok.if_eq hd ht (fun q => absurd q c) (fun _ => kf e)
theorem X.if_ne {x : Int32} {off : Int} {tgt : Nat} {z1 z2 : Option β} (hd : decode (m_cc M) pc = .ok (.ifCond .ne off, 3)) (ht : (pc : Int) + off = (tgt : Int)) (e : (if x = 0 then z2 else z1) = some R) (kt : z1 = some R → Ok G M d post tgt ls stk h nx kc ks) (kf : z2 = some R → Ok G M d post (pc + 3) ls stk h nx kc ks) : Ok G M d post pc ls (.int x :: stk) h nx kc ks := by
  by_cases c : x = 0
  · rw [if_pos c] at e
    exact Ok.if_ne hd ht (fun q => absurd c q) (fun _ => kf e)
  · rw [if_neg c] at e
    exact Ok.if_ne hd ht (fun _ => kt e) (fun q => absurd q c)
theorem X.if_lt {x : Int32} {off : Int} {tgt : Nat} {z1 z2 : Option β} (hd : decode (m_cc M) pc = .ok (.ifCond .lt off, 3)) (ht : (pc : Int) + off = (tgt : Int)) (e : (if x < 0 then z1 else z2) = some R) (kt : z1 = some R → Ok G M d post tgt ls stk h nx kc ks) (kf : z2 = some R → Ok G M d post (pc + 3) ls stk h nx kc ks) : Ok G M d post pc ls (.int x :: stk) h nx kc ks := by
  by_cases c : x < 0
  · rw [if_pos c] at e
    exact Ok.if_lt hd ht (fun _ => kt e) (fun q => absurd c q)
  · rw [if_neg c] at e
    exact Ok.if_lt hd ht (fun q => absurd q c) (fun _ => kf e)
theorem X.if_ge {x : Int32} {off : Int} {tgt : Nat} {z1 z2 : Option β} (hd : decode (m_cc M) pc = .ok (.ifCond .ge off, 3)) (ht : (pc : Int) + off = (tgt : Int)) (e : (if 0 ≤ x then z1 else z2) = some R) (kt : z1 = some R → Ok G M d post tgt ls stk h nx kc ks) (kf : z2 = some R → Ok G M d post (pc + 3) ls stk h nx kc ks) : Ok G M d post pc ls (.int x :: stk) h nx kc ks := by
  by_cases c : 0 ≤ x
  · rw [if_pos c] at e
    exact Ok.if_ge hd ht (fun _ => kt e) (fun q => absurd c q)
  · rw [if_neg c] at e
    exact Ok.if_ge hd ht (fun q => absurd q c) (fun _ => kf e)
theorem X.if_gt {x : Int32} {off : Int} {tgt : Nat} {z1 z2 : Option β} (hd : decode (m_cc M) pc = .ok (.ifCond .gt off, 3)) (ht : (pc : Int) + off = (tgt : Int)) (e : (if 0 < x then z1 else z2) = some R) (kt : z1 = some R → Ok G M d post tgt ls stk h nx kc ks) (kf : z2 = some R → Ok G M d post (pc + 3) ls stk h nx kc ks) : Ok G M d post pc ls (.int x :: stk) h nx kc ks := by
  by_cases c : 0 < x
  · rw [if_pos c] at e
    exact Ok.if_gt hd ht (fun _ => kt e) (fun q => absurd c q)
  · rw [if_neg c] at e
    exact Ok.if_gt hd ht (fun q => absurd q c) (fun _ => kf e)
theorem X.if_le {x : Int32} {off : Int} {tgt : Nat} {z1 z2 : Option β} (hd : decode (m_cc M) pc = .ok (.ifCond .le off, 3)) (ht : (pc : Int) + off = (tgt : Int)) (e : (if x ≤ 0 then z1 else z2) = some R) (kt : z1 = some R → Ok G M d post tgt ls stk h nx kc ks) (kf : z2 = some R → Ok G M d post (pc + 3) ls stk h nx kc ks) : Ok G M d post pc ls (.int x :: stk) h nx kc ks := by
  by_cases c : x ≤ 0
  · rw [if_pos c] at e
    exact Ok.if_le hd ht (fun _ => kt e) (fun q => absurd c q)
  · rw [if_neg c] at e
    exact Ok.if_le hd ht (fun q => absurd q c) (fun _ => kf e)
theorem X.sw {x v : Int32} {z1 z2 : Option β} (e : (if x = v then z1 else z2) = some R) (kt : x = v → z1 = some R → Ok G M d post pc ls stk h nx kc ks) (kf : x ≠ v → z2 = some R → Ok G M d post pc ls stk h nx kc ks) : Ok G M d post pc ls stk h nx kc ks := by
  by_cases c : x = v
  · rw [if_pos c] at e
    exact kt c e
  · rw [if_neg c] at e
    exact kf c e
theorem X.ifnull {r : Option Nat} {off : Int} {tgt : Nat} {z : Option β} {f : Nat → Option β} (hd : decode (m_cc M) pc = .ok (.ifnull off, 3)) (ht : (pc : Int) + off = (tgt : Int)) (e : qn r z f = some R) (kn : r = none → z = some R → Ok G M d post tgt ls stk h nx kc ks) (ks0 : ∀ a : Nat, r = some a → f a = some R → Ok G M d post (pc + 3) ls stk h nx kc ks) : Ok G M d post pc ls (va_rf r :: stk) h nx kc ks := by
  cases r with
  | none => exact Ok.ifnullN hd ht (kn rfl e)
  | some a => exact Ok.ifnull hd (ks0 a rfl e)
theorem X.ifnonnull {r : Option Nat} {off : Int} {tgt : Nat} {z : Option β} {f : Nat → Option β} (hd : decode (m_cc M) pc = .ok (.ifnonnull off, 3)) (ht : (pc : Int) + off = (tgt : Int)) (e : qn r z f = some R) (kn : r = none → z = some R → Ok G M d post (pc + 3) ls stk h nx kc ks) (ks0 : ∀ a : Nat, r = some a → f a = some R → Ok G M d post tgt ls stk h nx kc ks) : Ok G M d post pc ls (va_rf r :: stk) h nx kc ks := by
  cases r with
  | none => exact Ok.ifnonnullN hd (kn rfl e)
  | some a => exact Ok.ifnonnull hd ht (ks0 a rfl e)
theorem X.rnn {r : Option Nat} {f : Nat → Option β} (e : nn r f = some R) (k : ∀ a : Nat, r = some a → f a = some R → Ok G M d post pc ls stk h nx kc ks) : Ok G M d post pc ls stk h nx kc ks := by
  cases r with
  | none => cases e
  | some a => exact k a rfl e
theorem X.rzk {x : Int32} {z : Option β} (e : zk x z = some R) (k : (x = 0 ∨ x = 1) → z = some R → Ok G M d post pc ls stk h nx kc ks) : Ok G M d post pc ls stk h nx kc ks := by
  unfold zk at e
  split at e
  · rename_i c
    exact k c e
  · cases e
theorem X.rck {a : Nat} {cs : List Nat} {f : Nat → Option β} (e : ck h a cs f = some R) (k : ∀ (c : Nat) (fs : List Value), h a = some (ob c fs) → c ∈ cs → f c = some R → Ok G M d post pc ls stk h nx kc ks) : Ok G M d post pc ls stk h nx kc ks := by
  unfold ck at e
  split at e
  · rename_i q hq
    split at e
    · rename_i c
      exact k q.1 q.2 hq c e
    · cases e
  · cases e
theorem X.rgfI {i a k : Nat} {cs : List Nat} {f : Int32 → Option β} (hl : FL (m_own M) i cs k) (hd : decode (m_cc M) pc = .ok (.getfield i, 3)) (e : gfI h a cs k f = some R) (kk : ∀ x : Int32, f x = some R → Ok G M d post (pc + 3) ls (.int x :: stk) h nx kc ks) : Ok G M d post pc ls (.ref a :: stk) h nx kc ks := by
  unfold gfI at e
  split at e
  · rename_i q hq
    split at e
    · rename_i c
      obtain ⟨Cn, T, N, ref, h1, h2, h3, h4, h5⟩ := hl q.1 c
      split at e
      · rename_i x hx
        exact Ok.getf (ci := q.1) (fs := q.2) hd h1 h2 h3 h4 h5 hq hx (kk x e)
      · cases e
    · cases e
  · cases e
theorem X.rgfJ {i a k : Nat} {cs : List Nat} {f : Int64 → Option β} (hl : FL (m_own M) i cs k) (hd : decode (m_cc M) pc = .ok (.getfield i, 3)) (e : gfJ h a cs k f = some R) (kk : ∀ x : Int64, f x = some R → Ok G M d post (pc + 3) ls (.long x :: stk) h nx kc ks) : Ok G M d post pc ls (.ref a :: stk) h nx kc ks := by
  unfold gfJ at e
  split at e
  · rename_i q hq
    split at e
    · rename_i c
      obtain ⟨Cn, T, N, ref, h1, h2, h3, h4, h5⟩ := hl q.1 c
      split at e
      · rename_i x hx
        exact Ok.getf (ci := q.1) (fs := q.2) hd h1 h2 h3 h4 h5 hq hx (kk x e)
      · cases e
    · cases e
  · cases e
theorem X.rgfR {i a k : Nat} {cs : List Nat} {f : Option Nat → Option β} (hl : FL (m_own M) i cs k) (hd : decode (m_cc M) pc = .ok (.getfield i, 3)) (e : gfR h a cs k f = some R) (kk : ∀ x : Option Nat, f x = some R → Ok G M d post (pc + 3) ls (va_rf x :: stk) h nx kc ks) : Ok G M d post pc ls (.ref a :: stk) h nx kc ks := by
  unfold gfR at e
  split at e
  · rename_i q hq
    split at e
    · rename_i c
      obtain ⟨Cn, T, N, ref, h1, h2, h3, h4, h5⟩ := hl q.1 c
      split at e
      · rename_i x hx
        exact Ok.getf (ci := q.1) (fs := q.2) hd h1 h2 h3 h4 h5 hq hx (kk (some x) e)
      · rename_i hx
        exact Ok.getf (ci := q.1) (fs := q.2) hd h1 h2 h3 h4 h5 hq hx (kk none e)
      · cases e
    · cases e
  · cases e
theorem X.rpfV {i a k : Nat} {cs : List Nat} {v : Value} {ty : FieldType} {f : Hp → Option β} (hl : FP (m_own M) i cs k ty false) (hn : narrow ty v = v) (hfit : fits ty v = true) (hd : decode (m_cc M) pc = .ok (.putfield i, 3)) (e : pfV h a cs k v f = some R) (kk : ∀ h' : Hp, f h' = some R → Ok G M d post (pc + 3) ls stk h' nx kc ks) : Ok G M d post pc ls (v :: .ref a :: stk) h nx kc ks := by
  unfold pfV at e
  split at e
  · rename_i q hq
    split at e
    · rename_i c
      obtain ⟨Cn, T, N, ref, ty0, h1, h2, h3, h4, h5, h6, h7, h8, h9, -⟩ := hl q.1 c.1
      exact Ok.putf (ci := q.1) (fs := q.2) hd h1 h2 ty0 h3 h4 h5 h6 h7 h8 h9 hn hfit c.2 hq (kk _ e)
    · cases e
  · cases e
theorem X.pfF {i a k : Nat} {cs : List Nat} {v : Value} {ty : FieldType} {f : Hp → Option β} (hl : FP (m_own M) i cs k ty true) (hi : (m_y M).name = "<init>") (hn : narrow ty v = v) (hfit : fits ty v = true) (hd : decode (m_cc M) pc = .ok (.putfield i, 3)) (e : pfV h a cs k v f = some R) (kk : ∀ h' : Hp, f h' = some R → Ok G M d post (pc + 3) ls stk h' nx kc ks) : Ok G M d post pc ls (v :: .ref a :: stk) h nx kc ks := by
  unfold pfV at e
  split at e
  · rename_i q hq
    split at e
    · rename_i c
      obtain ⟨Cn, T, N, ref, ty0, h1, h2, h3, h4, h5, h6, h7, h8, h9, h10⟩ := hl q.1 c.1
      exact Ok.putF (ci := q.1) (fs := q.2) hd h1 h2 ty0 h3 h4 h5 h6 h7 h8 hi (h10 rfl) h9 hn hfit c.2 hq (kk _ e)
    · cases e
  · cases e
theorem nar_q {ty : FieldType} (ht : (∃ n, ty = .object n) ∨ ∃ t, ty = .array t) (r : Option Nat) : narrow ty (va_rf r) = va_rf r := by
  rcases ht with ⟨n, rfl⟩ | ⟨n, rfl⟩ <;> cases r <;> rfl
theorem fits_q {ty : FieldType} (ht : (∃ n, ty = .object n) ∨ ∃ t, ty = .array t) (r : Option Nat) : fits ty (va_rf r) = true := by
  rcases ht with ⟨n, rfl⟩ | ⟨n, rfl⟩ <;> cases r <;> rfl
theorem X.iald {i : Int32} {a : Nat} {f : Int32 → Option β} (hd : decode (m_cc M) pc = .ok (.iaload, 1)) (e : alI (g_c G 0) h a i f = some R) (kk : ∀ x : Int32, f x = some R → Ok G M d post (pc + 1) ls (.int x :: stk) h nx kc ks) : Ok G M d post pc ls (.int i :: .ref a :: stk) h nx kc ks := by
  unfold alI at e
  split at e
  · rename_i cA n g hq
    split at e
    · rename_i c
      obtain ⟨rfl, hi⟩ := c
      exact Ok.iald hd hq hi (kk _ e)
    · cases e
  · cases e
theorem X.bald {i : Int32} {a : Nat} {f : Int32 → Option β} (hd : decode (m_cc M) pc = .ok (.baload, 1)) (e : alI (g_c G 2) h a i f = some R) (kk : ∀ x : Int32, f x = some R → Ok G M d post (pc + 1) ls (.int x :: stk) h nx kc ks) : Ok G M d post pc ls (.int i :: .ref a :: stk) h nx kc ks := by
  unfold alI at e
  split at e
  · rename_i cA n g hq
    split at e
    · rename_i c
      obtain ⟨rfl, hi⟩ := c
      exact Ok.bald hd hq hi (kk _ e)
    · cases e
  · cases e
theorem X.zald {i : Int32} {a : Nat} {f : Int32 → Option β} (hd : decode (m_cc M) pc = .ok (.baload, 1)) (e : alI (g_c G 3) h a i f = some R) (kk : ∀ x : Int32, f x = some R → Ok G M d post (pc + 1) ls (.int x :: stk) h nx kc ks) : Ok G M d post pc ls (.int i :: .ref a :: stk) h nx kc ks := by
  unfold alI at e
  split at e
  · rename_i cA n g hq
    split at e
    · rename_i c
      obtain ⟨rfl, hi⟩ := c
      exact Ok.zald hd hq hi (kk _ e)
    · cases e
  · cases e
theorem X.lald {i : Int32} {a : Nat} {f : Int64 → Option β} (hd : decode (m_cc M) pc = .ok (.laload, 1)) (e : alJ (g_c G 1) h a i f = some R) (kk : ∀ x : Int64, f x = some R → Ok G M d post (pc + 1) ls (.long x :: stk) h nx kc ks) : Ok G M d post pc ls (.int i :: .ref a :: stk) h nx kc ks := by
  unfold alJ at e
  split at e
  · rename_i cA n g hq
    split at e
    · rename_i c
      obtain ⟨rfl, hi⟩ := c
      exact Ok.lald hd hq hi (kk _ e)
    · cases e
  · cases e
theorem X.sald {i : Int32} {a : Nat} {f : Option Nat → Option β} (hd : decode (m_cc M) pc = .ok (.aaload, 1)) (e : alR (g_c G 4) h a i f = some R) (kk : ∀ x : Option Nat, f x = some R → Ok G M d post (pc + 1) ls (va_rf x :: stk) h nx kc ks) : Ok G M d post pc ls (.int i :: .ref a :: stk) h nx kc ks := by
  unfold alR at e
  split at e
  · rename_i cA n g hq
    split at e
    · rename_i c
      obtain ⟨rfl, hi⟩ := c
      exact Ok.sald hd hq hi (kk _ e)
    · cases e
  · cases e
theorem X.pald {i : Int32} {a : Nat} {f : Option Nat → Option β} (hd : decode (m_cc M) pc = .ok (.aaload, 1)) (e : alR (g_c G 5) h a i f = some R) (kk : ∀ x : Option Nat, f x = some R → Ok G M d post (pc + 1) ls (va_rf x :: stk) h nx kc ks) : Ok G M d post pc ls (.int i :: .ref a :: stk) h nx kc ks := by
  unfold alR at e
  split at e
  · rename_i cA n g hq
    split at e
    · rename_i c
      obtain ⟨rfl, hi⟩ := c
      exact Ok.pald hd hq hi (kk _ e)
    · cases e
  · cases e
theorem X.gald {i : Int32} {a : Nat} {f : Option Nat → Option β} (hd : decode (m_cc M) pc = .ok (.aaload, 1)) (e : alR (g_c G 6) h a i f = some R) (kk : ∀ x : Option Nat, f x = some R → Ok G M d post (pc + 1) ls (va_rf x :: stk) h nx kc ks) : Ok G M d post pc ls (.int i :: .ref a :: stk) h nx kc ks := by
  unfold alR at e
  split at e
  · rename_i cA n g hq
    split at e
    · rename_i c
      obtain ⟨rfl, hi⟩ := c
      exact Ok.gald hd hq hi (kk _ e)
    · cases e
  · cases e
theorem X.iast {i : Int32} {x : Int32} {a : Nat} {f : Hp → Option β} (hd : decode (m_cc M) pc = .ok (.iastore, 1)) (e : asI (g_c G 0) id h a i x f = some R) (kk : ∀ h' : Hp, f h' = some R → Ok G M d post (pc + 1) ls stk h' nx kc ks) : Ok G M d post pc ls (.int x :: .int i :: .ref a :: stk) h nx kc ks := by
  unfold asI at e
  split at e
  · rename_i cA n g hq
    split at e
    · rename_i c
      obtain ⟨rfl, hi⟩ := c
      exact Ok.iast hd hq hi (kk _ e)
    · cases e
  · cases e
theorem X.bast {i : Int32} {x : Int32} {a : Nat} {f : Hp → Option β} (hd : decode (m_cc M) pc = .ok (.bastore, 1)) (e : asI (g_c G 2) (vp_nar .byte) h a i x f = some R) (kk : ∀ h' : Hp, f h' = some R → Ok G M d post (pc + 1) ls stk h' nx kc ks) : Ok G M d post pc ls (.int x :: .int i :: .ref a :: stk) h nx kc ks := by
  unfold asI at e
  split at e
  · rename_i cA n g hq
    split at e
    · rename_i c
      obtain ⟨rfl, hi⟩ := c
      exact Ok.bast hd hq hi (kk _ e)
    · cases e
  · cases e
theorem X.zast {i : Int32} {x : Int32} {a : Nat} {f : Hp → Option β} (hd : decode (m_cc M) pc = .ok (.bastore, 1)) (e : asI (g_c G 3) (vp_nar .boolean) h a i x f = some R) (kk : ∀ h' : Hp, f h' = some R → Ok G M d post (pc + 1) ls stk h' nx kc ks) : Ok G M d post pc ls (.int x :: .int i :: .ref a :: stk) h nx kc ks := by
  unfold asI at e
  split at e
  · rename_i cA n g hq
    split at e
    · rename_i c
      obtain ⟨rfl, hi⟩ := c
      exact Ok.zast hd hq hi (kk _ e)
    · cases e
  · cases e
theorem X.last {i : Int32} {x : Int64} {a : Nat} {f : Hp → Option β} (hd : decode (m_cc M) pc = .ok (.lastore, 1)) (e : asJ (g_c G 1) h a i x f = some R) (kk : ∀ h' : Hp, f h' = some R → Ok G M d post (pc + 1) ls stk h' nx kc ks) : Ok G M d post pc ls (.long x :: .int i :: .ref a :: stk) h nx kc ks := by
  unfold asJ at e
  split at e
  · rename_i cA n g hq
    split at e
    · rename_i c
      obtain ⟨rfl, hi⟩ := c
      exact Ok.last hd hq hi (kk _ e)
    · cases e
  · cases e
theorem X.sast {i : Int32} {r : Option Nat} {a : Nat} {cs : List Nat} {f : Hp → Option β} (hd : decode (m_cc M) pc = .ok (.aastore, 1)) (hc : ∀ c ∈ cs, ∃ q : vw_C, vwCl[c]? = some q ∧ (q.1 = "GateWatch$Sort" ∨ (q.1, "GateWatch$Sort") ∈ csL)) (e : asR (g_c G 4) cs h a i r f = some R) (kk : ∀ h' : Hp, f h' = some R → Ok G M d post (pc + 1) ls stk h' nx kc ks) : Ok G M d post pc ls (va_rf r :: .int i :: .ref a :: stk) h nx kc ks := by
  unfold asR at e
  split at e
  · rename_i cA n g hq
    split at e
    · rename_i c
      obtain ⟨rfl, hi, hr⟩ := c
      cases r with
      | none => exact Ok.sastN hd hq hi (kk _ e)
      | some v =>
        unfold okR at hr
        simp only at hr
        split at hr
        · rename_i q hv
          obtain ⟨r9, h1, h2⟩ := hc q.1 (of_decide_eq_true hr)
          exact Ok.sast hd hq hi (ci := q.1) (vs := q.2) hv h1 h2 (kk _ e)
        · cases hr
    · cases e
  · cases e
theorem X.past {i : Int32} {r : Option Nat} {a : Nat} {cs : List Nat} {f : Hp → Option β} (hd : decode (m_cc M) pc = .ok (.aastore, 1)) (hc : ∀ c ∈ cs, ∃ q : vw_C, vwCl[c]? = some q ∧ (q.1 = "GateWatch$Plan" ∨ (q.1, "GateWatch$Plan") ∈ csL)) (e : asR (g_c G 5) cs h a i r f = some R) (kk : ∀ h' : Hp, f h' = some R → Ok G M d post (pc + 1) ls stk h' nx kc ks) : Ok G M d post pc ls (va_rf r :: .int i :: .ref a :: stk) h nx kc ks := by
  unfold asR at e
  split at e
  · rename_i cA n g hq
    split at e
    · rename_i c
      obtain ⟨rfl, hi, hr⟩ := c
      cases r with
      | none => exact Ok.pastN hd hq hi (kk _ e)
      | some v =>
        unfold okR at hr
        simp only at hr
        split at hr
        · rename_i q hv
          obtain ⟨r9, h1, h2⟩ := hc q.1 (of_decide_eq_true hr)
          exact Ok.past hd hq hi (ci := q.1) (vs := q.2) hv h1 h2 (kk _ e)
        · cases hr
    · cases e
  · cases e
theorem X.rlnI {a : Nat} {f : Int32 → Option β} (hd : decode (m_cc M) pc = .ok (.arraylength, 1)) (e : lnI (g_c G 0) h a f = some R) (kk : ∀ x : Int32, f x = some R → Ok G M d post (pc + 1) ls (.int x :: stk) h nx kc ks) : Ok G M d post pc ls (.ref a :: stk) h nx kc ks := by
  unfold lnI at e
  split at e
  · rename_i cA n g hq
    split at e
    · rename_i c
      subst c
      exact Ok.alenI hd hq (kk _ e)
    · cases e
  · cases e
theorem X.lnB {a : Nat} {f : Int32 → Option β} (hd : decode (m_cc M) pc = .ok (.arraylength, 1)) (e : lnI (g_c G 2) h a f = some R) (kk : ∀ x : Int32, f x = some R → Ok G M d post (pc + 1) ls (.int x :: stk) h nx kc ks) : Ok G M d post pc ls (.ref a :: stk) h nx kc ks := by
  unfold lnI at e
  split at e
  · rename_i cA n g hq
    split at e
    · rename_i c
      subst c
      exact Ok.alenB hd hq (kk _ e)
    · cases e
  · cases e
theorem X.rlnJ {a : Nat} {f : Int32 → Option β} (hd : decode (m_cc M) pc = .ok (.arraylength, 1)) (e : lnJ (g_c G 1) h a f = some R) (kk : ∀ x : Int32, f x = some R → Ok G M d post (pc + 1) ls (.int x :: stk) h nx kc ks) : Ok G M d post pc ls (.ref a :: stk) h nx kc ks := by
  unfold lnJ at e
  split at e
  · rename_i cA n g hq
    split at e
    · rename_i c
      subst c
      exact Ok.alenJ hd hq (kk _ e)
    · cases e
  · cases e
theorem X.rnwI {n : Int32} {lim : Nat} {f : Nat → Hp → Nat → Option β} (hd : decode (m_cc M) pc = .ok (.newarray .int, 2)) (hw : Cond.arrayClass .int ∈ tbG) (hb : lim * componentBytes .int ≤ 536870912) (h1 : kc + 1 ≤ m_mc M) (h2 : ks + lim ≤ m_ms M) (e : nwI G (g_c G 0) h nx n lim f = some R) (kk : ∀ (a : Nat) (h' : Hp) (nx' : Nat), f a h' nx' = some R → Ok G M d post (pc + 2) ls (.ref a :: stk) h' nx' (kc + 1) (ks + lim)) : Ok G M d post pc ls (.int n :: stk) h nx kc ks := by
  unfold nwI at e
  split at e
  · rename_i c
    exact Ok.newaI hd hw c.1 rfl (Nat.le_trans (Nat.mul_le_mul_right _ c.2) hb) h1 (Nat.le_trans (Nat.add_le_add_left c.2 _) h2) (Ok.mono (kk _ _ _ e) (Nat.le_refl _) (Nat.add_le_add_left c.2 _))
  · cases e
theorem X.nwB {n : Int32} {lim : Nat} {f : Nat → Hp → Nat → Option β} (hd : decode (m_cc M) pc = .ok (.newarray .byte, 2)) (hw : Cond.arrayClass .byte ∈ tbG) (hb : lim * componentBytes .byte ≤ 536870912) (h1 : kc + 1 ≤ m_mc M) (h2 : ks + lim ≤ m_ms M) (e : nwI G (g_c G 2) h nx n lim f = some R) (kk : ∀ (a : Nat) (h' : Hp) (nx' : Nat), f a h' nx' = some R → Ok G M d post (pc + 2) ls (.ref a :: stk) h' nx' (kc + 1) (ks + lim)) : Ok G M d post pc ls (.int n :: stk) h nx kc ks := by
  unfold nwI at e
  split at e
  · rename_i c
    exact Ok.newaB hd hw c.1 rfl (Nat.le_trans (Nat.mul_le_mul_right _ c.2) hb) h1 (Nat.le_trans (Nat.add_le_add_left c.2 _) h2) (Ok.mono (kk _ _ _ e) (Nat.le_refl _) (Nat.add_le_add_left c.2 _))
  · cases e
theorem X.nwZ {n : Int32} {lim : Nat} {f : Nat → Hp → Nat → Option β} (hd : decode (m_cc M) pc = .ok (.newarray .boolean, 2)) (hw : Cond.arrayClass .boolean ∈ tbG) (hb : lim * componentBytes .boolean ≤ 536870912) (h1 : kc + 1 ≤ m_mc M) (h2 : ks + lim ≤ m_ms M) (e : nwI G (g_c G 3) h nx n lim f = some R) (kk : ∀ (a : Nat) (h' : Hp) (nx' : Nat), f a h' nx' = some R → Ok G M d post (pc + 2) ls (.ref a :: stk) h' nx' (kc + 1) (ks + lim)) : Ok G M d post pc ls (.int n :: stk) h nx kc ks := by
  unfold nwI at e
  split at e
  · rename_i c
    exact Ok.newaZ hd hw c.1 rfl (Nat.le_trans (Nat.mul_le_mul_right _ c.2) hb) h1 (Nat.le_trans (Nat.add_le_add_left c.2 _) h2) (Ok.mono (kk _ _ _ e) (Nat.le_refl _) (Nat.add_le_add_left c.2 _))
  · cases e
theorem X.rnwJ {n : Int32} {lim : Nat} {f : Nat → Hp → Nat → Option β} (hd : decode (m_cc M) pc = .ok (.newarray .long, 2)) (hw : Cond.arrayClass .long ∈ tbG) (hb : lim * componentBytes .long ≤ 536870912) (h1 : kc + 1 ≤ m_mc M) (h2 : ks + lim ≤ m_ms M) (e : nwJ G (g_c G 1) h nx n lim f = some R) (kk : ∀ (a : Nat) (h' : Hp) (nx' : Nat), f a h' nx' = some R → Ok G M d post (pc + 2) ls (.ref a :: stk) h' nx' (kc + 1) (ks + lim)) : Ok G M d post pc ls (.int n :: stk) h nx kc ks := by
  unfold nwJ at e
  split at e
  · rename_i c
    exact Ok.newaJ hd hw c.1 rfl (Nat.le_trans (Nat.mul_le_mul_right _ c.2) hb) h1 (Nat.le_trans (Nat.add_le_add_left c.2 _) h2) (Ok.mono (kk _ _ _ e) (Nat.le_refl _) (Nat.add_le_add_left c.2 _))
  · cases e
theorem X.nwS {n : Int32} {i lim : Nat} {f : Nat → Hp → Nat → Option β} (hd : decode (m_cc M) pc = .ok (.anewarray i, 3)) (hcl : Cond.classLink (m_own M) i "GateWatch$Sort" ∈ tbG) (hb : lim * 4 ≤ 536870912) (h1 : kc + 1 ≤ m_mc M) (h2 : ks + lim ≤ m_ms M) (e : nwR G (g_c G 4) h nx n lim f = some R) (kk : ∀ (a : Nat) (h' : Hp) (nx' : Nat), f a h' nx' = some R → Ok G M d post (pc + 3) ls (.ref a :: stk) h' nx' (kc + 1) (ks + lim)) : Ok G M d post pc ls (.int n :: stk) h nx kc ks := by
  unfold nwR at e
  split at e
  · rename_i c
    exact Ok.anewS hd hcl c.1 rfl (Nat.le_trans (Nat.mul_le_mul_right _ c.2) hb) h1 (Nat.le_trans (Nat.add_le_add_left c.2 _) h2) (Ok.mono (kk _ _ _ e) (Nat.le_refl _) (Nat.add_le_add_left c.2 _))
  · cases e
theorem X.nwP {n : Int32} {i lim : Nat} {f : Nat → Hp → Nat → Option β} (hd : decode (m_cc M) pc = .ok (.anewarray i, 3)) (hcl : Cond.classLink (m_own M) i "GateWatch$Plan" ∈ tbG) (hb : lim * 4 ≤ 536870912) (h1 : kc + 1 ≤ m_mc M) (h2 : ks + lim ≤ m_ms M) (e : nwR G (g_c G 5) h nx n lim f = some R) (kk : ∀ (a : Nat) (h' : Hp) (nx' : Nat), f a h' nx' = some R → Ok G M d post (pc + 3) ls (.ref a :: stk) h' nx' (kc + 1) (ks + lim)) : Ok G M d post pc ls (.int n :: stk) h nx kc ks := by
  unfold nwR at e
  split at e
  · rename_i c
    exact Ok.anewP hd hcl c.1 rfl (Nat.le_trans (Nat.mul_le_mul_right _ c.2) hb) h1 (Nat.le_trans (Nat.add_le_add_left c.2 _) h2) (Ok.mono (kk _ _ _ e) (Nat.le_refl _) (Nat.add_le_add_left c.2 _))
  · cases e
theorem X.rnwG {N K i : Nat} {n k : Int32} {f : Nat → Hp → Nat → Option β} (hd : decode (m_cc M) pc = .ok (.multianewarray i 2, 4)) (hcl : Cond.classLink (m_own M) i "[[I" ∈ tbG) (harr : Cond.arrayClass .int ∈ tbG) (hn : ¬ n < 0 ∧ n.toNatClampNeg = N ∧ N * 4 ≤ 536870912) (hk : ¬ k < 0 ∧ k.toNatClampNeg = K ∧ K * 4 ≤ 536870912) (h1 : kc + (1 + N) ≤ m_mc M) (h2 : ks + (N + N * K) ≤ m_ms M) (e : nwG G h nx N K f = some R) (kk : ∀ (a : Nat) (h' : Hp) (nx' : Nat), f a h' nx' = some R → Ok G M d post (pc + 4) ls (.ref a :: stk) h' nx' (kc + 1 + N) (ks + N + N * K)) : Ok G M d post pc ls (.int k :: .int n :: stk) h nx kc ks := Ok.mnaI hd hcl harr hn.1 hk.1 hn.2.1 hk.2.1 hn.2.2 hk.2.2 h1 h2 (kk _ _ _ e)
theorem X.rnwO {Cn : String} {T : u_T} {N ci i : Nat} {fs : List Value} {f : Nat → Hp → Nat → Option β} (hd : decode (m_cc M) pc = .ok (.new i, 3)) (hc : vwCl[ci]? = some (Cn, T, N)) (hin : ∀ w ∈ u_ws Cn T N, w ∈ tbG) (ty0 : Nat → FieldType) (hty : ∀ k, k < N → parseFieldDescriptor (T k).2.2.1 = some (ty0 k)) (hcl : Cond.classLink (m_own M) i Cn ∈ tbG) (hins : Cond.instantiable Cn N ∈ tbG) (hini : Cond.initialized Cn ∈ tbG) (hfs : ∀ j, j < N → defaultValue (ty0 j) = vp_V fs j) (h1 : kc + 1 ≤ m_mc M) (h2 : ks + N ≤ m_ms M) (e : nwO G h nx ci fs f = some R) (k : ∀ (a : Nat) (h' : Hp) (nx' : Nat), f a h' nx' = some R → Ok G M d post (pc + 3) ls (.ref a :: stk) h' nx' (kc + 1) (ks + N)) : Ok G M d post pc ls stk h nx kc ks := Ok.new hd hc hin ty0 hty hcl hins hini hfs h1 h2 (k _ _ _ e)
theorem X.racI {i a0 a : Nat} {sp dp n : Int32} {f : Hp → Option β} (hd : decode (m_cc M) pc = .ok (.invokestatic i, 3)) (hlink : Cond.methodLink (m_own M) i arraycopyName ∈ tbG) (hst : Cond.static arraycopyName ∈ tbG) (hna : Cond.native arraycopyName ∈ tbG) (hini : Cond.initialized "java/lang/System" ∈ tbG) (hr : (stk.map fun v => v.category).sum ≤ 8) (e : acI (g_c G 0) .int h a0 sp a dp n f = some R) (kk : ∀ h' : Hp, f h' = some R → Ok G M d post (pc + 3) ls stk h' nx kc ks) : Ok G M d post pc ls (.int n :: .int dp :: .ref a :: .int sp :: .ref a0 :: stk) h nx kc ks := by
  unfold acI at e
  split at e
  · rename_i c0 n0 g0 c1 n1 g1 hq0 hq1
    split at e
    · rename_i c
      obtain ⟨⟨rfl, rfl, h1, h2, h3⟩, h4, h5, h6⟩ := c
      exact Ok.acopyI hd hlink hst hna hini hq0 hq1 h1 h2 h3 h4 h5 (fun j hj => List.all_eq_true.mp h6 j (List.mem_range.mpr hj)) hr (kk _ e)
    · cases e
  · cases e
theorem X.acB {i a0 a : Nat} {sp dp n : Int32} {f : Hp → Option β} (hd : decode (m_cc M) pc = .ok (.invokestatic i, 3)) (hlink : Cond.methodLink (m_own M) i arraycopyName ∈ tbG) (hst : Cond.static arraycopyName ∈ tbG) (hna : Cond.native arraycopyName ∈ tbG) (hini : Cond.initialized "java/lang/System" ∈ tbG) (hr : (stk.map fun v => v.category).sum ≤ 8) (e : acI (g_c G 2) .byte h a0 sp a dp n f = some R) (kk : ∀ h' : Hp, f h' = some R → Ok G M d post (pc + 3) ls stk h' nx kc ks) : Ok G M d post pc ls (.int n :: .int dp :: .ref a :: .int sp :: .ref a0 :: stk) h nx kc ks := by
  unfold acI at e
  split at e
  · rename_i c0 n0 g0 c1 n1 g1 hq0 hq1
    split at e
    · rename_i c
      obtain ⟨⟨rfl, rfl, h1, h2, h3⟩, h4, h5, h6⟩ := c
      exact Ok.acopyB hd hlink hst hna hini hq0 hq1 h1 h2 h3 h4 h5 (fun j hj => List.all_eq_true.mp h6 j (List.mem_range.mpr hj)) hr (kk _ e)
    · cases e
  · cases e
theorem X.rclB {i a lim j0 : Nat} {f : Nat → Hp → Nat → Option β} (hd : decode (m_cc M) pc = .ok (.invokevirtual i, 3)) (hlink : Cond.methodLink (m_own M) i ⟨"[B", "clone", "()Ljava/lang/Object;"⟩ ∈ tbG) (hsame : Cond.sameMethod "[B" "java/lang/Object" "clone" "()Ljava/lang/Object;" ∈ tbG) (hna : Cond.native ⟨"java/lang/Object", "clone", "()Ljava/lang/Object;"⟩ ∈ tbG) (hin : Cond.instanceMethod ⟨"java/lang/Object", "clone", "()Ljava/lang/Object;"⟩ ∈ tbG) (hsel : Cond.selects "[B" ⟨"[B", "clone", "()Ljava/lang/Object;"⟩ ⟨"java/lang/Object", "clone", "()Ljava/lang/Object;"⟩ ∈ tbG) (hd2 : decode (m_cc M) (pc + 3) = .ok (.checkcast j0, 3)) (hcl : Cond.classLink (m_own M) j0 "[B" ∈ tbG) (hr : (stk.map fun v => v.category).sum ≤ 8) (h1 : kc + 1 ≤ m_mc M) (h2 : ks + lim ≤ m_ms M) (e : clB G h nx a lim f = some R) (kk : ∀ (b : Nat) (h' : Hp) (nx' : Nat), f b h' nx' = some R → Ok G M d post (pc + 6) ls (.ref b :: stk) h' nx' (kc + 1) (ks + lim)) : Ok G M d post pc ls (.ref a :: stk) h nx kc ks := by
  unfold clB at e
  split at e
  · rename_i cA n g hq
    split at e
    · rename_i c
      obtain ⟨rfl, hl, hf⟩ := c
      exact Ok.cloneB hd hlink hsame hna hin hsel hq (fun j hj => List.all_eq_true.mp hf j (List.mem_range.mpr hj)) hr h1 (Nat.le_trans (Nat.add_le_add_left hl _) h2) (Ok.castB hd2 hcl (hset_same (e := aB G n g)) (Ok.mono (kk _ _ _ e) (Nat.le_refl _) (Nat.add_le_add_left hl _)))
    · cases e
  · cases e
theorem X.rinC {i a : Nat} {all ys : List Nat} {f : Int32 → Option β} (hd : decode (m_cc M) pc = .ok (.instanceof i, 3)) (hI : FI (m_own M) i all ys) (e : inC h a all ys f = some R) (kk : ∀ x : Int32, f x = some R → Ok G M d post (pc + 3) ls (.int x :: stk) h nx kc ks) : Ok G M d post pc ls (.ref a :: stk) h nx kc ks := by
  unfold inC at e
  obtain ⟨nm, hcl, hI⟩ := hI
  split at e
  · rename_i q hq
    split at e
    · rename_i c
      obtain ⟨r, h1, h2⟩ := hI q.1 c
      rcases h2 with ⟨hy, h3⟩ | ⟨hy, h3⟩
      · rw [if_pos hy] at e
        rcases h3 with h3 | h3
        · exact Ok.instE (ci := q.1) (fs := q.2) hd (by rw [h3]; exact hcl) h1 hq (kk 1 e)
        · exact Ok.instY (ci := q.1) (fs := q.2) hd hcl h1 hq h3 (kk 1 e)
      · rw [if_neg hy] at e
        exact Ok.instNo (ci := q.1) (fs := q.2) hd hcl h1 hq h3 (kk 0 e)
    · cases e
  · cases e
theorem X.sld {i : Int32} {f : Int32 → Option β} (hd : decode (m_cc M) pc = .ok (.iaload, 1)) (e : slI G i f = some R) (kk : ∀ x : Int32, f x = some R → Ok G M d post (pc + 1) ls (.int x :: stk) h nx kc ks) : Ok G M d post pc ls (.int i :: .ref (g_b G) :: stk) h nx kc ks := by
  unfold slI at e
  split at e
  · rename_i c
    exact Ok.sld hd c (kk _ e)
  · cases e
theorem X.iret {v v' : Int32} {h' : Hp} {nx' : Nat} (hd : decode (m_cc M) pc = .ok (.ireturn, 1)) (hr : m_rt M = some .int) (h1 : kc ≤ m_mc M) (h2 : ks ≤ m_ms M) (e : some (v, h, nx) = some (v', h', nx')) : Ok G M d (Same (some (.int v')) h' nx') pc ls [.int v] h nx kc ks := by
  cases e
  exact Ok.iret hd hr h1 h2 ⟨rfl, rfl, rfl⟩
theorem X.zret {v v' : Int32} {h' : Hp} {nx' : Nat} (hd : decode (m_cc M) pc = .ok (.ireturn, 1)) (hr : m_rt M = some .boolean) (h1 : kc ≤ m_mc M) (h2 : ks ≤ m_ms M) (e : zk v (some (v, h, nx)) = some (v', h', nx')) : Ok G M d (Same (some (.int v')) h' nx') pc ls [.int v] h nx kc ks := by
  unfold zk at e
  split at e
  · rename_i c
    cases e
    exact Ok.zret hd hr (by rcases c with rfl | rfl <;> rfl) h1 h2 ⟨rfl, rfl, rfl⟩
  · cases e
theorem X.lret {v v' : Int64} {h' : Hp} {nx' : Nat} (hd : decode (m_cc M) pc = .ok (.lreturn, 1)) (hr : m_rt M = some .long) (h1 : kc ≤ m_mc M) (h2 : ks ≤ m_ms M) (e : some (v, h, nx) = some (v', h', nx')) : Ok G M d (Same (some (.long v')) h' nx') pc ls [.long v] h nx kc ks := by
  cases e
  exact Ok.lret hd hr h1 h2 ⟨rfl, rfl, rfl⟩
theorem X.vret {v' : Unit} {h' : Hp} {nx' : Nat} (hd : decode (m_cc M) pc = .ok (.return_, 1)) (hr : m_rt M = none) (h1 : kc ≤ m_mc M) (h2 : ks ≤ m_ms M) (e : some ((), h, nx) = some (v', h', nx')) : Ok G M d (Same none h' nx') pc ls [] h nx kc ks := by
  cases e
  exact Ok.vret hd hr h1 h2 ⟨rfl, rfl, rfl⟩
theorem X.aret {rt : FieldType} {v v' : Option Nat} {h' : Hp} {nx' : Nat} (hd : decode (m_cc M) pc = .ok (.areturn, 1)) (hr : m_rt M = some rt) (hrt : (∃ n, rt = .object n) ∨ ∃ t, rt = .array t) (h1 : kc ≤ m_mc M) (h2 : ks ≤ m_ms M) (e : some (v, h, nx) = some (v', h', nx')) : Ok G M d (Same (some (va_rf v')) h' nx') pc ls [va_rf v] h nx kc ks := by
  cases e
  exact Ok.aret hd hr hrt (by cases v; exact Or.inl rfl; exact Or.inr ⟨_, rfl⟩) h1 h2 ⟨rfl, rfl, rfl⟩
theorem X.sret {rt : FieldType} {v v' : Nat} {h' : Hp} {nx' : Nat} (hd : decode (m_cc M) pc = .ok (.areturn, 1)) (hr : m_rt M = some rt) (hrt : (∃ n, rt = .object n) ∨ ∃ t, rt = .array t) (h1 : kc ≤ m_mc M) (h2 : ks ≤ m_ms M) (e : some (v, h, nx) = some (v', h', nx')) : Ok G M d (Same (some (.ref (g_sK G v'))) h' nx') pc ls [.ref (g_sK G v)] h nx kc ks := by
  cases e
  exact Ok.aret hd hr hrt (Or.inr ⟨_, rfl⟩) h1 h2 ⟨rfl, rfl, rfl⟩
theorem X.callS {My : Mt} {i n kc' ks' : Nat} {As rest : List Value} {r : Rz α} {T : α → Option Value} {stk' : α → List Value} {f : α → Hp → Nat → Option β} (hd : decode (m_cc M) pc = .ok (.invokestatic i, 3)) (e : cl r f = some R) (hC : ∀ (v : α) (h' : Hp) (nx' : Nat), r = some (v, h', nx') → Ct G My d (Same (T v) h' nx') As h nx) (hcode : Cond.code (m_y My) (m_cc My) (m_nL My) (m_rt My) ∈ tbG) (hini : Cond.initialized (m_y My).cls ∈ tbG) (hst : Cond.static (m_y My) ∈ tbG) (hlink : Cond.methodLink (m_own M) i (m_y My) ∈ tbG) (hy : (m_y My).cls ≠ "java/lang/invoke/MethodHandle" ∧ (m_y My).cls ≠ "java/lang/invoke/VarHandle") (hlen : (parseMethodDescriptor (m_y My).desc).map (fun d => d.parameters.length) = some n) (hloc : m_nL My ≤ 29) (hn : As.length = n) (hstk : stk = As.reverse ++ rest) (hr : (rest.map fun v => v.category).sum ≤ 8) (h1 : kc + m_mc My ≤ m_mc M) (h2 : ks + m_ms My ≤ m_ms M) (hkc : kc + m_mc My = kc') (hks : ks + m_ms My = ks') (hs : ∀ v, (T v).toList ++ rest = stk' v) (k : ∀ (v : α) (h' : Hp) (nx' : Nat), f v h' nx' = some R → Ok G M (d + 1) post (pc + 3) ls (stk' v) h' nx' kc' ks') : Ok G M (d + 1) post pc ls stk h nx kc ks := by
  unfold cl at e
  split at e
  · rename_i q
    obtain ⟨v, h', nx'⟩ := q
    refine Ok.callS hd (hC v h' nx' rfl) hcode hini hst hlink hy hlen hloc hn hstk hr h1 h2 (fun v0 h0 nx0 q => ?_)
    obtain ⟨rfl, rfl, rfl⟩ := q
    subst hkc
    subst hks
    rw [hs]
    exact k v h0 nx0 e
  · cases e
theorem X.callSN {My : Mt} {i n kc' ks' : Nat} {host : String} {As rest : List Value} {r : Rz α} {T : α → Option Value} {stk' : α → List Value} {f : α → Hp → Nat → Option β} (hd : decode (m_cc M) pc = .ok (.invokestatic i, 3)) (e : cl r f = some R) (hC : ∀ (v : α) (h' : Hp) (nx' : Nat), r = some (v, h', nx') → Ct G My d (Same (T v) h' nx') As h nx) (hcode : Cond.code (m_y My) (m_cc My) (m_nL My) (m_rt My) ∈ tbG) (hini : Cond.initialized (m_y My).cls ∈ tbG) (hst : Cond.static (m_y My) ∈ tbG) (hlink : (m_own M, i, m_y My, host) ∈ nsL) (hy : (m_y My).cls ≠ "java/lang/invoke/MethodHandle" ∧ (m_y My).cls ≠ "java/lang/invoke/VarHandle") (hlen : (parseMethodDescriptor (m_y My).desc).map (fun d => d.parameters.length) = some n) (hloc : m_nL My ≤ 29) (hn : As.length = n) (hstk : stk = As.reverse ++ rest) (hr : (rest.map fun v => v.category).sum ≤ 8) (h1 : kc + m_mc My ≤ m_mc M) (h2 : ks + m_ms My ≤ m_ms M) (hkc : kc + m_mc My = kc') (hks : ks + m_ms My = ks') (hs : ∀ v, (T v).toList ++ rest = stk' v) (k : ∀ (v : α) (h' : Hp) (nx' : Nat), f v h' nx' = some R → Ok G M (d + 1) post (pc + 3) ls (stk' v) h' nx' kc' ks') : Ok G M (d + 1) post pc ls stk h nx kc ks := by
  unfold cl at e
  split at e
  · rename_i q
    obtain ⟨v, h', nx'⟩ := q
    refine Ok.callSN hd (hC v h' nx' rfl) hcode hini hst hlink hy hlen hloc hn hstk hr h1 h2 (fun v0 h0 nx0 q => ?_)
    obtain ⟨rfl, rfl, rfl⟩ := q
    subst hkc
    subst hks
    rw [hs]
    exact k v h0 nx0 e
  · cases e
theorem X.callV {My : Mt} {i n kc' ks' : Nat} {b ci : Nat} {r0 : vw_C} {fs : List Value} {As rest : List Value} {r : Rz α} {T : α → Option Value} {stk' : α → List Value} {f : α → Hp → Nat → Option β} (hd : decode (m_cc M) pc = .ok (.invokevirtual i, 3)) (e : cl r f = some R) (hC : ∀ (v : α) (h' : Hp) (nx' : Nat), r = some (v, h', nx') → Ct G My d (Same (T v) h' nx') (.ref b :: As) h nx) (hb : h b = some (ob ci fs)) (hcl : vwCl[ci]? = some r0) (hcode : Cond.code (m_y My) (m_cc My) (m_nL My) (m_rt My) ∈ tbG) (hini : Cond.initialized (m_y My).cls ∈ tbG) (hin : Cond.instanceMethod (m_y My) ∈ tbG) (hsel : Cond.selects r0.1 (m_y My) (m_y My) ∈ tbG) (hlink : Cond.methodLink (m_own M) i (m_y My) ∈ tbG) (hy : (m_y My).cls ≠ "java/lang/invoke/MethodHandle" ∧ (m_y My).cls ≠ "java/lang/invoke/VarHandle") (hlen : (parseMethodDescriptor (m_y My).desc).map (fun d => d.parameters.length) = some n) (hloc : m_nL My ≤ 29) (hn : As.length = n) (hstk : stk = As.reverse ++ .ref b :: rest) (hr : (rest.map fun v => v.category).sum ≤ 8) (h1 : kc + m_mc My ≤ m_mc M) (h2 : ks + m_ms My ≤ m_ms M) (hkc : kc + m_mc My = kc') (hks : ks + m_ms My = ks') (hs : ∀ v, (T v).toList ++ rest = stk' v) (k : ∀ (v : α) (h' : Hp) (nx' : Nat), f v h' nx' = some R → Ok G M (d + 1) post (pc + 3) ls (stk' v) h' nx' kc' ks') : Ok G M (d + 1) post pc ls stk h nx kc ks := by
  unfold cl at e
  split at e
  · rename_i q
    obtain ⟨v, h', nx'⟩ := q
    refine Ok.callV hd (hC v h' nx' rfl) hb hcl hcode hini hin hsel hlink hy hlen hloc hn hstk hr h1 h2 (fun v0 h0 nx0 q => ?_)
    obtain ⟨rfl, rfl, rfl⟩ := q
    subst hkc
    subst hks
    rw [hs]
    exact k v h0 nx0 e
  · cases e
theorem X.callU {My : Mt} {i n kc' ks' : Nat} {b ci : Nat} {r0 : vw_C} {x : MethodName} {owner : String} {fs : List Value} {b0 : ByteArray} {m0 : Nat} {rt0 : Option FieldType} {As rest : List Value} {r : Rz α} {T : α → Option Value} {stk' : α → List Value} {f : α → Hp → Nat → Option β} (hd : decode (m_cc M) pc = .ok (.invokevirtual i, 3)) (e : cl r f = some R) (hC : ∀ (v : α) (h' : Hp) (nx' : Nat), r = some (v, h', nx') → Ct G My d (Same (T v) h' nx') (.ref b :: As) h nx) (hb : h b = some (ob ci fs)) (hcl : vwCl[ci]? = some r0) (hcode : Cond.code (m_y My) (m_cc My) (m_nL My) (m_rt My) ∈ tbG) (hini : Cond.initialized (m_y My).cls ∈ tbG) (hin : Cond.instanceMethod (m_y My) ∈ tbG) (hsel : Cond.selects r0.1 x (m_y My) ∈ tbG) (hlink : Cond.methodLink (m_own M) i x ∈ tbG) (hsm : Cond.sameMethod x.cls owner x.name x.desc ∈ tbG) (hio : Cond.instanceMethod ⟨owner, x.name, x.desc⟩ ∈ tbG) (hco : Cond.code ⟨owner, x.name, x.desc⟩ b0 m0 rt0 ∈ tbG) (hy : owner ≠ "java/lang/invoke/MethodHandle" ∧ owner ≠ "java/lang/invoke/VarHandle") (hlen : (parseMethodDescriptor x.desc).map (fun d => d.parameters.length) = some n) (hloc : m_nL My ≤ 29) (hn : As.length = n) (hstk : stk = As.reverse ++ .ref b :: rest) (hr : (rest.map fun v => v.category).sum ≤ 8) (h1 : kc + m_mc My ≤ m_mc M) (h2 : ks + m_ms My ≤ m_ms M) (hkc : kc + m_mc My = kc') (hks : ks + m_ms My = ks') (hs : ∀ v, (T v).toList ++ rest = stk' v) (k : ∀ (v : α) (h' : Hp) (nx' : Nat), f v h' nx' = some R → Ok G M (d + 1) post (pc + 3) ls (stk' v) h' nx' kc' ks') : Ok G M (d + 1) post pc ls stk h nx kc ks := by
  unfold cl at e
  split at e
  · rename_i q
    obtain ⟨v, h', nx'⟩ := q
    refine Ok.callU hd (hC v h' nx' rfl) hb hcl hcode hini hin hsel hlink hsm hio hco hy hlen hloc hn hstk hr h1 h2 (fun v0 h0 nx0 q => ?_)
    obtain ⟨rfl, rfl, rfl⟩ := q
    subst hkc
    subst hks
    rw [hs]
    exact k v h0 nx0 e
  · cases e
theorem X.callSU {My : Mt} {i n kc' ks' : Nat} {b ci : Nat} {r0 : vw_C} {fs : List Value} {As rest : List Value} {r : Rz α} {T : α → Option Value} {stk' : α → List Value} {f : α → Hp → Nat → Option β} (hd : decode (m_cc M) pc = .ok (.invokespecial i, 3)) (e : cl r f = some R) (hC : ∀ (v : α) (h' : Hp) (nx' : Nat), r = some (v, h', nx') → Ct G My d (Same (T v) h' nx') (.ref b :: As) h nx) (hb : h b = some (ob ci fs)) (hcl : vwCl[ci]? = some r0) (hcode : Cond.code (m_y My) (m_cc My) (m_nL My) (m_rt My) ∈ tbG) (hini : Cond.initialized (m_y My).cls ∈ tbG) (hin : Cond.instanceMethod (m_y My) ∈ tbG) (hlink : Cond.methodLink (m_own M) i (m_y My) ∈ tbG) (hsm : Cond.sameMethod (m_y My).cls (m_y My).cls (m_y My).name (m_y My).desc ∈ tbG) (hsup : Cond.superclass (m_own M) (m_y My).cls ∈ tbG) (hni : (m_y My).name ≠ "<init>") (hlen : (parseMethodDescriptor (m_y My).desc).map (fun d => d.parameters.length) = some n) (hloc : m_nL My ≤ 29) (hn : As.length = n) (hstk : stk = As.reverse ++ .ref b :: rest) (hr : (rest.map fun v => v.category).sum ≤ 8) (h1 : kc + m_mc My ≤ m_mc M) (h2 : ks + m_ms My ≤ m_ms M) (hkc : kc + m_mc My = kc') (hks : ks + m_ms My = ks') (hs : ∀ v, (T v).toList ++ rest = stk' v) (k : ∀ (v : α) (h' : Hp) (nx' : Nat), f v h' nx' = some R → Ok G M (d + 1) post (pc + 3) ls (stk' v) h' nx' kc' ks') : Ok G M (d + 1) post pc ls stk h nx kc ks := by
  unfold cl at e
  split at e
  · rename_i q
    obtain ⟨v, h', nx'⟩ := q
    refine Ok.callSU hd (hC v h' nx' rfl) hb hcl hcode hini hin hlink hsm hsup hni hlen hloc hn hstk hr h1 h2 (fun v0 h0 nx0 q => ?_)
    obtain ⟨rfl, rfl, rfl⟩ := q
    subst hkc
    subst hks
    rw [hs]
    exact k v h0 nx0 e
  · cases e
theorem X.callSI {My : Mt} {i n kc' ks' : Nat} {x : MethodName} {owner : String} {As rest : List Value} {r : Rz α} {T : α → Option Value} {stk' : α → List Value} {f : α → Hp → Nat → Option β} (hd : decode (m_cc M) pc = .ok (.invokestatic i, 3)) (e : cl r f = some R) (hC : ∀ (v : α) (h' : Hp) (nx' : Nat), r = some (v, h', nx') → Ct G My d (Same (T v) h' nx') As h nx) (hcode : Cond.code (m_y My) (m_cc My) (m_nL My) (m_rt My) ∈ tbG) (hini : Cond.initialized (m_y My).cls ∈ tbG) (hst : Cond.static (m_y My) ∈ tbG) (hlink : Cond.methodLink (m_own M) i x ∈ tbG) (hsm : Cond.sameMethod x.cls owner x.name x.desc ∈ tbG) (hyx : m_y My = ⟨owner, x.name, x.desc⟩) (hy : owner ≠ "java/lang/invoke/MethodHandle" ∧ owner ≠ "java/lang/invoke/VarHandle") (hlen : (parseMethodDescriptor (m_y My).desc).map (fun d => d.parameters.length) = some n) (hloc : m_nL My ≤ 29) (hn : As.length = n) (hstk : stk = As.reverse ++ rest) (hr : (rest.map fun v => v.category).sum ≤ 8) (h1 : kc + m_mc My ≤ m_mc M) (h2 : ks + m_ms My ≤ m_ms M) (hkc : kc + m_mc My = kc') (hks : ks + m_ms My = ks') (hs : ∀ v, (T v).toList ++ rest = stk' v) (k : ∀ (v : α) (h' : Hp) (nx' : Nat), f v h' nx' = some R → Ok G M (d + 1) post (pc + 3) ls (stk' v) h' nx' kc' ks') : Ok G M (d + 1) post pc ls stk h nx kc ks := by
  unfold cl at e
  split at e
  · rename_i q
    obtain ⟨v, h', nx'⟩ := q
    refine Ok.callSI hd (hC v h' nx' rfl) hcode hini hst hlink hsm hyx hy hlen hloc hn hstk hr h1 h2 (fun v0 h0 nx0 q => ?_)
    obtain ⟨rfl, rfl, rfl⟩ := q
    subst hkc
    subst hks
    rw [hs]
    exact k v h0 nx0 e
  · cases e
theorem X.callSV {My : Mt} {i n kc' ks' : Nat} {b ci : Nat} {r0 : vw_C} {x : MethodName} {owner : String} {fs : List Value} {As rest : List Value} {r : Rz α} {T : α → Option Value} {stk' : α → List Value} {f : α → Hp → Nat → Option β} (hd : decode (m_cc M) pc = .ok (.invokespecial i, 3)) (e : cl r f = some R) (hC : ∀ (v : α) (h' : Hp) (nx' : Nat), r = some (v, h', nx') → Ct G My d (Same (T v) h' nx') (.ref b :: As) h nx) (hb : h b = some (ob ci fs)) (hcl : vwCl[ci]? = some r0) (hcode : Cond.code (m_y My) (m_cc My) (m_nL My) (m_rt My) ∈ tbG) (hini : Cond.initialized (m_y My).cls ∈ tbG) (hin : Cond.instanceMethod (m_y My) ∈ tbG) (hlink : Cond.methodLink (m_own M) i x ∈ tbG) (hsm : Cond.sameMethod x.cls owner x.name x.desc ∈ tbG) (hyx : m_y My = ⟨owner, x.name, x.desc⟩) (hsup : Cond.superclass (m_own M) x.cls ∈ tbG) (hsup2 : Cond.superclass x.cls owner ∈ tbG) (hni : x.name ≠ "<init>") (hlen : (parseMethodDescriptor (m_y My).desc).map (fun d => d.parameters.length) = some n) (hloc : m_nL My ≤ 29) (hn : As.length = n) (hstk : stk = As.reverse ++ .ref b :: rest) (hr : (rest.map fun v => v.category).sum ≤ 8) (h1 : kc + m_mc My ≤ m_mc M) (h2 : ks + m_ms My ≤ m_ms M) (hkc : kc + m_mc My = kc') (hks : ks + m_ms My = ks') (hs : ∀ v, (T v).toList ++ rest = stk' v) (k : ∀ (v : α) (h' : Hp) (nx' : Nat), f v h' nx' = some R → Ok G M (d + 1) post (pc + 3) ls (stk' v) h' nx' kc' ks') : Ok G M (d + 1) post pc ls stk h nx kc ks := by
  unfold cl at e
  split at e
  · rename_i q
    obtain ⟨v, h', nx'⟩ := q
    refine Ok.callSV hd (hC v h' nx' rfl) hb hcl hcode hini hin hlink hsm hyx hsup hsup2 hni hlen hloc hn hstk hr h1 h2 (fun v0 h0 nx0 q => ?_)
    obtain ⟨rfl, rfl, rfl⟩ := q
    subst hkc
    subst hks
    rw [hs]
    exact k v h0 nx0 e
  · cases e
theorem X.callI {My : Mt} {i n kc' ks' : Nat} {b : Nat} {As rest : List Value} {r : Rz α} {T : α → Option Value} {stk' : α → List Value} {f : α → Hp → Nat → Option β} (hd : decode (m_cc M) pc = .ok (.invokespecial i, 3)) (e : cl r f = some R) (hC : ∀ (v : α) (h' : Hp) (nx' : Nat), r = some (v, h', nx') → Ct G My d (Same (T v) h' nx') (.ref b :: As) h nx) (hrt : m_rt My = none) (hcode : Cond.code (m_y My) (m_cc My) (m_nL My) (m_rt My) ∈ tbG) (hini : Cond.initialized (m_y My).cls ∈ tbG) (hin : Cond.instanceMethod (m_y My) ∈ tbG) (hni : (m_y My).name = "<init>") (hlink : Cond.methodLink (m_own M) i (m_y My) ∈ tbG) (hy : (m_y My).cls ≠ "java/lang/invoke/MethodHandle" ∧ (m_y My).cls ≠ "java/lang/invoke/VarHandle") (hlen : (parseMethodDescriptor (m_y My).desc).map (fun d => d.parameters.length) = some n) (hloc : m_nL My ≤ 29) (hn : As.length = n) (hstk : stk = As.reverse ++ .ref b :: rest) (hr : (rest.map fun v => v.category).sum ≤ 8) (h1 : kc + m_mc My ≤ m_mc M) (h2 : ks + m_ms My ≤ m_ms M) (hkc : kc + m_mc My = kc') (hks : ks + m_ms My = ks') (hs : ∀ v, (T v).toList ++ rest = stk' v) (k : ∀ (v : α) (h' : Hp) (nx' : Nat), f v h' nx' = some R → Ok G M (d + 1) post (pc + 3) ls (stk' v) h' nx' kc' ks') : Ok G M (d + 1) post pc ls stk h nx kc ks := by
  unfold cl at e
  split at e
  · rename_i q
    obtain ⟨v, h', nx'⟩ := q
    refine Ok.callI hd (hC v h' nx' rfl) hrt hcode hini hin hni hlink hy hlen hloc hn hstk hr h1 h2 (fun v0 h0 nx0 q => ?_)
    obtain ⟨rfl, rfl, rfl⟩ := q
    subst hkc
    subst hks
    rw [hs]
    exact k v h0 nx0 e
  · cases e
theorem X.callIN {My : Mt} {i n kc' ks' : Nat} {b : Nat} {host : String} {As rest : List Value} {r : Rz α} {T : α → Option Value} {stk' : α → List Value} {f : α → Hp → Nat → Option β} (hd : decode (m_cc M) pc = .ok (.invokespecial i, 3)) (e : cl r f = some R) (hC : ∀ (v : α) (h' : Hp) (nx' : Nat), r = some (v, h', nx') → Ct G My d (Same (T v) h' nx') (.ref b :: As) h nx) (hrt : m_rt My = none) (hcode : Cond.code (m_y My) (m_cc My) (m_nL My) (m_rt My) ∈ tbG) (hini : Cond.initialized (m_y My).cls ∈ tbG) (hin : Cond.instanceMethod (m_y My) ∈ tbG) (hni : (m_y My).name = "<init>") (hlink : (m_own M, i, m_y My, host) ∈ nsL) (hy : (m_y My).cls ≠ "java/lang/invoke/MethodHandle" ∧ (m_y My).cls ≠ "java/lang/invoke/VarHandle") (hlen : (parseMethodDescriptor (m_y My).desc).map (fun d => d.parameters.length) = some n) (hloc : m_nL My ≤ 29) (hn : As.length = n) (hstk : stk = As.reverse ++ .ref b :: rest) (hr : (rest.map fun v => v.category).sum ≤ 8) (h1 : kc + m_mc My ≤ m_mc M) (h2 : ks + m_ms My ≤ m_ms M) (hkc : kc + m_mc My = kc') (hks : ks + m_ms My = ks') (hs : ∀ v, (T v).toList ++ rest = stk' v) (k : ∀ (v : α) (h' : Hp) (nx' : Nat), f v h' nx' = some R → Ok G M (d + 1) post (pc + 3) ls (stk' v) h' nx' kc' ks') : Ok G M (d + 1) post pc ls stk h nx kc ks := by
  unfold cl at e
  split at e
  · rename_i q
    obtain ⟨v, h', nx'⟩ := q
    refine Ok.callIN hd (hC v h' nx' rfl) hrt hcode hini hin hni hlink hy hlen hloc hn hstk hr h1 h2 (fun v0 h0 nx0 q => ?_)
    obtain ⟨rfl, rfl, rfl⟩ := q
    subst hkc
    subst hks
    rw [hs]
    exact k v h0 nx0 e
  · cases e
end PX
/-! more rows -/
theorem cs_n : (([] : List Value).map fun v => v.category).sum = 0 := rfl
theorem cs_c {v : Value} {l : List Value} {a b : Nat} (h1 : v.category = a) (h2 : (l.map fun v => v.category).sum = b) : ((v :: l).map fun v => v.category).sum = a + b := by simp [h1, h2]
theorem cs_le {l : List Value} {a : Nat} (h : (l.map fun v => v.category).sum = a) (hn : a ≤ 8) : (l.map fun v => v.category).sum ≤ 8 := by rw [h]; exact hn
section PX2
variable {G : Gx} {M : Mt} {d : Nat} {post : Po} {pc : Nat} {ls : Lc} {stk : List Value} {h : Hp} {nx kc ks : Nat} {α β : Type} {R : β}
def dzI (y : Int32) (f : Option β) : Option β := if y = 0 then none else f
def dzJ (y : Int64) (f : Option β) : Option β := if y = 0 then none else f
theorem X.rdzI {y : Int32} {f : Option β} (e : dzI y f = some R) (k : ¬ y = 0 → f = some R → Ok G M d post pc ls stk h nx kc ks) : Ok G M d post pc ls stk h nx kc ks := by
  unfold dzI at e
  split at e
  · cases e
  · rename_i c
    exact k c e
theorem X.rdzJ {y : Int64} {f : Option β} (e : dzJ y f = some R) (k : ¬ y = 0 → f = some R → Ok G M d post pc ls stk h nx kc ks) : Ok G M d post pc ls stk h nx kc ks := by
  unfold dzJ at e
  split at e
  · cases e
  · rename_i c
    exact k c e
theorem XL.istore {i : Nat} {x : Int32} {L : Lc} (hd : decode (m_cc M) pc = .ok (.istore i, 2)) (hn : i < m_nL M) (hL : lst1 ls i (.int x) = L) (k : Ok G M d post (pc + 2) L stk h nx kc ks) : Ok G M d post pc ls (.int x :: stk) h nx kc ks := Ok.istore hd hn (by rw [hL]; exact k)
theorem XL.istore_n {j : Fin 4} {x : Int32} {L : Lc} (hd : decode (m_cc M) pc = .ok (.istore_n j, 1)) (hn : (j : Nat) < m_nL M) (hL : lst1 ls (j : Nat) (.int x) = L) (k : Ok G M d post (pc + 1) L stk h nx kc ks) : Ok G M d post pc ls (.int x :: stk) h nx kc ks := Ok.istore_n hd hn (by rw [hL]; exact k)
theorem XL.lstore {i : Nat} {x : Int64} {L : Lc} (hd : decode (m_cc M) pc = .ok (.lstore i, 2)) (hn : i + 1 < m_nL M) (hL : lst2 ls i (.long x) = L) (k : Ok G M d post (pc + 2) L stk h nx kc ks) : Ok G M d post pc ls (.long x :: stk) h nx kc ks := Ok.lstore hd hn (by rw [hL]; exact k)
theorem XL.lstore_n {j : Fin 4} {x : Int64} {L : Lc} (hd : decode (m_cc M) pc = .ok (.lstore_n j, 1)) (hn : (j : Nat) + 1 < m_nL M) (hL : lst2 ls (j : Nat) (.long x) = L) (k : Ok G M d post (pc + 1) L stk h nx kc ks) : Ok G M d post pc ls (.long x :: stk) h nx kc ks := Ok.lstore_n hd hn (by rw [hL]; exact k)
theorem XL.astore {i : Nat} {x : Nat} {L : Lc} (hd : decode (m_cc M) pc = .ok (.astore i, 2)) (hn : i < m_nL M) (hL : lst1 ls i (.ref x) = L) (k : Ok G M d post (pc + 2) L stk h nx kc ks) : Ok G M d post pc ls (.ref x :: stk) h nx kc ks := Ok.astore hd hn (by rw [hL]; exact k)
theorem XL.astore_n {j : Fin 4} {x : Nat} {L : Lc} (hd : decode (m_cc M) pc = .ok (.astore_n j, 1)) (hn : (j : Nat) < m_nL M) (hL : lst1 ls (j : Nat) (.ref x) = L) (k : Ok G M d post (pc + 1) L stk h nx kc ks) : Ok G M d post pc ls (.ref x :: stk) h nx kc ks := Ok.astore_n hd hn (by rw [hL]; exact k)
theorem XL.astoreQ {i : Nat} {r : Option Nat} {L : Lc} (hd : decode (m_cc M) pc = .ok (.astore i, 2)) (hn : i < m_nL M) (hL : lst1 ls i (va_rf r) = L) (k : Ok G M d post (pc + 2) L stk h nx kc ks) : Ok G M d post pc ls (va_rf r :: stk) h nx kc ks := by
  cases r with
  | none => exact Ok.astoreN hd hn (by rw [show lst1 ls i .null = L from hL]; exact k)
  | some a => exact Ok.astore hd hn (by rw [show lst1 ls i (.ref a) = L from hL]; exact k)
theorem XL.astore_nQ {j : Fin 4} {r : Option Nat} {L : Lc} (hd : decode (m_cc M) pc = .ok (.astore_n j, 1)) (hn : (j : Nat) < m_nL M) (hL : lst1 ls (j : Nat) (va_rf r) = L) (k : Ok G M d post (pc + 1) L stk h nx kc ks) : Ok G M d post pc ls (va_rf r :: stk) h nx kc ks := by
  cases r with
  | none => exact Ok.astore_nN hd hn (by rw [show lst1 ls (j : Nat) .null = L from hL]; exact k)
  | some a => exact Ok.astore_n hd hn (by rw [show lst1 ls (j : Nat) (.ref a) = L from hL]; exact k)
theorem XL.lconst {n : Fin 2} {v : Int64} (hd : decode (m_cc M) pc = .ok (.lconst n, 1)) (hv : Int64.ofNat (n : Nat) = v) (k : Ok G M d post (pc + 1) ls (.long v :: stk) h nx kc ks) : Ok G M d post pc ls stk h nx kc ks := Ok.lconst hd (by rw [hv]; exact k)
theorem XL.aconst_null (hd : decode (m_cc M) pc = .ok (.aconst_null, 1)) (k : Ok G M d post (pc + 1) ls (va_rf none :: stk) h nx kc ks) : Ok G M d post pc ls stk h nx kc ks := Ok.aconst_null hd k
theorem sw_out {x : Int32} (lo n : Nat) (h : ∀ i, i < n → x ≠ nI (lo + i)) (h0 : 0 < n := by decide) (hs : lo + n < 2 ^ 31 := by decide) : x.toInt < (lo : Int) ∨ ((lo + n - 1 : Nat) : Int) < x.toInt := by
  by_cases c : x.toInt < (lo : Int)
  · exact Or.inl c
  · by_cases c2 : ((lo + n - 1 : Nat) : Int) < x.toInt
    · exact Or.inr c2
    · exfalso
      by_cases n0 : n = 0
      · subst n0
        omega
      · refine h (x.toInt.toNat - lo) (by omega) (Int32.toInt_inj.mp ?_)
        rw [nI_toInt (by omega)]
        omega
theorem lk_ne {x : Int32} {k : Nat} (h : x ≠ nI k) (hk : k < 2 ^ 31) : x.toInt ≠ (k : Int) := fun q => h (Int32.toInt_inj.mp (by rw [nI_toInt hk]; exact q))
theorem lk_out {dflt : Int} {x : Int} : ∀ {ps : List (Int × Int)}, (∀ q ∈ ps.map Prod.fst, x ≠ q) → Op.lookupswitch.offset ps dflt x = dflt := by
  intro ps hq
  have : ps.find? (fun q => q.1 == x) = none := by
    rw [List.find?_eq_none]
    intro q hq2 e
    exact hq q.1 (List.mem_map_of_mem hq2) (by simpa using (Eq.symm (by simpa using e)))
  exact Op.lookupswitch.offset_none this
theorem cs_sort : ∀ c ∈ [7], ∃ q : vw_C, vwCl[c]? = some q ∧ (q.1 = "GateWatch$Sort" ∨ (q.1, "GateWatch$Sort") ∈ csL) := by
  intro c hc
  obtain rfl := List.mem_singleton.mp hc
  exact ⟨_, rfl, Or.inl rfl⟩
theorem cs_plan : ∀ c ∈ [1, 2, 3, 4, 6, 8, 10], ∃ q : vw_C, vwCl[c]? = some q ∧ (q.1 = "GateWatch$Plan" ∨ (q.1, "GateWatch$Plan") ∈ csL) := by
  intro c hc
  simp only [List.mem_cons, List.not_mem_nil, or_false] at hc
  rcases hc with rfl | rfl | rfl | rfl | rfl | rfl | rfl <;> first | exact ⟨_, rfl, Or.inl rfl⟩ | exact ⟨_, rfl, Or.inr (by decide +kernel)⟩
theorem vw_at {c : Nat} {cs : List Nat} (hc : c ∈ cs) (h : cs.all (fun c => decide (c < 13)) = true) : ∃ r : vw_C, vwCl[c]? = some r := by
  have h1 := of_decide_eq_true (List.all_eq_true.mp h c hc)
  have h2 : vwCl.length = 13 := rfl
  exact ⟨_, List.getElem?_eq_getElem (by rw [h2]; exact h1)⟩
/-- the method My is what a virtual call (own, i) comes to on a receiver of class c -/
def VU (own : String) (i n c : Nat) (My : Mt) : Prop := ∃ r0 : vw_C, vwCl[c]? = some r0 ∧ ∃ (x : MethodName) (owner : String), (∃ (b0 : ByteArray) (m0 : Nat) (rt0 : Option FieldType), Cond.code ⟨owner, x.name, x.desc⟩ b0 m0 rt0 ∈ tbG) ∧ Cond.code (m_y My) (m_cc My) (m_nL My) (m_rt My) ∈ tbG ∧ Cond.initialized (m_y My).cls ∈ tbG ∧ Cond.instanceMethod (m_y My) ∈ tbG ∧ Cond.selects r0.1 x (m_y My) ∈ tbG ∧ Cond.methodLink own i x ∈ tbG ∧ (Cond.sameMethod x.cls owner x.name x.desc ∈ tbG ∧ Cond.instanceMethod ⟨owner, x.name, x.desc⟩ ∈ tbG) ∧ (owner ≠ "java/lang/invoke/MethodHandle" ∧ owner ≠ "java/lang/invoke/VarHandle") ∧ (parseMethodDescriptor x.desc).map (fun d => d.parameters.length) = some n ∧ m_nL My ≤ 29 ∧ m_mc My = 0 ∧ m_ms My = 0
theorem X.callC {i n b : Nat} {cs : List Nat} {As rest : List Value} {r : Nat → Rz α} {T : α → Option Value} {stk' : α → List Value} {f : α → Hp → Nat → Option β} (hd : decode (m_cc M) pc = .ok (.invokevirtual i, 3)) (hr : (rest.map fun v => v.category).sum ≤ 8) (e : cl (ck h b cs r) f = some R) (alt : ∀ c ∈ cs, ∃ My : Mt, VU (m_own M) i n c My ∧ ∀ (v : α) (h' : Hp) (nx' : Nat), r c = some (v, h', nx') → Ct G My d (Same (T v) h' nx') (.ref b :: As) h nx) (hn : As.length = n) (hstk : stk = As.reverse ++ .ref b :: rest) (h1 : kc ≤ m_mc M) (h2 : ks ≤ m_ms M) (hs : ∀ v, (T v).toList ++ rest = stk' v) (k : ∀ (v : α) (h' : Hp) (nx' : Nat), f v h' nx' = some R → Ok G M (d + 1) post (pc + 3) ls (stk' v) h' nx' kc ks) : Ok G M (d + 1) post pc ls stk h nx kc ks := by
  unfold cl at e
  split at e
  · rename_i q hq
    obtain ⟨v, h', nx'⟩ := q
    unfold ck at hq
    split at hq
    · rename_i q0 hb
      split at hq
      · rename_i hc
        obtain ⟨My, ⟨r0, a0, x, owner, ⟨b0, m0, rt0, a1⟩, a2, a3, a4, a5, a6, ⟨a7, a8⟩, a9, a10, a11, a12, a13⟩, hC⟩ := alt q0.1 hc
        refine Ok.callU (ci := q0.1) (fs := q0.2) hd (hC v h' nx' hq) hb a0 a2 a3 a4 a5 a6 a7 a8 a1 a9 a10 a11 hn hstk hr (by rw [a12]; exact h1) (by rw [a13]; exact h2) (fun v0 h0 nx0 q => ?_)
        obtain ⟨rfl, rfl, rfl⟩ := q
        rw [hs, a12, a13]
        exact k v h0 nx0 e
      · cases hq
    · cases hq
  · cases e
end PX2
/-! Math.max, Math.min -/
def mxI (x y : Int32) : Int32 := if x < y then y else x
def mnI (x y : Int32) : Int32 := if y < x then y else x
def mxJ (x y : Int64) : Int64 := if y < x then x else y
def mnJ (x y : Int64) : Int64 := if y < x then y else x
section PX3
variable {G : Gx} {M : Mt} {d : Nat} {post : Po} {pc : Nat} {ls : Lc} {stk : List Value} {h : Hp} {nx kc ks : Nat}
theorem Ok.mmaxI {i : Nat} {x y : Int32} (hd : decode (m_cc M) pc = .ok (.invokestatic i, 3)) (hlink : Cond.methodLink (m_own M) i Lib.Math.max.name ∈ tbG) (hst : Cond.static Lib.Math.max.name ∈ tbG) (hini : Cond.initialized "java/lang/Math" ∈ tbG) (hcode : Cond.code Lib.Math.max.name Lib.Math.max.code 2 (some .int) ∈ tbG) (h1 : kc ≤ m_mc M) (h2 : ks ≤ m_ms M) (hr : (stk.map fun v => v.category).sum ≤ 8) (k : Ok G M d post (pc + 3) ls (.int (mxI x y) :: stk) h nx kc ks) : Ok G M d post pc ls (.int y :: .int x :: stk) h nx kc ks := by
  intro p e s m args below meth c H locs ls0 C hW hS hl
  exact va_mmax C.1 C.2.1 (by rw [hl.1]; exact C.2.2.2.1) C.2.2.2.2.1 (C.w hlink) (C.w hst) (C.w hini) (C.w hcode) (by show 1 ≤ d + 1; omega) (by show _ + _ ≤ 48 * (d + 1); omega) h1 h2 hd (k p e s m args below meth c H locs ls0 C hW hS hl)
theorem Ok.mminI {i : Nat} {x y : Int32} (hd : decode (m_cc M) pc = .ok (.invokestatic i, 3)) (hlink : Cond.methodLink (m_own M) i Lib.Math.min.name ∈ tbG) (hst : Cond.static Lib.Math.min.name ∈ tbG) (hini : Cond.initialized "java/lang/Math" ∈ tbG) (hcode : Cond.code Lib.Math.min.name Lib.Math.min.code 2 (some .int) ∈ tbG) (h1 : kc ≤ m_mc M) (h2 : ks ≤ m_ms M) (hr : (stk.map fun v => v.category).sum ≤ 8) (k : Ok G M d post (pc + 3) ls (.int (mnI x y) :: stk) h nx kc ks) : Ok G M d post pc ls (.int y :: .int x :: stk) h nx kc ks := by
  intro p e s m args below meth c H locs ls0 C hW hS hl
  exact va_mmin C.1 C.2.1 (by rw [hl.1]; exact C.2.2.2.1) C.2.2.2.2.1 (C.w hlink) (C.w hst) (C.w hini) (C.w hcode) (by show 1 ≤ d + 1; omega) (by show _ + _ ≤ 48 * (d + 1); omega) h1 h2 hd (k p e s m args below meth c H locs ls0 C hW hS hl)
theorem Ok.mmaxJ {i : Nat} {x y : Int64} (hd : decode (m_cc M) pc = .ok (.invokestatic i, 3)) (hlink : Cond.methodLink (m_own M) i Lib.MathLoose.max_long.x ∈ tbG) (hst : Cond.static Lib.MathLoose.max_long.x ∈ tbG) (hini : Cond.initialized "java/lang/Math" ∈ tbG) (hcode : Cond.code Lib.MathLoose.max_long.x Lib.MathLoose.max_long.code 4 (some .long) ∈ tbG) (h1 : kc ≤ m_mc M) (h2 : ks ≤ m_ms M) (hr : (stk.map fun v => v.category).sum ≤ 8) (k : Ok G M d post (pc + 3) ls (.long (mxJ x y) :: stk) h nx kc ks) : Ok G M d post pc ls (.long y :: .long x :: stk) h nx kc ks := by
  intro p e s m args below meth c H locs ls0 C hW hS hl
  exact va_mmax_long C.1 C.2.1 (by rw [hl.1]; exact C.2.2.2.1) C.2.2.2.2.1 (C.w hlink) (C.w hst) (C.w hini) (C.w hcode) (by show 1 ≤ d + 1; omega) (by show _ + _ ≤ 48 * (d + 1); omega) h1 h2 hd (k p e s m args below meth c H locs ls0 C hW hS hl)
theorem Ok.mminJ {i : Nat} {x y : Int64} (hd : decode (m_cc M) pc = .ok (.invokestatic i, 3)) (hlink : Cond.methodLink (m_own M) i Lib.MathLoose.min_long.x ∈ tbG) (hst : Cond.static Lib.MathLoose.min_long.x ∈ tbG) (hini : Cond.initialized "java/lang/Math" ∈ tbG) (hcode : Cond.code Lib.MathLoose.min_long.x Lib.MathLoose.min_long.code 4 (some .long) ∈ tbG) (h1 : kc ≤ m_mc M) (h2 : ks ≤ m_ms M) (hr : (stk.map fun v => v.category).sum ≤ 8) (k : Ok G M d post (pc + 3) ls (.long (mnJ x y) :: stk) h nx kc ks) : Ok G M d post pc ls (.long y :: .long x :: stk) h nx kc ks := by
  intro p e s m args below meth c H locs ls0 C hW hS hl
  exact va_mmin_long C.1 C.2.1 (by rw [hl.1]; exact C.2.2.2.1) C.2.2.2.2.1 (C.w hlink) (C.w hst) (C.w hini) (C.w hcode) (by show 1 ≤ d + 1; omega) (by show _ + _ ≤ 48 * (d + 1); omega) h1 h2 hd (k p e s m args below meth c H locs ls0 C hW hS hl)
end PX3
