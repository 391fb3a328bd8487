/-! MORE ROWS: new int[n][k], System.arraycopy, clone of bytes, texts; all with the exact heap. -/
def cv_cpy {α : Type} (f g : Nat → α) (sp dp n : Nat) : Nat → α := fun k => if dp ≤ k ∧ k < dp + n then f (sp + (k - dp)) else g k
def mset (G : Gx) (h : Hp) (nx N K : Nat) : Hp := fun q => if q = g_B G + nx then some (aG G N (fun i => if i < N then some (g_B G + nx + 1 + i) else none)) else if g_B G + nx < q ∧ q < g_B G + nx + 1 + N then some (aI G K (fun _ => (0 : Int32))) else h q
theorem mo_outer (c : ClassId) (N h0 : Nat) : ∀ i : Nat, Jvm.Free.Multi.outerC c N h0 i = arrV c N (fun j => va_rf (if j < i then some (h0 + 1 + j) else none))
  | 0 => by
    show ({ cls := c, slots := Array.replicate N .null, vm := .none } : Cell) = _
    rw [arrV_new]
    exact congrArg (arrV c N) (funext fun j => by simp [va_rf])
  | i + 1 => by
    show (Jvm.Free.Multi.outerC c N h0 i).setSlot i (.ref (h0 + 1 + i)) = _
    rw [mo_outer c N h0 i, arrV_store]
    refine congrArg (arrV c N) (funext fun j => ?_)
    by_cases e : j = i
    · subst e
      simp [updV, va_rf]
    · by_cases h : j < i
      · simp [updV, e, h, Nat.lt_succ_of_lt h]
      · simp [updV, e, h, show ¬ j < i + 1 by omega]
section MORE
variable {G : Gx} {M : Mt} {d : Nat} {post : Po} {pc : Nat} {ls : Lc} {stk : List Value} {h : Hp} {nx kc ks : Nat}
theorem Ok.mnaI {index : Nat} {n k : Int32} {N K : Nat} (hd : decode (m_cc M) pc = .ok (.multianewarray index 2, 4)) (hcl : Cond.classLink (m_own M) index "[[I" ∈ tbG) (harr : Cond.arrayClass .int ∈ tbG) (hn : ¬ n < 0) (hk : ¬ k < 0) (hN : n.toNatClampNeg = N) (hK : k.toNatClampNeg = K) (hb1 : N * 4 ≤ 536870912) (hb2 : K * 4 ≤ 536870912) (h1 : kc + (1 + N) ≤ m_mc M) (h2 : ks + (N + N * K) ≤ m_ms M)
    (kk : Ok G M d post (pc + 4) ls (.ref (g_B G + nx) :: stk) (mset G h nx N K) (nx + 1 + N) (kc + 1 + N) (ks + N + N * K)) : Ok G M d post pc ls (.int k :: .int n :: stk) h nx kc ks := by
  intro p e s m args below meth c H locs ls0 C hW hS hl
  subst hN
  subst hK
  intro T hT Xs
  have hover : va_AOA .int s := C.2.2.2.2.2.2.2.2.2.2.2.2.2.2.2.2
  have hcy : s.vm.findClass (FieldType.array .int).toString = some (g_c G 0) := (C.K.2 0 (g_c G 0, .int) rfl).2
  have hcA' : s.vm.findClass ("[" ++ (FieldType.array .int).toString) = some (g_c G 6) := (C.K.2 6 (g_c G 6, .array .int) rfl).2
  obtain ⟨vm₁, cA, comp, -, fA, fC, hO, -, X', step⟩ := Xs.multianewarray2F (ty := .int) C.1 C.2.2.2.2.1 (C.w hcl) (va_AOA.use hover) (C.w harr) (g := F0 m pc ls0 (.int k :: .int n :: stk)) rfl (by rw [C.2.1]; exact hd) rfl hn hk hb1 hb2 (by omega) rfl rfl h1 h2
  have ec : some (g_c G 0) = some comp := hcy.symm.trans fC
  cases ec
  have ec : some (g_c G 6) = some cA := hcA'.symm.trans fA
  cases ec
  generalize hF : Jvm.Free.Multi.fill (T.setVm vm₁) (g_c G 6) (g_c G 0) n.toNatClampNeg k.toNatClampNeg (defaultValue .int) n.toNatClampNeg = F at X' step
  have hTh : (T.setVm vm₁).heap = H := hT
  obtain ⟨f1, f2, -, -⟩ := Jvm.Free.Multi.fill_facts (T.setVm vm₁) (g_c G 6) (g_c G 0) n.toNatClampNeg k.toNatClampNeg (defaultValue .int) n.toNatClampNeg
  rw [hF, hTh] at f1 f2
  have hold : ∀ x : Nat, x < H.size → F.heap[x]? = H[x]? := fun x hx => by
    have := Jvm.Free.Multi.fill_old (T.setVm vm₁) (g_c G 6) (g_c G 0) n.toNatClampNeg k.toNatClampNeg (defaultValue .int) (a := x) (by rw [hTh]; exact hx) n.toNatClampNeg
    rw [hF, hTh] at this
    exact this
  have hrow : ∀ j : Nat, j < n.toNatClampNeg → F.heap[H.size + 1 + j]? = some (vp_cell (g_c G 0) (k.toNatClampNeg, .inl (fun _ => (0 : Int32)))) := fun j hj => by
    have := Jvm.Free.Multi.fill_inner (T.setVm vm₁) (g_c G 6) (g_c G 0) n.toNatClampNeg k.toNatClampNeg (defaultValue .int) n.toNatClampNeg j hj
    rw [hF, hTh] at this
    rw [this]
    show some ({ cls := g_c G 0, slots := Array.replicate k.toNatClampNeg (.int 0), vm := .none } : Cell) = _
    rw [arrV_new]
    rfl
  have hout : Jvm.Free.Multi.outerC (g_c G 6) n.toNatClampNeg H.size n.toNatClampNeg = vp_cell (g_c G 6) (n.toNatClampNeg, .inr (.inr (.inr (.inr (fun i => if i < n.toNatClampNeg then some (H.size + 1 + i) else none))))) := by
    rw [vp_cell_q]
    exact mo_outer (g_c G 6) n.toNatClampNeg H.size n.toNatClampNeg
  rw [hout] at f2
  have hsz := hW.1
  have hW' : Wd G (mset G h nx n.toNatClampNeg k.toNatClampNeg) (nx + 1 + n.toNatClampNeg) F.heap := by
    refine ⟨by rw [f1, hsz]; omega, fun q e' hq => ?_⟩
    unfold mset at hq
    by_cases c1 : q = g_B G + nx
    · rw [if_pos c1] at hq
      cases hq
      refine ⟨by omega, ?_⟩
      show F.heap[q]? = some (vp_cell _ _)
      rw [c1, ← hsz]
      exact f2
    · rw [if_neg c1] at hq
      by_cases c2 : g_B G + nx < q ∧ q < g_B G + nx + 1 + n.toNatClampNeg
      · rw [if_pos c2] at hq
        cases hq
        refine ⟨by omega, ?_⟩
        show F.heap[q]? = some (vp_cell _ _)
        have := hrow (q - (H.size + 1)) (by omega)
        rw [show H.size + 1 + (q - (H.size + 1)) = q by omega] at this
        exact this
      · rw [if_neg c2] at hq
        obtain ⟨b1, b2⟩ := hW.2 q e' hq
        exact ⟨b1, b2.kept (hold q b2.lt)⟩
  obtain ⟨t, a1, b1⟩ := kk p e s m args below meth c F.heap locs ls0 C hW' ⟨by rw [f1]; have := hS.1; omega, fun x g1 g2 => (hold x (Nat.lt_of_lt_of_le g1 hS.1)).trans (hS.2.1 x g1 g2), hS.2.2⟩ hl F rfl X'
  refine ⟨t, step t ?_, b1⟩
  have e : T.heap.size = g_B G + nx := by rw [hT, hsz]
  rw [e]
  exact a1
theorem Ok.acopyI {i a0 a n0 n1 : Nat} {f g : Nat → Int32} {sp dp n : Int32} (hd : decode (m_cc M) pc = .ok (.invokestatic i, 3)) (hlink : Cond.methodLink (m_own M) i arraycopyName ∈ tbG) (hst : Cond.static arraycopyName ∈ tbG) (hna : Cond.native arraycopyName ∈ tbG) (hini : Cond.initialized "java/lang/System" ∈ tbG) (ha0 : h a0 = some (aI G n0 f)) (ha : h a = some (aI G n1 g)) (h1 : ¬ sp < 0) (h2 : ¬ dp < 0) (h3 : ¬ n < 0) (h4 : sp.toNatClampNeg + n.toNatClampNeg ≤ n0) (h5 : dp.toNatClampNeg + n.toNatClampNeg ≤ n1) (hfit : ∀ j, j < n.toNatClampNeg → fits .int (.int (f (sp.toNatClampNeg + j))) = true) (hr : (stk.map fun v => v.category).sum ≤ 8)
    (kk : Ok G M d post (pc + 3) ls stk (hset h a (aI G n1 (cv_cpy f g sp.toNatClampNeg dp.toNatClampNeg n.toNatClampNeg))) nx kc ks) : Ok G M d post pc ls (.int n :: .int dp :: .ref a :: .int sp :: .ref a0 :: stk) h nx kc ks := by
  intro p e s m args below meth c H locs ls0 C hW hS hl
  have nnp : ∀ z : Int32, ¬ z < 0 → z.toInt = (z.toNatClampNeg : Int) := by
    intro z hz
    have hz0 : (0 : Int) ≤ z.toInt := by
      have := Int32.not_lt.mp hz
      simpa using Int32.le_iff_toInt_le.mp this
    show z.toInt = ((z.toInt.toNat : Nat) : Int)
    omega
  intro T hT X
  have hc0 : H[a0]? = some (vp_cell (g_c G 0) (n0, .inl f)) := (hW.2 a0 _ ha0).2
  have hc1 : H[a]? = some (vp_cell (g_c G 0) (n1, .inl g)) := (hW.2 a _ ha).2
  obtain ⟨-, k0, hk0, cm0, hkk0⟩ := (C.K.2 0 (g_c G 0, .int) rfl).1 n0 (fun j => .int (f j))
  obtain ⟨-, k1, hk1, cm1, hkk1⟩ := (C.K.2 0 (g_c G 0, .int) rfl).1 n1 (fun j => .int (g j))
  obtain ⟨vm', X', step⟩ := X.arraycopy C.1 C.2.2.2.2.1 (C.w hlink) (C.w hna) (C.w hst) (C.w hini) (src := a0) (dst := a) (cs := vp_cell (g_c G 0) (n0, .inl f)) (cd := vp_cell (g_c G 0) (n1, .inl g)) (srcPos := sp) (destPos := dp) (n := n) (by rw [hT]; exact hc0) (by rw [hT]; exact hc1)
    (fun _ h => by cases h) (fun _ h => by cases h) (fun h => by cases h) (fun h => by cases h) hk0 hk1 hkk0 hkk1 (by simp [refKind]) h1 h2 h3
    (by rw [nnp sp h1, nnp n h3]; show ¬ _ > ((arrV (g_c G 0) n0 (fun j => .int (f j))).slots.size : Int); rw [arrV_size]; omega)
    (by rw [nnp dp h2, nnp n h3]; show ¬ _ > ((arrV (g_c G 0) n1 (fun j => .int (g j))).slots.size : Int); rw [arrV_size]; omega)
    (fun vm₁ _ i hi => by
      have e : (vp_cell (g_c G 0) (n0, .inl f)).slots.getD (sp.toNatClampNeg + i) .null = .int (f (sp.toNatClampNeg + i)) := by
        show (arrV (g_c G 0) n0 (fun j => .int (f j))).slots.getD _ _ = _
        rw [Array.getD_eq_getD_getElem?, arrV_read _ _ (by omega)]
        rfl
      refine ⟨?_, ?_⟩
      · rw [e]
        exact hfit i hi
      · rw [e]
        exact trivial)
    (g := F0 m pc ls0 (.int n :: .int dp :: .ref a :: .int sp :: .ref a0 :: stk)) rfl (by show ls0.size = _; rw [hl.1]; exact C.2.2.2.1.symm) (rest := stk) rfl (by rw [C.2.1]; exact hd) (by show 1 ≤ d + 1; omega) (by show 2 * 0 + _ + _ ≤ 48 * (d + 1); have := (by decide +kernel : nativeFrameWords "java/lang/System" "arraycopy" 5 + 11 ≤ 32); omega)
  have e1 : copied (vp_cell (g_c G 0) (n0, .inl f)) (vp_cell (g_c G 0) (n1, .inl g)) sp dp n = vp_cell (g_c G 0) (n1, .inl (va_cpy f g sp.toNatClampNeg dp.toNatClampNeg n.toNatClampNeg)) := va_copied (fun z => .int z) (g_c G 0) (g_c G 0) f g h4
  rw [e1] at X' step
  have hlt : a < H.size := (Array.getElem?_eq_some_iff.mp hc1).1
  have hheap : ((T.setVm vm').setCell a (vp_cell (g_c G 0) (n1, .inl (va_cpy f g sp.toNatClampNeg dp.toNatClampNeg n.toNatClampNeg)))).heap = H.setIfInBounds a (vp_cell (g_c G 0) (n1, .inl (va_cpy f g sp.toNatClampNeg dp.toNatClampNeg n.toNatClampNeg))) := by rw [← hT]; rfl
  have oq : ∀ q : Nat, q ≠ a → (H.setIfInBounds a (vp_cell (g_c G 0) (n1, .inl (va_cpy f g sp.toNatClampNeg dp.toNatClampNeg n.toNatClampNeg))))[q]? = H[q]? := fun q hq => by simp [Array.getElem?_setIfInBounds, Ne.symm hq]
  obtain ⟨t, a1, b1⟩ := kk p e s m args below meth c _ _ ls0 C (hW.put ha (show (H.setIfInBounds a (vp_cell (g_c G 0) (n1, .inl (va_cpy f g sp.toNatClampNeg dp.toNatClampNeg n.toNatClampNeg))))[a]? = some (vp_cell _ _) by simp [Array.getElem?_setIfInBounds, hlt]; rfl) (by simp) oq) ⟨by simp; exact hS.1, fun q g1 g2 => by
      rw [oq q (fun e => g2 (by rw [e]; exact (hW.2 a _ ha).1))]
      exact hS.2.1 q g1 g2, fun q hq => by
      rcases List.mem_append.mp hq with h | h
      · exact hS.2.2 q h
      · obtain ⟨z, -, hz⟩ := List.mem_map.mp h
        rw [← hz]
        exact (hW.2 a _ ha).1⟩ hl _ hheap X'
  exact ⟨t, step t a1, b1⟩
theorem Ok.acopyB {i a0 a n0 n1 : Nat} {f g : Nat → Int32} {sp dp n : Int32} (hd : decode (m_cc M) pc = .ok (.invokestatic i, 3)) (hlink : Cond.methodLink (m_own M) i arraycopyName ∈ tbG) (hst : Cond.static arraycopyName ∈ tbG) (hna : Cond.native arraycopyName ∈ tbG) (hini : Cond.initialized "java/lang/System" ∈ tbG) (ha0 : h a0 = some (aB G n0 f)) (ha : h a = some (aB G n1 g)) (h1 : ¬ sp < 0) (h2 : ¬ dp < 0) (h3 : ¬ n < 0) (h4 : sp.toNatClampNeg + n.toNatClampNeg ≤ n0) (h5 : dp.toNatClampNeg + n.toNatClampNeg ≤ n1) (hfit : ∀ j, j < n.toNatClampNeg → fits .byte (.int (f (sp.toNatClampNeg + j))) = true) (hr : (stk.map fun v => v.category).sum ≤ 8)
    (kk : Ok G M d post (pc + 3) ls stk (hset h a (aB G n1 (cv_cpy f g sp.toNatClampNeg dp.toNatClampNeg n.toNatClampNeg))) nx kc ks) : Ok G M d post pc ls (.int n :: .int dp :: .ref a :: .int sp :: .ref a0 :: stk) h nx kc ks := by
  intro p e s m args below meth c H locs ls0 C hW hS hl
  have nnp : ∀ z : Int32, ¬ z < 0 → z.toInt = (z.toNatClampNeg : Int) := by
    intro z hz
    have hz0 : (0 : Int) ≤ z.toInt := by
      have := Int32.not_lt.mp hz
      simpa using Int32.le_iff_toInt_le.mp this
    show z.toInt = ((z.toInt.toNat : Nat) : Int)
    omega
  intro T hT X
  have hc0 : H[a0]? = some (vp_cell (g_c G 2) (n0, .inl f)) := (hW.2 a0 _ ha0).2
  have hc1 : H[a]? = some (vp_cell (g_c G 2) (n1, .inl g)) := (hW.2 a _ ha).2
  obtain ⟨-, k0, hk0, cm0, hkk0⟩ := (C.K.2 2 (g_c G 2, .byte) rfl).1 n0 (fun j => .int (f j))
  obtain ⟨-, k1, hk1, cm1, hkk1⟩ := (C.K.2 2 (g_c G 2, .byte) rfl).1 n1 (fun j => .int (g j))
  obtain ⟨vm', X', step⟩ := X.arraycopy C.1 C.2.2.2.2.1 (C.w hlink) (C.w hna) (C.w hst) (C.w hini) (src := a0) (dst := a) (cs := vp_cell (g_c G 2) (n0, .inl f)) (cd := vp_cell (g_c G 2) (n1, .inl g)) (srcPos := sp) (destPos := dp) (n := n) (by rw [hT]; exact hc0) (by rw [hT]; exact hc1)
    (fun _ h => by cases h) (fun _ h => by cases h) (fun h => by cases h) (fun h => by cases h) hk0 hk1 hkk0 hkk1 (by simp [refKind]) h1 h2 h3
    (by rw [nnp sp h1, nnp n h3]; show ¬ _ > ((arrV (g_c G 2) n0 (fun j => .int (f j))).slots.size : Int); rw [arrV_size]; omega)
    (by rw [nnp dp h2, nnp n h3]; show ¬ _ > ((arrV (g_c G 2) n1 (fun j => .int (g j))).slots.size : Int); rw [arrV_size]; omega)
    (fun vm₁ _ i hi => by
      have e : (vp_cell (g_c G 2) (n0, .inl f)).slots.getD (sp.toNatClampNeg + i) .null = .int (f (sp.toNatClampNeg + i)) := by
        show (arrV (g_c G 2) n0 (fun j => .int (f j))).slots.getD _ _ = _
        rw [Array.getD_eq_getD_getElem?, arrV_read _ _ (by omega)]
        rfl
      refine ⟨?_, ?_⟩
      · rw [e]
        exact hfit i hi
      · rw [e]
        exact trivial)
    (g := F0 m pc ls0 (.int n :: .int dp :: .ref a :: .int sp :: .ref a0 :: stk)) rfl (by show ls0.size = _; rw [hl.1]; exact C.2.2.2.1.symm) (rest := stk) rfl (by rw [C.2.1]; exact hd) (by show 1 ≤ d + 1; omega) (by show 2 * 0 + _ + _ ≤ 48 * (d + 1); have := (by decide +kernel : nativeFrameWords "java/lang/System" "arraycopy" 5 + 11 ≤ 32); omega)
  have e1 : copied (vp_cell (g_c G 2) (n0, .inl f)) (vp_cell (g_c G 2) (n1, .inl g)) sp dp n = vp_cell (g_c G 2) (n1, .inl (va_cpy f g sp.toNatClampNeg dp.toNatClampNeg n.toNatClampNeg)) := va_copied (fun z => .int z) (g_c G 2) (g_c G 2) f g h4
  rw [e1] at X' step
  have hlt : a < H.size := (Array.getElem?_eq_some_iff.mp hc1).1
  have hheap : ((T.setVm vm').setCell a (vp_cell (g_c G 2) (n1, .inl (va_cpy f g sp.toNatClampNeg dp.toNatClampNeg n.toNatClampNeg)))).heap = H.setIfInBounds a (vp_cell (g_c G 2) (n1, .inl (va_cpy f g sp.toNatClampNeg dp.toNatClampNeg n.toNatClampNeg))) := by rw [← hT]; rfl
  have oq : ∀ q : Nat, q ≠ a → (H.setIfInBounds a (vp_cell (g_c G 2) (n1, .inl (va_cpy f g sp.toNatClampNeg dp.toNatClampNeg n.toNatClampNeg))))[q]? = H[q]? := fun q hq => by simp [Array.getElem?_setIfInBounds, Ne.symm hq]
  obtain ⟨t, a1, b1⟩ := kk p e s m args below meth c _ _ ls0 C (hW.put ha (show (H.setIfInBounds a (vp_cell (g_c G 2) (n1, .inl (va_cpy f g sp.toNatClampNeg dp.toNatClampNeg n.toNatClampNeg))))[a]? = some (vp_cell _ _) by simp [Array.getElem?_setIfInBounds, hlt]; rfl) (by simp) oq) ⟨by simp; exact hS.1, fun q g1 g2 => by
      rw [oq q (fun e => g2 (by rw [e]; exact (hW.2 a _ ha).1))]
      exact hS.2.1 q g1 g2, fun q hq => by
      rcases List.mem_append.mp hq with h | h
      · exact hS.2.2 q h
      · obtain ⟨z, -, hz⟩ := List.mem_map.mp h
        rw [← hz]
        exact (hW.2 a _ ha).1⟩ hl _ hheap X'
  exact ⟨t, step t a1, b1⟩
theorem Ok.cloneB {i a n : Nat} {f : Nat → Int32} (hd : decode (m_cc M) pc = .ok (.invokevirtual i, 3)) (hlink : Cond.methodLink (m_own M) i ⟨"[B", "clone", "()Ljava/lang/Object;"⟩ ∈ tbG) (hsame : Cond.sameMethod "[B" "java/lang/Object" "clone" "()Ljava/lang/Object;" ∈ tbG) (hna : Cond.native ⟨"java/lang/Object", "clone", "()Ljava/lang/Object;"⟩ ∈ tbG) (hin : Cond.instanceMethod ⟨"java/lang/Object", "clone", "()Ljava/lang/Object;"⟩ ∈ tbG) (hsel : Cond.selects "[B" ⟨"[B", "clone", "()Ljava/lang/Object;"⟩ ⟨"java/lang/Object", "clone", "()Ljava/lang/Object;"⟩ ∈ tbG) (ha : h a = some (aB G n f)) (hfit : ∀ j, j < n → fits .byte (.int (f j)) = true) (hr : (stk.map fun v => v.category).sum ≤ 8) (h1 : kc + 1 ≤ m_mc M) (h2 : ks + n ≤ m_ms M)
    (kk : Ok G M d post (pc + 3) ls (.ref (g_B G + nx) :: stk) (hset h (g_B G + nx) (aB G n f)) (nx + 1) (kc + 1) (ks + n)) : Ok G M d post pc ls (.ref a :: stk) h nx kc ks := by
  intro p e s m args below meth c H locs ls0 C hW hS hl
  have hc := (hW.2 a _ ha).2
  have hP := hW.P ha
  obtain ⟨c0, t0', f1, f2, f3⟩ := Cond.castable_spec (va_Nw.use (A := args) rfl (C.2.2.2.2.2.2.2.2.2.2.2.2.2.1.2.1 ("[B", "java/lang/Cloneable") (by decide +kernel)))
  have hnm : s.vm.findClass "[B" = some (g_c G 2) := (C.K.2 2 (g_c G 2, .byte) rfl).2
  cases hnm.symm.trans f1
  intro T hT X
  have hcellT : T.heap[a]? = some (vp_cell (g_c G 2) (n, .inl f)) := by rw [hT]; exact hc
  have ht : (g_ty G)[2]? = some (g_c G 2, .byte) := rfl
  obtain ⟨-, kA, hkA, comp, hkind⟩ := State.isArrayOf_alike X.warmed.alike ((C.K.2 2 _ ht).1 0 (fun _ => .null))
  obtain ⟨-, kS, hkS, compS, hkindS⟩ := (C.K.2 2 _ ht).1 0 (fun _ => .null)
  have hsz : (vp_cell (g_c G 2) (n, .inl f)).slots.size = n := arrV_size _ _ _
  obtain ⟨vm', X', st⟩ := X.cloneArray C.1 C.2.2.2.2.1 (C.w hlink) (C.w hsame) (C.w hna) (C.w hin) (C.w hsel) (a := a) (cell := vp_cell (g_c G 2) (n, .inl f)) hcellT (fun k h => by cases h) (fun h => by cases h) hnm f2 f3
    (fun i v hv => by
      have hk' : T.vm.classes[g_c G 2]? = some kA := hkA
      have hi : i < n := by
        have := (Array.getElem?_eq_some_iff.mp hv).1
        rw [hsz] at this
        exact this
      have hv' : (arrV (g_c G 2) n (fun j => .int (f j))).slots[i]? = some v := hv
      rw [arrV_read _ _ hi] at hv'
      cases hv'
      have := hfit i hi
      rw [show (vp_cell (g_c G 2) (n, .inl f)).cls = g_c G 2 from rfl]
      simpa [State.fitsSlot, State.slotType?, hk', hkind] using this)
    (g := F0 m pc ls0 (.ref a :: stk)) rfl (by show ls0.size = _; rw [hl.1]; exact C.2.2.2.1.symm) rfl (by rw [C.2.1]; exact hd) (by show 1 ≤ d + 1; omega) (by show 2 * 0 + _ + 14 ≤ 48 * (d + 1); omega) h1 (by rw [hsz]; exact h2) (hloader := Vm.clonesLoader_of_array hkS hkindS)
  have hcellE : ({ cls := (vp_cell (g_c G 2) (n, .inl f)).cls, slots := (vp_cell (g_c G 2) (n, .inl f)).slots } : Cell) = vp_cell (g_c G 2) (n, .inl f) := rfl
  rw [hcellE, hsz] at X'
  generalize hH1 : H.push (vp_cell (g_c G 2) (n, .inl f)) = H1
  have z1 : H1.size = H.size + 1 := by rw [← hH1, Array.size_push]
  have e1 : H1[H.size]? = some (vp_cell (g_c G 2) (n, .inl f)) := by rw [← hH1, Array.getElem?_push_size]
  have o1 : ∀ q : Nat, q < H.size → H1[q]? = H[q]? := fun q hq => by rw [← hH1, Array.getElem?_push, if_neg (Nat.ne_of_lt hq)]
  obtain ⟨t, b1, b2⟩ := kk p e s m args below meth c H1 locs ls0 C (hW.push (e := aB G n f) (show H1[_]? = some (vp_cell _ _) by rw [← hW.1]; exact e1) z1 o1) ⟨Nat.le_trans hS.1 (by omega), fun y h1 h2 => (o1 y (Nat.lt_of_lt_of_le h1 hS.1)).trans (hS.2.1 y h1 h2), hS.2.2⟩ hl
    ((T.setVm vm').pushCell (vp_cell (g_c G 2) (n, .inl f))) (by rw [← hH1, ← hT]; rfl) X'
  refine ⟨t, st t ?_, b2⟩
  rw [hcellE, hT, hW.1]
  exact b1
theorem Ok.castB {i a n : Nat} {f : Nat → Int32} (hd : decode (m_cc M) pc = .ok (.checkcast i, 3)) (hcl : Cond.classLink (m_own M) i "[B" ∈ tbG) (ha : h a = some (aB G n f)) (kk : Ok G M d post (pc + 3) ls (.ref a :: stk) h nx kc ks) : Ok G M d post pc ls (.ref a :: stk) h nx kc ks := by
  intro p e s m args below meth c H locs ls0 C hW hS hl
  exact va_castA C.1 C.2.1 C.2.2.2.2.1 (C.w hcl) (hW.P ha) 0 rfl (C.K.2 2 (g_c G 2, .byte) rfl).2 hd (kk p e s m args below meth c H locs ls0 C hW hS hl)
theorem Ok.ldcS {i k : Nat} (hd : decode (m_cc M) pc = .ok (.ldc i, 2)) (hk : k < 12) (h1 : (txL.getD k ("", 0, "")).1 = m_own M) (h2 : (txL.getD k ("", 0, "")).2.1 = i) (kk : Ok G M d post (pc + 2) ls (.ref (g_sK G k) :: stk) h nx kc ks) : Ok G M d post pc ls stk h nx kc ks := by
  intro p e s m args below meth c H locs ls0 C hW hS hl
  have hR := C.2.2.2.2.2.2.2.2.2.2.2.2.1.2.1 k hk
  rw [h1, h2] at hR
  exact va_ldcS C.1 C.2.1 C.2.2.2.2.1 hR hd (kk p e s m args below meth c H locs ls0 C hW hS hl)
theorem Ok.mono {kc' ks' : Nat} (k : Ok G M d post pc ls stk h nx kc' ks') (h1 : kc ≤ kc') (h2 : ks ≤ ks') : Ok G M d post pc ls stk h nx kc ks := fun p e s m args below meth c H locs ls0 C hW hS hl => W.widen h1 h2 (k p e s m args below meth c H locs ls0 C hW hS hl)
end MORE
theorem mo_sub {vm : Vm} {a b : ClassId} {k : Class} (hk : vm.classes[a]? = some k) (hs : k.super = some b) : vm.isSubclass a b = true := by
  unfold Vm.isSubclass
  by_cases e : a = b
  · subst e
    simp [Vm.isSubclassAux]
  · cases hn : vm.classes.size with
    | zero => rw [Array.getElem?_eq_none (by omega)] at hk; cases hk
    | succ n => simp [Vm.isSubclassAux, hk, hs]
section MORE2
variable {G : Gx} {M My : Mt} {d : Nat} {post post' : Po} {pc : Nat} {ls : Lc} {stk : List Value} {h : Hp} {nx kc ks : Nat}
/-- a static method that a class above the named one declares -/
theorem Ok.callSI {i n : Nat} {x : MethodName} {owner : String} {As rest : List Value} (hd : decode (m_cc M) pc = .ok (.invokestatic i, 3)) (hC : Ct G My d post' As h nx) (hcode : Cond.code (m_y My) (m_cc My) (m_nL My) (m_rt My) ∈ tbG) (hini : Cond.initialized (m_y My).cls ∈ tbG) (hst : Cond.static (m_y My) ∈ tbG) (hlink : Cond.methodLink (m_own M) i x ∈ tbG) (hsm : Cond.sameMethod x.cls owner x.name x.desc ∈ tbG) (hyx : m_y My = ⟨owner, x.name, x.desc⟩) (hy : owner ≠ "java/lang/invoke/MethodHandle" ∧ owner ≠ "java/lang/invoke/VarHandle") (hlen : (parseMethodDescriptor (m_y My).desc).map (fun d => d.parameters.length) = some n) (hloc : m_nL My ≤ 29) (hn : As.length = n) (hstk : stk = As.reverse ++ rest) (hr : (rest.map fun v => v.category).sum ≤ 8) (h1 : kc + m_mc My ≤ m_mc M) (h2 : ks + m_ms My ≤ m_ms M)
    (k : ∀ (v : Option Value) (h' : Hp) (nx' : Nat), post' v h' nx' → Ok G M (d + 1) post (pc + 3) ls (v.toList ++ rest) h' nx' (kc + m_mc My) (ks + m_ms My)) : Ok G M (d + 1) post pc ls stk h nx kc ks := by
  intro p e s m args below meth c H locs ls0 C hW hS hl
  subst hstk
  have hini' := C.w hini
  have hcode' := C.w hcode
  have hK : Back (g_l G) (rmAt M (d + 1)) p e below s args (m_y My) 3 8 (PreOf (rmAt M (d + 1)) (m_mc My) (m_ms My) (PcOf G As h nx)) (PostOf (QcOf G post') (m_mc My) (m_ms My) (gA G)) := back_of (bytes := m_cc My) (maxL := m_nL My) (ret := m_rt My) hC Pc_blind rfl rfl (Nat.le_refl _) (by show 8 + (m_nL My + 11) + 48 * (d + 1) ≤ 48 * (d + 1 + 1); omega) (pay_in C.2.2.2.2.2.1 (gw_of hcode)) List.mem_cons_self (fun a' U hW => word_at hW (Or.inl (by first | rfl | simp [Cond.onTables, Cond.keeps, Cond.steady])) hini')
  refine call_fin (a := As.toArray) (mc := m_mc My) (ms := m_ms My) (rest := rest) (post' := post') hS ?_ (fun v h' nx' q H1 locs1 w1 s1 => k v h' nx' q p e s m args below meth c H1 locs1 ls0 C w1 s1 hl)
  intro T hT X
  obtain ⟨mk, hnamed⟩ := Cond.code_named hcode'
  obtain ⟨methM, cM, hmethM, -, -, -, -, -, -, hsigM⟩ := Cond.code_spec hnamed hcode'
  have hstatic : methM.isStatic = true := Cond.static_spec hnamed hmethM (C.w hst)
  obtain ⟨kP, hkP, -⟩ := className_of_methodNamed hnamed
  have hinitP : kP.init = .initialized := Cond.initialized_spec (findClass_of_methodNamed hnamed) hkP hini'
  have hln : As.length = methM.sig.parameters.length := by
    have h2 := hlen
    rw [hsigM] at h2
    exact hn.trans (Option.some.inj h2).symm
  have hdc : decode c.code (F0 m pc ls0 (As.reverse ++ rest)).pc = .ok (.invokestatic i, 3) := by rw [C.2.1]; exact hd
  obtain ⟨vm₁, X₁, hstep₁⟩ := X.invokestaticUp C.1 C.2.2.2.2.1 (C.w hlink) (C.w hsm) hy (m' := mk) (by rw [← hyx]; exact hnamed) hmethM hstatic hkP hinitP (g := F0 m pc ls0 (As.reverse ++ rest)) rfl (argsL := As) (rest := rest) hln rfl hdc
  obtain ⟨v, B, X', hpost, hsteps⟩ := hK m meth c ⟨T.setVm vm₁, locs, kc, ks⟩ { F0 m pc ls0 (As.reverse ++ rest) with stack := rest } (.invokestatic i) mk As.toArray X₁ rfl (by show ls0.size = _; rw [hl.1]; exact C.2.2.2.1.symm) hdc (rest_ok (pc := pc) (m := m) (ls0 := ls0) (st := As.reverse ++ rest) hr) (X₁.named hnamed) ⟨h1, h2, pre_of C hW hS (T.setVm vm₁) hT X₁.warmed⟩
  obtain ⟨U', l2, c2, s2⟩ := B
  obtain ⟨g', mk', t, L, e1, e2, hq, h5, hL, h6, h7⟩ := hpost
  dsimp only [Pt.U, Pt.locs, Pt.cells, Pt.slots] at X' e1 e2 h5 h6 h7 hsteps
  subst h5; subst h6; subst h7
  exact ⟨v, (T.setVm vm₁).calling g' mk' As.toArray, t, U', L, hT, X', hL, e1, e2, hq, fun target h => hstep₁ _ fun acts => by rw [doInvoke_state]; exact hsteps.trans h⟩
/-- super.m(..), m declared by the class above the superclass -/
theorem Ok.callSV {i n b ci : Nat} {r : vw_C} {x : MethodName} {owner : String} {fs : List Value} {As rest : List Value} (hd : decode (m_cc M) pc = .ok (.invokespecial i, 3)) (hC : Ct G My d post' (.ref b :: As) h nx) (hb : h b = some (ob ci fs)) (hcl : vwCl[ci]? = some r) (hcode : Cond.code (m_y My) (m_cc My) (m_nL My) (m_rt My) ∈ tbG) (hini : Cond.initialized (m_y My).cls ∈ tbG) (hin : Cond.instanceMethod (m_y My) ∈ tbG) (hlink : Cond.methodLink (m_own M) i x ∈ tbG) (hsm : Cond.sameMethod x.cls owner x.name x.desc ∈ tbG) (hyx : m_y My = ⟨owner, x.name, x.desc⟩) (hsup : Cond.superclass (m_own M) x.cls ∈ tbG) (hsup2 : Cond.superclass x.cls owner ∈ tbG) (hni : x.name ≠ "<init>") (hlen : (parseMethodDescriptor (m_y My).desc).map (fun d => d.parameters.length) = some n) (hloc : m_nL My ≤ 29) (hn : As.length = n) (hstk : stk = As.reverse ++ .ref b :: rest) (hr : (rest.map fun v => v.category).sum ≤ 8) (h1 : kc + m_mc My ≤ m_mc M) (h2 : ks + m_ms My ≤ m_ms M)
    (k : ∀ (v : Option Value) (h' : Hp) (nx' : Nat), post' v h' nx' → Ok G M (d + 1) post (pc + 3) ls (v.toList ++ rest) h' nx' (kc + m_mc My) (ks + m_ms My)) : Ok G M (d + 1) post pc ls stk h nx kc ks := by
  intro p e s m args below meth c H locs ls0 C hW hS hl
  subst hstk
  have hini' := C.w hini
  have hcode' := C.w hcode
  have hK : Back (g_l G) (rmAt M (d + 1)) p e below s args (m_y My) 3 8 (PreOf (rmAt M (d + 1)) (m_mc My) (m_ms My) (PcOf G (.ref b :: As) h nx)) (PostOf (QcOf G post') (m_mc My) (m_ms My) (gA G)) := back_of (bytes := m_cc My) (maxL := m_nL My) (ret := m_rt My) hC Pc_blind rfl rfl (Nat.le_refl _) (by show 8 + (m_nL My + 11) + 48 * (d + 1) ≤ 48 * (d + 1 + 1); omega) (pay_in C.2.2.2.2.2.1 (gw_of hcode)) List.mem_cons_self (fun a' U hW => word_at hW (Or.inl (by first | rfl | simp [Cond.onTables, Cond.keeps, Cond.steady])) hini')
  refine call_fin (a := (Value.ref b :: As).toArray) (mc := m_mc My) (ms := m_ms My) (rest := rest) (post' := post') hS ?_ (fun v h' nx' q H1 locs1 w1 s1 => k v h' nx' q p e s m args below meth c H1 locs1 ls0 C w1 s1 hl)
  obtain ⟨cellB, hcB, hoB, hclB⟩ := va_recv C.K (hW.P hb) hcl (q0 := 0) rfl
  obtain ⟨hfc, kB, hkB, -⟩ := (C.K.1 ci r hcl).2
  have hce := Option.some.inj (hfc.symm.trans hclB)
  rw [hce] at hkB
  intro T hT X
  obtain ⟨mk, methM, hnamed, hmethM, hstM, habM⟩ := Cond.instanceMethod_spec (C.w hin)
  obtain ⟨methM', cM, hmethM', -, -, -, -, -, -, hsigM⟩ := Cond.code_spec hnamed hcode'
  cases hmethM.symm.trans hmethM'
  obtain ⟨ps, dk, kp, hps, hdk, hkp, hsuper, -, -, hnid⟩ := Cond.superclass_spec C.2.2.2.2.1 (C.w hsup)
  obtain ⟨po, dk2, kp2, hpo, hdk2, hkp2, hsuper2, -, -, -⟩ := Cond.superclass_spec hps (C.w hsup2)
  have hnamed2 : s.methodNamed? ⟨owner, x.name, x.desc⟩ = some mk := by rw [← hyx]; exact hnamed
  have hpm : po = mk.cls := Option.some.inj (hpo.symm.trans (findClass_of_methodNamed hnamed2))
  have hsub : s.vm.isSubclass ps mk.cls = true := by rw [← hpm]; exact mo_sub hdk2 hsuper2
  have hln : As.length = methM.sig.parameters.length := by
    have h2 := hlen
    rw [hsigM] at h2
    exact hn.trans (Option.some.inj h2).symm
  have hdc : decode c.code (F0 m pc ls0 (As.reverse ++ .ref b :: rest)).pc = .ok (.invokespecial i, 3) := by rw [C.2.1]; exact hd
  obtain ⟨vm₁, X₁, hstep₁⟩ := X.invokespecialUp C.1 C.2.2.2.2.1 (C.w hlink) (C.w hsm) hnamed2 hmethM hstM habM hni hdk hnid hps hsuper hsub (a := b) (cell := cellB) (by rw [hT]; exact hcB)
    (fun z h => by rw [h] at hoB; cases hoB) hkB (g := F0 m pc ls0 (As.reverse ++ .ref b :: rest)) rfl (argsL := As) (rest := rest) hln rfl hdc
  obtain ⟨v, B, X', hpost, hsteps⟩ := hK m meth c ⟨T.setVm vm₁, locs, kc, ks⟩ { F0 m pc ls0 (As.reverse ++ .ref b :: rest) with stack := rest } (.invokespecial i) mk (Value.ref b :: As).toArray X₁ rfl (by show ls0.size = _; rw [hl.1]; exact C.2.2.2.1.symm) hdc (rest_ok (pc := pc) (m := m) (ls0 := ls0) (st := As.reverse ++ .ref b :: rest) hr) (X₁.named hnamed) ⟨h1, h2, pre_of C hW hS (T.setVm vm₁) hT X₁.warmed⟩
  obtain ⟨U', l2, c2, s2⟩ := B
  obtain ⟨g', mk', t, L, e1, e2, hq, h5, hL, h6, h7⟩ := hpost
  dsimp only [Pt.U, Pt.locs, Pt.cells, Pt.slots] at X' e1 e2 h5 h6 h7 hsteps
  subst h5; subst h6; subst h7
  exact ⟨v, (T.setVm vm₁).calling g' mk' (Value.ref b :: As).toArray, t, U', L, hT, X', hL, e1, e2, hq, fun target h => hstep₁ _ (by rw [doInvoke_state]; exact hsteps.trans h)⟩
end MORE2
