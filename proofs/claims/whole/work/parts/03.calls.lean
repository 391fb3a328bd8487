theorem ast_q {D : va_G} {cl : List vw_C} {cA : ClassId} {a n j v : Nat} {f : Nat → Option Nat} {H1 : Heap} (e : H1[a]? = some ((vp_cell cA (n, .inr (.inr (.inr (.inr f))))).setSlot j (.ref v))) : va_at D cl (a, .inl (cA, n, .inr (.inr (.inr (.inr (va_up f j (some v))))))) H1 := by
  show H1[a]? = some (vp_cell _ _)
  rw [e, vp_cell_q, vp_cell_q, arrV_store]
  congr 2
  funext q
  by_cases hq : q = j
  · subst hq
    simp [updV, va_up, va_rf]
  · simp [updV, va_up, hq]
theorem ast_qN {D : va_G} {cl : List vw_C} {cA : ClassId} {a n j : Nat} {f : Nat → Option Nat} {H1 : Heap} (e : H1[a]? = some ((vp_cell cA (n, .inr (.inr (.inr (.inr f))))).setSlot j .null)) : va_at D cl (a, .inl (cA, n, .inr (.inr (.inr (.inr (va_up f j none)))))) H1 := by
  show H1[a]? = some (vp_cell _ _)
  rw [e, vp_cell_q, vp_cell_q, arrV_store]
  congr 2
  funext q
  by_cases hq : q = j
  · subst hq
    simp [updV, va_up, va_rf]
  · simp [updV, va_up, hq]
theorem cls_of {s : State} {C : String} {c : ClassId} (h : s.vm.findClass C = some c) : ∃ kk : Class, s.vm.classes[c]? = some kk := by
  unfold Vm.findClass at h
  obtain ⟨h1, -⟩ := Array.findIdx?_eq_some_iff_getElem.mp h
  exact ⟨s.vm.classes[c], Array.getElem?_eq_getElem h1⟩
/-! CALLS: what stays moves along; new cells; ends; contracts (Ct) and calls. -/
theorem va_AOA.spec {t : FieldType} {s : State} (h : va_AOA (.array t) s ∨ va_AOA t s) (h2 : va_AOA t s) : ∃ comp c k, s.vm.findClass (FieldType.array t).toString = some comp ∧ (s.vm.classes.findIdx? fun x => match x.kind with | .array component _ => component == comp | _ => false) = some c ∧ s.vm.classes[c]? = some k ∧ k.kind = .array comp (.array t) ∧ s.vm.findClass ("[" ++ (FieldType.array t).toString) = some c := by
  have h := h2
  unfold va_AOA Cond.before at h
  simp only [Cond.holds, Cond.value, beq_iff_eq] at h
  cases hc : s.vm.findClass (FieldType.array t).toString with
  | none => simp [hc] at h
  | some comp =>
    simp only [hc, Option.bind_some, Option.bind_eq_some_iff, Option.map_eq_some_iff] at h
    obtain ⟨c, hi, k, hk, hb⟩ := h
    obtain ⟨hlt, hp, -⟩ := Array.findIdx?_eq_some_iff_getElem.mp hi
    have hkk : s.vm.classes[c] = k := (Array.getElem?_eq_some_iff.mp hk).2
    rw [hkk] at hp
    cases hkind : k.kind with
    | array component ty =>
      rw [hkind] at hb hp
      simp at hb hp
      exact ⟨comp, c, k, rfl, hi, hk, by rw [hkind, hp, hb.1], hb.2⟩
    | _ => rw [hkind] at hb; simp at hb
theorem va_AOA.moved {ty : FieldType} {u U : State} (hvm : u.vm.Alike U.vm) (h : va_AOA ty u) : va_AOA ty U := by
  obtain ⟨comp, c, k, h1, h2, h3, h4, h5⟩ := va_AOA.spec (Or.inr h) h
  obtain ⟨k', hk', he⟩ := hvm.2.2 _ _ h3
  have hi : (U.vm.classes.findIdx? fun (x : Class) => match x.kind with | .array component _ => component == comp | _ => false) = some c := by
    have hb : U.vm.bare = u.vm.bare := by first | exact hvm.bare_eq | exact hvm.bare_eq.symm
    exact ((va_idx_bare U.vm comp).symm.trans ((congrArg (fun v : Vm => Array.findIdx? (fun (x : Class) => match x.kind with | .array component _ => component == comp | _ => false) v.classes) hb).trans (va_idx_bare u.vm comp))).trans h2
  have hkind : k'.kind = .array comp (.array ty) := by rw [he]; exact h4
  have f1 : U.vm.findClass (FieldType.array ty).toString = some comp := by rw [hvm.findClass]; exact h1
  have f2 : U.vm.findClass ("[" ++ (FieldType.array ty).toString) = some c := by rw [hvm.findClass]; exact h5
  unfold va_AOA Cond.before Cond.holds
  simp only [Cond.value, f1, Option.bind_some]
  refine (congrArg (fun o : Option Nat => (o.bind (fun c => (U.vm.classes[c]?).map fun (k : Class) => match k.kind with | .array _ ty' => decide (ty' = FieldType.array ty) && decide (U.vm.findClass ("[" ++ (FieldType.array ty).toString) = some c) | _ => false) == some true)) hi).trans ?_
  simp [hk', hkind, f2]
/-- the state behind some calls: its heap keeps what lies below the base -/
theorem RO.warm {G : Gx} {s U : State} {H : Heap} {locs : List Loc} (h : RO G s s.heap) (hW : s.WarmedH U.vm) (hS : va_S (gA G) s.heap H locs) : RO G U H := by
  obtain ⟨a1, a2, a3, a4, ⟨b1, b2, b3, b4⟩, ⟨c1, c2, c3⟩, a6, a7, a8⟩ := h
  have hv := hW.alike
  refine ⟨a1.moved hv, (a2.kept (hS.2.1 _ (Nat.lt_of_lt_of_le a3 a4) (Nat.not_le.mpr a3))).moved hv, a3, Nat.le_trans a4 hS.1, ⟨(b1.kept hS.2.1).moved hv, fun i hi => (b2 i hi).warm hW, (b3.kept hS.2.1).moved hv, (b4.kept hS.2.1).moved hv⟩, ⟨fun q hq => (c1 q hq).moved hv, fun q hq => (c2 q hq).warmC hW, fun q hq => (c3 q hq).warmM hW⟩, a6.moved hv, a7.moved hv, a8.moved hv⟩
theorem RO.same {G : Gx} {u U : State} {H : Heap} (h : RO G u H) (hv : U.vm = u.vm) : RO G U H := by
  obtain ⟨a1, a2, a3, a4, ⟨b1, b2, b3, b4⟩, ⟨c1, c2, c3⟩, a6, a7, a8⟩ := h
  have hA : u.vm.Alike U.vm := by rw [hv]; exact Vm.Alike.refl _
  exact ⟨a1.moved hA, a2.moved hA, a3, a4, ⟨b1.moved hA, fun i hi => (b2 i hi).same hv, b3.moved hA, b4.moved hA⟩, ⟨fun q hq => (c1 q hq).moved hA, fun q hq => va_Nw.same rfl hv.symm (c2 q hq), fun q hq => va_Nw.same rfl hv.symm (c3 q hq)⟩, a6.moved hA, a7.moved hA, a8.moved hA⟩
section OK3
variable {G : Gx} {M : Mt} {d : Nat} {post : Po} {pc : Nat} {ls : Lc} {stk : List Value} {h : Hp} {nx kc ks : Nat}
theorem Ok.new {Cn : String} {T : u_T} {N ci i : Nat} {fs : List Value} (hd : decode (m_cc M) pc = .ok (.new i, 3)) (hc : vwCl[ci]? = some (Cn, T, N)) (hin : ∀ w ∈ u_ws Cn T N, w ∈ tbG) (ty0 : Nat → FieldType) (hty : ∀ k, k < N → parseFieldDescriptor (T k).2.2.1 = some (ty0 k)) (hcl : Cond.classLink (m_own M) i Cn ∈ tbG) (hins : Cond.instantiable Cn N ∈ tbG) (hini : Cond.initialized Cn ∈ tbG) (hfs : ∀ j, j < N → defaultValue (ty0 j) = vp_V fs j) (h1 : kc + 1 ≤ m_mc M) (h2 : ks + N ≤ m_ms M) (k : Ok G M d post (pc + 3) ls (.ref (g_B G + nx) :: stk) (hset h (g_B G + nx) (ob ci fs)) (nx + 1) (kc + 1) (ks + N)) : Ok G M d post pc ls stk h nx kc ks := by
  intro p e s m args below meth c H locs ls0 C hW hS hl
  have hKn := C.K.1 ci _ hc
  refine W.newcK C.1 C.2.1 C.2.2.2.2.1 (C.w hcl) (C.w hins) (C.w hini) rfl hd h1 h2 hKn.2.1 hW.1 fun H1 kC hkC e1 z1 o1 => ?_
  refine k p e s m args below meth c H1 locs ls0 C (hW.push ⟨_, hc, (u_born ty0 C.2.2.2.2.2.1 hin hKn hkC e1 hty).to hfs⟩ (by rw [z1, hW.1]) (fun q hq => o1 q (by rw [← hW.1]; exact hq))) ⟨Nat.le_trans hS.1 (by rw [z1, hW.1]; exact Nat.le_succ _), fun x q1 q2 => (o1 x (by rw [← hW.1]; exact Nat.lt_of_lt_of_le q1 hS.1)).trans (hS.2.1 x q1 q2), hS.2.2⟩ hl
theorem Ok.newaI {n : Int32} {N : Nat} (hd : decode (m_cc M) pc = .ok (.newarray .int, 2)) (hw : Cond.arrayClass .int ∈ tbG) (hn : ¬ n < 0) (hN : n.toNatClampNeg = N) (hb : N * componentBytes .int ≤ 536870912) (h1 : kc + 1 ≤ m_mc M) (h2 : ks + N ≤ m_ms M) (k : Ok G M d post (pc + 2) ls (.ref (g_B G + nx) :: stk) (hset h (g_B G + nx) (aI G N (fun _ => (0 : Int32)))) (nx + 1) (kc + 1) (ks + N)) : Ok G M d post pc ls (.int n :: stk) h nx kc ks := by
  intro p e s m args below meth c H locs ls0 C hW hS hl
  refine va_newaK (atype := .int) C.1 C.2.1 (C.w hw) rfl hd rfl hn hN hb h1 h2 hW.1 fun H1 cA e1 z1 o1 hAr hNm => ?_
  have hcA : cA = g_c G 0 := Option.some.inj (hNm.symm.trans (C.K.2 0 (g_c G 0, .int) rfl).2)
  subst hcA
  refine k p e s m args below meth c H1 locs ls0 C (hW.push (e := aI G N (fun _ => (0 : Int32))) (show H1[_]? = some (vp_cell _ _) from e1) (by rw [z1, hW.1]) (fun q hq => o1 q (by rw [← hW.1]; exact hq))) ⟨Nat.le_trans hS.1 (by rw [z1, hW.1]; exact Nat.le_succ _), fun x q1 q2 => (o1 x (by rw [← hW.1]; exact Nat.lt_of_lt_of_le q1 hS.1)).trans (hS.2.1 x q1 q2), hS.2.2⟩ hl
theorem Ok.newaJ {n : Int32} {N : Nat} (hd : decode (m_cc M) pc = .ok (.newarray .long, 2)) (hw : Cond.arrayClass .long ∈ tbG) (hn : ¬ n < 0) (hN : n.toNatClampNeg = N) (hb : N * componentBytes .long ≤ 536870912) (h1 : kc + 1 ≤ m_mc M) (h2 : ks + N ≤ m_ms M) (k : Ok G M d post (pc + 2) ls (.ref (g_B G + nx) :: stk) (hset h (g_B G + nx) (aJ G N (fun _ => (0 : Int64)))) (nx + 1) (kc + 1) (ks + N)) : Ok G M d post pc ls (.int n :: stk) h nx kc ks := by
  intro p e s m args below meth c H locs ls0 C hW hS hl
  refine va_newaK (atype := .long) C.1 C.2.1 (C.w hw) rfl hd rfl hn hN hb h1 h2 hW.1 fun H1 cA e1 z1 o1 hAr hNm => ?_
  have hcA : cA = g_c G 1 := Option.some.inj (hNm.symm.trans (C.K.2 1 (g_c G 1, .long) rfl).2)
  subst hcA
  refine k p e s m args below meth c H1 locs ls0 C (hW.push (e := aJ G N (fun _ => (0 : Int64))) (show H1[_]? = some (vp_cell _ _) from e1) (by rw [z1, hW.1]) (fun q hq => o1 q (by rw [← hW.1]; exact hq))) ⟨Nat.le_trans hS.1 (by rw [z1, hW.1]; exact Nat.le_succ _), fun x q1 q2 => (o1 x (by rw [← hW.1]; exact Nat.lt_of_lt_of_le q1 hS.1)).trans (hS.2.1 x q1 q2), hS.2.2⟩ hl
theorem Ok.newaB {n : Int32} {N : Nat} (hd : decode (m_cc M) pc = .ok (.newarray .byte, 2)) (hw : Cond.arrayClass .byte ∈ tbG) (hn : ¬ n < 0) (hN : n.toNatClampNeg = N) (hb : N * componentBytes .byte ≤ 536870912) (h1 : kc + 1 ≤ m_mc M) (h2 : ks + N ≤ m_ms M) (k : Ok G M d post (pc + 2) ls (.ref (g_B G + nx) :: stk) (hset h (g_B G + nx) (aB G N (fun _ => (0 : Int32)))) (nx + 1) (kc + 1) (ks + N)) : Ok G M d post pc ls (.int n :: stk) h nx kc ks := by
  intro p e s m args below meth c H locs ls0 C hW hS hl
  refine va_newaK (atype := .byte) C.1 C.2.1 (C.w hw) rfl hd rfl hn hN hb h1 h2 hW.1 fun H1 cA e1 z1 o1 hAr hNm => ?_
  have hcA : cA = g_c G 2 := Option.some.inj (hNm.symm.trans (C.K.2 2 (g_c G 2, .byte) rfl).2)
  subst hcA
  refine k p e s m args below meth c H1 locs ls0 C (hW.push (e := aB G N (fun _ => (0 : Int32))) (show H1[_]? = some (vp_cell _ _) from e1) (by rw [z1, hW.1]) (fun q hq => o1 q (by rw [← hW.1]; exact hq))) ⟨Nat.le_trans hS.1 (by rw [z1, hW.1]; exact Nat.le_succ _), fun x q1 q2 => (o1 x (by rw [← hW.1]; exact Nat.lt_of_lt_of_le q1 hS.1)).trans (hS.2.1 x q1 q2), hS.2.2⟩ hl
theorem Ok.newaZ {n : Int32} {N : Nat} (hd : decode (m_cc M) pc = .ok (.newarray .boolean, 2)) (hw : Cond.arrayClass .boolean ∈ tbG) (hn : ¬ n < 0) (hN : n.toNatClampNeg = N) (hb : N * componentBytes .boolean ≤ 536870912) (h1 : kc + 1 ≤ m_mc M) (h2 : ks + N ≤ m_ms M) (k : Ok G M d post (pc + 2) ls (.ref (g_B G + nx) :: stk) (hset h (g_B G + nx) (aZ G N (fun _ => (0 : Int32)))) (nx + 1) (kc + 1) (ks + N)) : Ok G M d post pc ls (.int n :: stk) h nx kc ks := by
  intro p e s m args below meth c H locs ls0 C hW hS hl
  refine va_newaK (atype := .boolean) C.1 C.2.1 (C.w hw) rfl hd rfl hn hN hb h1 h2 hW.1 fun H1 cA e1 z1 o1 hAr hNm => ?_
  have hcA : cA = g_c G 3 := Option.some.inj (hNm.symm.trans (C.K.2 3 (g_c G 3, .boolean) rfl).2)
  subst hcA
  refine k p e s m args below meth c H1 locs ls0 C (hW.push (e := aZ G N (fun _ => (0 : Int32))) (show H1[_]? = some (vp_cell _ _) from e1) (by rw [z1, hW.1]) (fun q hq => o1 q (by rw [← hW.1]; exact hq))) ⟨Nat.le_trans hS.1 (by rw [z1, hW.1]; exact Nat.le_succ _), fun x q1 q2 => (o1 x (by rw [← hW.1]; exact Nat.lt_of_lt_of_le q1 hS.1)).trans (hS.2.1 x q1 q2), hS.2.2⟩ hl
theorem Ok.anewS {n : Int32} {i : Nat} {N : Nat} (hd : decode (m_cc M) pc = .ok (.anewarray i, 3)) (hcl : Cond.classLink (m_own M) i "GateWatch$Sort" ∈ tbG) (hn : ¬ n < 0) (hN : n.toNatClampNeg = N) (hb : N * 4 ≤ 536870912) (h1 : kc + 1 ≤ m_mc M) (h2 : ks + N ≤ m_ms M) (k : Ok G M d post (pc + 3) ls (.ref (g_B G + nx) :: stk) (hset h (g_B G + nx) (aS G N (fun _ => none))) (nx + 1) (kc + 1) (ks + N)) : Ok G M d post pc ls (.int n :: stk) h nx kc ks := by
  intro p e s m args below meth c H locs ls0 C hW hS hl
  subst hN
  have hover : va_AO "GateWatch$Sort" s := C.2.2.2.2.2.2.2.2.2.2.2.2.2.2.1
  refine W.anew C.1 C.2.1 C.2.2.2.2.1 (C.w hcl) (va_AO.use hover) rfl hd rfl hn hb h1 h2 fun cA kA comp f1 f2 f3 f4 => ?_
  obtain ⟨kA', comp', -, -, -, g4⟩ := (C.K.2 4 (g_c G 4, .object "GateWatch$Sort") rfl).2
  have hcA : cA = g_c G 4 := Option.some.inj (f1.symm.trans g4)
  subst hcA
  generalize hH1 : H.push ({ cls := g_c G 4, slots := Array.replicate n.toNatClampNeg .null, vm := .none } : Cell) = H1
  have z1 : H1.size = H.size + 1 := by rw [← hH1, Array.size_push]
  have e1 : H1[H.size]? = some (arrV (g_c G 4) n.toNatClampNeg (fun _ => .null)) := by rw [← hH1, Array.getElem?_push_size, ← arrV_new]
  have o1 : ∀ q : Nat, q < H.size → H1[q]? = H[q]? := fun q hq => by rw [← hH1, Array.getElem?_push, if_neg (Nat.ne_of_lt hq)]
  refine W.eq (g2 := F0 m (pc + 3) ls0 (.ref (g_B G + nx) :: stk)) (by rw [← hW.1]) ?_
  refine k p e s m args below meth c H1 locs ls0 C (hW.push (e := aS G n.toNatClampNeg (fun _ => none)) (show H1[_]? = some (vp_cell _ _) by rw [vp_cell_q, ← hW.1]; exact e1) z1 o1) ⟨Nat.le_trans hS.1 (by rw [z1]; exact Nat.le_succ _), fun x q1 q2 => (o1 x (Nat.lt_of_lt_of_le q1 hS.1)).trans (hS.2.1 x q1 q2), hS.2.2⟩ hl
theorem Ok.anewP {n : Int32} {i : Nat} {N : Nat} (hd : decode (m_cc M) pc = .ok (.anewarray i, 3)) (hcl : Cond.classLink (m_own M) i "GateWatch$Plan" ∈ tbG) (hn : ¬ n < 0) (hN : n.toNatClampNeg = N) (hb : N * 4 ≤ 536870912) (h1 : kc + 1 ≤ m_mc M) (h2 : ks + N ≤ m_ms M) (k : Ok G M d post (pc + 3) ls (.ref (g_B G + nx) :: stk) (hset h (g_B G + nx) (aP G N (fun _ => none))) (nx + 1) (kc + 1) (ks + N)) : Ok G M d post pc ls (.int n :: stk) h nx kc ks := by
  intro p e s m args below meth c H locs ls0 C hW hS hl
  subst hN
  have hover : va_AO "GateWatch$Plan" s := C.2.2.2.2.2.2.2.2.2.2.2.2.2.2.2.1
  refine W.anew C.1 C.2.1 C.2.2.2.2.1 (C.w hcl) (va_AO.use hover) rfl hd rfl hn hb h1 h2 fun cA kA comp f1 f2 f3 f4 => ?_
  obtain ⟨kA', comp', -, -, -, g4⟩ := (C.K.2 5 (g_c G 5, .object "GateWatch$Plan") rfl).2
  have hcA : cA = g_c G 5 := Option.some.inj (f1.symm.trans g4)
  subst hcA
  generalize hH1 : H.push ({ cls := g_c G 5, slots := Array.replicate n.toNatClampNeg .null, vm := .none } : Cell) = H1
  have z1 : H1.size = H.size + 1 := by rw [← hH1, Array.size_push]
  have e1 : H1[H.size]? = some (arrV (g_c G 5) n.toNatClampNeg (fun _ => .null)) := by rw [← hH1, Array.getElem?_push_size, ← arrV_new]
  have o1 : ∀ q : Nat, q < H.size → H1[q]? = H[q]? := fun q hq => by rw [← hH1, Array.getElem?_push, if_neg (Nat.ne_of_lt hq)]
  refine W.eq (g2 := F0 m (pc + 3) ls0 (.ref (g_B G + nx) :: stk)) (by rw [← hW.1]) ?_
  refine k p e s m args below meth c H1 locs ls0 C (hW.push (e := aP G n.toNatClampNeg (fun _ => none)) (show H1[_]? = some (vp_cell _ _) by rw [vp_cell_q, ← hW.1]; exact e1) z1 o1) ⟨Nat.le_trans hS.1 (by rw [z1]; exact Nat.le_succ _), fun x q1 q2 => (o1 x (Nat.lt_of_lt_of_le q1 hS.1)).trans (hS.2.1 x q1 q2), hS.2.2⟩ hl
theorem Ok.sast {a n v ci : Nat} {r : vw_C} {vs : List Value} {f : Nat → Option Nat} {i : Int32} (hd : decode (m_cc M) pc = .ok (.aastore, 1)) (ha : h a = some (aS G n f)) (hi : vp_in i n) (hv : h v = some (ob ci vs)) (hc : vwCl[ci]? = some r) (hk : r.1 = "GateWatch$Sort" ∨ (r.1, "GateWatch$Sort") ∈ csL) (k : Ok G M d post (pc + 1) ls stk (hset h a (aS G n (va_up f i.toNatClampNeg (some v)))) nx kc ks) : Ok G M d post pc ls (.ref v :: .int i :: .ref a :: stk) h nx kc ks := by
  intro p e s m args below meth c H locs ls0 C hW hS hl
  have hlt : i.toNatClampNeg < n := Nat.not_le.mp fun q => hi (Or.inr q)
  have h0 : ¬ i < 0 := fun q => hi (Or.inl q)
  obtain ⟨r', hr', cellV, g1, g2, g3, -⟩ := (hW.2 v _ hv).2
  have hcls := (C.K.1 ci r hc).2
  obtain ⟨kA, comp, k1, k2, k3, -⟩ := (C.K.2 4 (g_c G 4, .object "GateWatch$Sort") rfl).2
  obtain ⟨kC, hkC, -⟩ := hcls.2
  have hasg : s.vm.assignable (g_D G |>.1 ci) comp = true := by
    rcases hk with q | q
    · have hcomp : comp = (g_D G).1 ci := Option.some.inj (k3.symm.trans (by rw [← q]; exact hcls.1))
      rw [hcomp]
      exact va_assign hcls
    · obtain ⟨c0, t9, f1, f2, f3⟩ := Cond.castable_spec (va_Nw.use (A := args) rfl (C.2.2.2.2.2.2.2.2.2.2.2.2.2.1.2.1 _ q))
      cases f1.symm.trans hcls.1
      cases f2.symm.trans k3
      exact f3
  obtain ⟨kcomp, hkcomp⟩ : ∃ kk : Class, s.vm.classes[comp]? = some kk := cls_of k3
  refine W.aast C.1 C.2.1 ((hW.P ha) 0 _ rfl) (fun q h => by cases h) (fun h => by cases h) k1 k2 rfl hkcomp ⟨h0, by show _ < (arrV _ _ _).slots.size; rw [arrV_size]; exact hlt⟩ g1 (fun q h => by rw [g3] at h; cases h) (by rw [g2]; exact hkC) (by rw [g2]; exact hasg) rfl rfl hd fun H1 e1 z1 o1 => ?_
  refine k p e s m args below meth c H1 _ ls0 C (hW.put ha ?_ z1 o1) (hS.put z1 o1 (hW.2 a _ ha).1) hl
  exact ast_q e1
theorem Ok.sastN {a n : Nat} {f : Nat → Option Nat} {i : Int32} (hd : decode (m_cc M) pc = .ok (.aastore, 1)) (ha : h a = some (aS G n f)) (hi : vp_in i n) (k : Ok G M d post (pc + 1) ls stk (hset h a (aS G n (va_up f i.toNatClampNeg none))) nx kc ks) : Ok G M d post pc ls (.null :: .int i :: .ref a :: stk) h nx kc ks := by
  intro p e s m args below meth c H locs ls0 C hW hS hl
  refine va_WaastN (C := "GateWatch$Sort") C.1 C.2.1 ((hW.P ha) 0 _ rfl) ((C.K.2 4 (g_c G 4, .object "GateWatch$Sort") rfl).1 n (fun j => va_rf (f j))) (fun h => by cases h) (by show ¬ (i < 0 ∨ (arrV _ _ _).slots.size ≤ _); rw [arrV_size]; exact hi) rfl rfl hd fun H1 e1 z1 o1 => ?_
  refine k p e s m args below meth c H1 _ ls0 C (hW.put ha ?_ z1 o1) (hS.put z1 o1 (hW.2 a _ ha).1) hl
  exact ast_qN e1
theorem Ok.past {a n v ci : Nat} {r : vw_C} {vs : List Value} {f : Nat → Option Nat} {i : Int32} (hd : decode (m_cc M) pc = .ok (.aastore, 1)) (ha : h a = some (aP G n f)) (hi : vp_in i n) (hv : h v = some (ob ci vs)) (hc : vwCl[ci]? = some r) (hk : r.1 = "GateWatch$Plan" ∨ (r.1, "GateWatch$Plan") ∈ csL) (k : Ok G M d post (pc + 1) ls stk (hset h a (aP G n (va_up f i.toNatClampNeg (some v)))) nx kc ks) : Ok G M d post pc ls (.ref v :: .int i :: .ref a :: stk) h nx kc ks := by
  intro p e s m args below meth c H locs ls0 C hW hS hl
  have hlt : i.toNatClampNeg < n := Nat.not_le.mp fun q => hi (Or.inr q)
  have h0 : ¬ i < 0 := fun q => hi (Or.inl q)
  obtain ⟨r', hr', cellV, g1, g2, g3, -⟩ := (hW.2 v _ hv).2
  have hcls := (C.K.1 ci r hc).2
  obtain ⟨kA, comp, k1, k2, k3, -⟩ := (C.K.2 5 (g_c G 5, .object "GateWatch$Plan") rfl).2
  obtain ⟨kC, hkC, -⟩ := hcls.2
  have hasg : s.vm.assignable (g_D G |>.1 ci) comp = true := by
    rcases hk with q | q
    · have hcomp : comp = (g_D G).1 ci := Option.some.inj (k3.symm.trans (by rw [← q]; exact hcls.1))
      rw [hcomp]
      exact va_assign hcls
    · obtain ⟨c0, t9, f1, f2, f3⟩ := Cond.castable_spec (va_Nw.use (A := args) rfl (C.2.2.2.2.2.2.2.2.2.2.2.2.2.1.2.1 _ q))
      cases f1.symm.trans hcls.1
      cases f2.symm.trans k3
      exact f3
  obtain ⟨kcomp, hkcomp⟩ : ∃ kk : Class, s.vm.classes[comp]? = some kk := cls_of k3
  refine W.aast C.1 C.2.1 ((hW.P ha) 0 _ rfl) (fun q h => by cases h) (fun h => by cases h) k1 k2 rfl hkcomp ⟨h0, by show _ < (arrV _ _ _).slots.size; rw [arrV_size]; exact hlt⟩ g1 (fun q h => by rw [g3] at h; cases h) (by rw [g2]; exact hkC) (by rw [g2]; exact hasg) rfl rfl hd fun H1 e1 z1 o1 => ?_
  refine k p e s m args below meth c H1 _ ls0 C (hW.put ha ?_ z1 o1) (hS.put z1 o1 (hW.2 a _ ha).1) hl
  exact ast_q e1
theorem Ok.pastN {a n : Nat} {f : Nat → Option Nat} {i : Int32} (hd : decode (m_cc M) pc = .ok (.aastore, 1)) (ha : h a = some (aP G n f)) (hi : vp_in i n) (k : Ok G M d post (pc + 1) ls stk (hset h a (aP G n (va_up f i.toNatClampNeg none))) nx kc ks) : Ok G M d post pc ls (.null :: .int i :: .ref a :: stk) h nx kc ks := by
  intro p e s m args below meth c H locs ls0 C hW hS hl
  refine va_WaastN (C := "GateWatch$Plan") C.1 C.2.1 ((hW.P ha) 0 _ rfl) ((C.K.2 5 (g_c G 5, .object "GateWatch$Plan") rfl).1 n (fun j => va_rf (f j))) (fun h => by cases h) (by show ¬ (i < 0 ∨ (arrV _ _ _).slots.size ≤ _); rw [arrV_size]; exact hi) rfl rfl hd fun H1 e1 z1 o1 => ?_
  refine k p e s m args below meth c H1 _ ls0 C (hW.put ha ?_ z1 o1) (hS.put z1 o1 (hW.2 a _ ha).1) hl
  exact ast_qN e1
theorem Ok.instY {ci a i : Nat} {r : vw_C} {nm : String} {fs : List Value} (hd : decode (m_cc M) pc = .ok (.instanceof i, 3)) (hcl : Cond.classLink (m_own M) i nm ∈ tbG) (hc : vwCl[ci]? = some r) (ha : h a = some (ob ci fs)) (hk : (r.1, nm) ∈ csL) (k : Ok G M d post (pc + 3) ls (.int 1 :: stk) h nx kc ks) : Ok G M d post pc ls (.ref a :: stk) h nx kc ks := by
  intro p e s m args below meth c H locs ls0 C hW hS hl
  exact va_instY C.1 C.2.1 C.2.2.2.2.1 (C.w hcl) (C.2.2.2.2.2.2.2.2.2.2.2.2.2.1.2.1 _ hk) (va_recv C.K (hW.P ha) hc (q0 := 0) rfl) hd (k p e s m args below meth c H locs ls0 C hW hS hl)
theorem Ok.instE {ci a i : Nat} {r : vw_C} {fs : List Value} (hd : decode (m_cc M) pc = .ok (.instanceof i, 3)) (hcl : Cond.classLink (m_own M) i r.1 ∈ tbG) (hc : vwCl[ci]? = some r) (ha : h a = some (ob ci fs)) (k : Ok G M d post (pc + 3) ls (.int 1 :: stk) h nx kc ks) : Ok G M d post pc ls (.ref a :: stk) h nx kc ks := by
  intro p e s m args below meth c H locs ls0 C hW hS hl
  exact va_instS C.1 C.2.1 C.2.2.2.2.1 (C.w hcl) (C.K.1 ci r hc).2 (va_recv C.K (hW.P ha) hc (q0 := 0) rfl) hd (k p e s m args below meth c H locs ls0 C hW hS hl)
theorem Ok.instNo {ci a i : Nat} {r : vw_C} {nm : String} {fs : List Value} (hd : decode (m_cc M) pc = .ok (.instanceof i, 3)) (hcl : Cond.classLink (m_own M) i nm ∈ tbG) (hc : vwCl[ci]? = some r) (ha : h a = some (ob ci fs)) (hk : (r.1, nm) ∈ ncL) (k : Ok G M d post (pc + 3) ls (.int 0 :: stk) h nx kc ks) : Ok G M d post pc ls (.ref a :: stk) h nx kc ks := by
  intro p e s m args below meth c H locs ls0 C hW hS hl
  exact va_instNo C.1 C.2.1 C.2.2.2.2.1 (C.w hcl) (C.2.2.2.2.2.2.2.2.2.2.2.2.2.1.1 _ hk) (va_recv C.K (hW.P ha) hc (q0 := 0) rfl) hd (k p e s m args below meth c H locs ls0 C hW hS hl)
/-- ends -/
theorem Ok.iret {v : Int32} (hd : decode (m_cc M) pc = .ok (.ireturn, 1)) (hr : m_rt M = some .int) (h1 : kc ≤ m_mc M) (h2 : ks ≤ m_ms M) (k : post (some (.int v)) h nx) : Ok G M d post pc ls [.int v] h nx kc ks := by
  intro p e s m args below meth c H locs ls0 C hW hS hl
  refine W.widen h1 h2 ?_
  exact W.iret C.1 C.2.1 (C.2.2.1.trans hr) (fun t ht _ => ⟨⟨_, h, nx, rfl, k, by rw [ht]; exact hW⟩, hS.F ht⟩) hS.2.2 hd (hlocks := C.2.2.2.2.2.2.1)
theorem Ok.zret {v : Int32} {ty : FieldType} (hd : decode (m_cc M) pc = .ok (.ireturn, 1)) (hr : m_rt M = some ty) (hn : narrow ty (.int v) = .int v) (h1 : kc ≤ m_mc M) (h2 : ks ≤ m_ms M) (k : post (some (.int v)) h nx) : Ok G M d post pc ls [.int v] h nx kc ks := by
  intro p e s m args below meth c H locs ls0 C hW hS hl
  refine W.widen h1 h2 ?_
  exact W.zret C.1 C.2.1 (C.2.2.1.trans hr) hn (fun t ht _ => ⟨⟨_, h, nx, rfl, k, by rw [ht]; exact hW⟩, hS.F ht⟩) hS.2.2 hd (hlocks := C.2.2.2.2.2.2.1)
theorem Ok.lret {v : Int64} (hd : decode (m_cc M) pc = .ok (.lreturn, 1)) (hr : m_rt M = some .long) (h1 : kc ≤ m_mc M) (h2 : ks ≤ m_ms M) (k : post (some (.long v)) h nx) : Ok G M d post pc ls [.long v] h nx kc ks := by
  intro p e s m args below meth c H locs ls0 C hW hS hl
  refine W.widen h1 h2 ?_
  exact W.lret C.1 C.2.1 (C.2.2.1.trans hr) (fun t ht _ => ⟨⟨_, h, nx, rfl, k, by rw [ht]; exact hW⟩, hS.F ht⟩) hS.2.2 hd (hlocks := C.2.2.2.2.2.2.1)
theorem Ok.vret (hd : decode (m_cc M) pc = .ok (.return_, 1)) (hr : m_rt M = none) (h1 : kc ≤ m_mc M) (h2 : ks ≤ m_ms M) (k : post none h nx) : Ok G M d post pc ls [] h nx kc ks := by
  intro p e s m args below meth c H locs ls0 C hW hS hl
  refine W.widen h1 h2 ?_
  exact W.vret C.1 C.2.1 (C.2.2.1.trans hr) (fun t ht _ => ⟨⟨_, h, nx, rfl, k, by rw [ht]; exact hW⟩, hS.F ht⟩) hS.2.2 hd (hlocks := C.2.2.2.2.2.2.1)
theorem Ok.aret {v : Value} {rt : FieldType} (hd : decode (m_cc M) pc = .ok (.areturn, 1)) (hr : m_rt M = some rt) (hrt : (∃ n, rt = .object n) ∨ ∃ t, rt = .array t) (hv : v = .null ∨ ∃ a, v = .ref a) (h1 : kc ≤ m_mc M) (h2 : ks ≤ m_ms M) (k : post (some v) h nx) : Ok G M d post pc ls [v] h nx kc ks := by
  intro p e s m args below meth c H locs ls0 C hW hS hl
  refine W.widen h1 h2 ?_
  exact W.aret C.1 C.2.1 (C.2.2.1.trans hr) hrt hv (fun t ht _ => ⟨⟨_, h, nx, rfl, k, by rw [ht]; exact hW⟩, hS.F ht⟩) hS.2.2 hd (hlocks := C.2.2.2.2.2.2.1)
end OK3
/-- a contract: with these arguments over this heap the method comes to its end, with post -/
def PcOf (G : Gx) (args : List Value) (h : Hp) (nx : Nat) : Array Value → State → Prop := va_Pc args (fun U => RO G U U.heap ∧ Wd G h nx U.heap)
abbrev wsOf (M : Mt) : List Cond := Cond.code (m_y M) (m_cc M) (m_nL M) (m_rt M) :: tbG
def Ct (G : Gx) (M : Mt) (d : Nat) (post : Po) (args : List Value) (h : Hp) (nx : Nat) : Prop :=
  Met (g_l G) (m_y M) (wsOf M) (rmAt M d) (PcOf G args h nx) (QcOf G post) (m_mc M) (m_ms M) (gA G)
theorem Pc_blind {G : Gx} {args : List Value} {h : Hp} {nx : Nat} : FrameBlind (PcOf G args h nx) := fun a U g mk q => ⟨q.1, q.2.1.same (U := U.calling g mk a) rfl, q.2.2⟩
def entL : List Value → Lc
  | [] => []
  | v :: r => some v :: (if v.category = 2 then none :: entL r else entL r)
theorem entL_mem : ∀ (vs : List Value) (i o : Nat) (v : Value), (entL vs)[i]? = some (some v) → (i + o, v) ∈ lv_args o vs
  | [], i, o, v, h => by simp [entL] at h
  | w :: r, 0, o, v, h => by
    simp only [entL, List.getElem?_cons_zero, Option.some.injEq] at h
    subst h
    simp [lv_args]
  | w :: r, i + 1, o, v, h => by
    simp only [entL, List.getElem?_cons_succ] at h
    simp only [lv_args]
    refine List.mem_cons_of_mem _ ?_
    by_cases hc : w.category = 2
    · rw [if_pos hc] at h ⊢
      cases i with
      | zero => simp at h
      | succ i =>
        simp only [List.getElem?_cons_succ] at h
        have := entL_mem r i (o + 2) v h
        rwa [show i + 1 + 1 + o = i + (o + 2) by omega]
    · rw [if_neg hc] at h ⊢
      have := entL_mem r i (o + 1) v h
      rwa [show i + 1 + o = i + (o + 1) by omega]
theorem Ct.of {G : Gx} {M : Mt} {d : Nat} {post : Po} {args : List Value} {h : Hp} {nx : Nat} {ls : Lc} (hp : plainName (m_y M).cls = true) (ho : m_own M = (m_y M).cls) (hle : (lg_sl args).length ≤ m_nL M) (hls : ls = entL args ++ List.replicate (m_nL M - (entL args).length) none) (k : Ok G M d post 0 ls [] h nx 0 0) : Ct G M d post args h nx := by
  refine Met.ofW (cc := m_cc M) (maxL := m_nL M) (ret := m_rt M) hp rfl ?_
  intro p e s m args' below meth c s₁ B hml hv
  obtain ⟨rfl, hRO, hWd⟩ := hv
  have hts := atoms_spec (ws := wsOf M) B.pre
  have hl := lv_entry args hle
  rw [lg_entry_eq]
  generalize (lg_sl args ++ List.replicate (m_nL M - (lg_sl args).length) Slot.unset).toArray = ls0 at hl ⊢
  have hl : Lh ls0 (m_nL M) ls := ⟨hl.1, hl.2.1, fun q hq => by
    obtain ⟨i, v⟩ := q
    have hq := lpairs_mem.mp hq
    rw [hls] at hq
    refine hl.2.2 (i, v) ?_
    by_cases hi : i < (entL args).length
    · rw [List.getElem?_append_left hi] at hq
      exact entL_mem args i 0 v hq
    · rw [List.getElem?_append_right (by omega), List.getElem?_replicate] at hq
      split at hq <;> simp at hq⟩
  exact k p e s m args.toArray below meth c s.heap [] ls0 ⟨B.exec, B.bytes, B.returns, hml, by rw [ho]; exact findClass_of_methodNamed B.named, fun w hw => hts w (List.mem_cons_of_mem _ hw), B.notSynchronized, (name_of_methodNamed B.named B.method).1, hRO⟩ hWd va_S.rf hl
theorem gw_of {My : Mt} (hc : Cond.code (m_y My) (m_cc My) (m_nL My) (m_rt My) ∈ tbG) : GoodIn tbG (wsOf My) := fun w hw => by
  rcases List.mem_cons.mp hw with q | q
  · rw [q]; exact tbG_good _ hc
  · exact tbG_good _ q
theorem gi_of {ws : List Cond} (h : ∀ w ∈ ws, w ∈ tbG) : GoodIn tbG ws := fun w hw => tbG_good _ (h w hw)
theorem len_of {y : MethodName} {n : Nat} (h : (parseMethodDescriptor y.desc).map (fun d => d.parameters.length) = some n) : ∀ sig, parseMethodDescriptor y.desc = some sig → n = sig.parameters.length := fun sig q => by
  rw [q] at h
  exact (Option.some.inj h).symm
section CL
variable {G : Gx} {M My : Mt} {d : Nat} {post post' : Po} {pc : Nat} {ls : Lc} {stk : List Value} {h : Hp} {nx kc ks : Nat}
variable {p : Program} {e : Env} {s : State} {m : MethodId} {args : Array Value} {below : List Frame} {meth : Method} {c : Code} {H : Heap} {locs : List Loc} {ls0 : Array Slot}
theorem call_fin {a : Array Value} {mc ms : Nat} {st0 rest : List Value} {QQ : State → Prop} {R : Room} (hS : va_S (gA G) s.heap H locs) (hr : va_Run p (g_l G) e R s m args below meth c H locs kc ks mc ms (F0 m pc ls0 st0) rest (QcOf G post' a) (gA G))
    (k : ∀ (v : Option Value) (h' : Hp) (nx' : Nat), post' v h' nx' → ∀ (H1 : Heap) (locs1 : List Loc), Wd G h' nx' H1 → va_S (gA G) s.heap H1 locs1 → W p (g_l G) e R s m args below meth c H1 locs1 (kc + mc) (ks + ms) QQ (F0 m (pc + 3) ls0 (v.toList ++ rest))) : W p (g_l G) e R s m args below meth c H locs kc ks QQ (F0 m pc ls0 st0) := by
  intro T hT X
  obtain ⟨v, st₀, t, T', L, h0, X', hL, e1, e2, ⟨⟨v', h', nx', hv, hp, hWd⟩, hz, hk⟩, st⟩ := hr T hT X
  cases hv
  rw [h0] at hz hk
  obtain ⟨t2, a1, b1⟩ := k v h' nx' hp T'.heap (locs ++ L) (by rw [e1]; exact hWd)
    ⟨Nat.le_trans hS.1 (by rw [e1]; exact hz), fun q h1 h2 => by rw [e1, hk q (Nat.lt_of_lt_of_le h1 hS.1) h2]; exact hS.2.1 q h1 h2, fun q hq => by
      rcases List.mem_append.mp hq with h | h
      · exact hS.2.2 q h
      · exact hL q h⟩ T' rfl X'
  exact ⟨t2, st t2 a1, b1⟩
theorem cb_of {i n : Nat} (C : Cx G M p s m args meth c) (hcode : Cond.code (m_y My) (m_cc My) (m_nL My) (m_rt My) ∈ tbG) (hini : Cond.initialized (m_y My).cls ∈ tbG) (hy : (m_y My).cls ≠ "java/lang/invoke/MethodHandle" ∧ (m_y My).cls ≠ "java/lang/invoke/VarHandle") (hlen : (parseMethodDescriptor (m_y My).desc).map (fun d => d.parameters.length) = some n) (hlink : Cond.methodLink (m_own M) i (m_y My) ∈ tbG) (hloc : m_nL My ≤ 29) :
    CallB (rmAt M (d + 1)) s args (m_own M) i (m_y My) (m_cc My) (m_nL My) (m_rt My) (wsOf My) (rmAt My d) (m_mc My) (m_ms My) n :=
  ⟨rfl, rfl, Nat.le_refl _, by show 8 + (m_nL My + 11) + 48 * (d + 1) ≤ 48 * (d + 1 + 1); omega, fun w hw a' U hW => word_at hW ((gw_of hcode) w hw).2 (C.w ((gw_of hcode) w hw).1), List.mem_cons_self, C.w hcode, C.w hini, hy, len_of hlen, C.w hlink⟩
theorem rest_ok {rest : List Value} {m : MethodId} {ls0 : Array Slot} {st : List Value} (hr : (rest.map fun v => v.category).sum ≤ 8) : 2 * (F0 m pc ls0 st).monitorRoom + (rest.map fun v => v.category).sum ≤ 8 := by
  show 2 * 0 + _ ≤ 8
  omega
theorem pre_of {As : List Value} (C : Cx G M p s m args meth c) (hW : Wd G h nx H) (hS : va_S (gA G) s.heap H locs) : ∀ U : State, U.heap = H → s.WarmedH U.vm → PcOf G As h nx As.toArray U := fun U hU hWm => ⟨rfl, by rw [hU]; exact C.2.2.2.2.2.2.2.2.warm hWm hS, by rw [hU]; exact hW⟩
/-- a static method, of any class -/
theorem Ok.callS {i n : Nat} {As rest : List Value} (hd : decode (m_cc M) pc = .ok (.invokestatic i, 3)) (hC : Ct G My d post' As h nx) (hcode : Cond.code (m_y My) (m_cc My) (m_nL My) (m_rt My) ∈ tbG) (hini : Cond.initialized (m_y My).cls ∈ tbG) (hst : Cond.static (m_y My) ∈ tbG) (hlink : Cond.methodLink (m_own M) i (m_y My) ∈ tbG) (hy : (m_y My).cls ≠ "java/lang/invoke/MethodHandle" ∧ (m_y My).cls ≠ "java/lang/invoke/VarHandle") (hlen : (parseMethodDescriptor (m_y My).desc).map (fun d => d.parameters.length) = some n) (hloc : m_nL My ≤ 29) (hn : As.length = n) (hstk : stk = As.reverse ++ rest) (hr : (rest.map fun v => v.category).sum ≤ 8) (h1 : kc + m_mc My ≤ m_mc M) (h2 : ks + m_ms My ≤ m_ms M)
    (k : ∀ (v : Option Value) (h' : Hp) (nx' : Nat), post' v h' nx' → Ok G M (d + 1) post (pc + 3) ls (v.toList ++ rest) h' nx' (kc + m_mc My) (ks + m_ms My)) : Ok G M (d + 1) post pc ls stk h nx kc ks := by
  intro p e s m args below meth c H locs ls0 C hW hS hl
  subst hstk
  exact call_fin hS (va_runS ⟨C.1, C.2.1, C.2.2.2.1, C.2.2.2.2.1, C.2.2.2.2.2.1⟩ hC ⟨cb_of C hcode hini hy hlen hlink hloc, C.w hst⟩ ⟨Pc_blind, pre_of C hW hS⟩ rfl hn hl.1 rfl (rest_ok hr) hd ⟨h1, h2⟩) (fun v h' nx' q H1 locs1 w1 s1 => k v h' nx' q p e s m args below meth c H1 locs1 ls0 C w1 s1 hl)
/-- a static method of a nest mate -/
theorem Ok.callSN {i n : Nat} {host : String} {As rest : List Value} (hd : decode (m_cc M) pc = .ok (.invokestatic i, 3)) (hC : Ct G My d post' As h nx) (hcode : Cond.code (m_y My) (m_cc My) (m_nL My) (m_rt My) ∈ tbG) (hini : Cond.initialized (m_y My).cls ∈ tbG) (hst : Cond.static (m_y My) ∈ tbG) (hlink : (m_own M, i, m_y My, host) ∈ nsL) (hy : (m_y My).cls ≠ "java/lang/invoke/MethodHandle" ∧ (m_y My).cls ≠ "java/lang/invoke/VarHandle") (hlen : (parseMethodDescriptor (m_y My).desc).map (fun d => d.parameters.length) = some n) (hloc : m_nL My ≤ 29) (hn : As.length = n) (hstk : stk = As.reverse ++ rest) (hr : (rest.map fun v => v.category).sum ≤ 8) (h1 : kc + m_mc My ≤ m_mc M) (h2 : ks + m_ms My ≤ m_ms M)
    (k : ∀ (v : Option Value) (h' : Hp) (nx' : Nat), post' v h' nx' → Ok G M (d + 1) post (pc + 3) ls (v.toList ++ rest) h' nx' (kc + m_mc My) (ks + m_ms My)) : Ok G M (d + 1) post pc ls stk h nx kc ks := by
  intro p e s m args below meth c H locs ls0 C hW hS hl
  subst hstk
  exact call_fin hS (va_runSN (host := host) ⟨C.1, C.2.1, C.2.2.2.1, C.2.2.2.2.1, C.2.2.2.2.2.1⟩ hC ⟨va_cnB n C.2.2.2.2.2.1 (gw_of hcode) rfl rfl rfl (C.2.2.2.2.2.2.2.2.2.2.2.2.2.1.2.2 _ hlink) (C.w hini) ⟨hy.1, hy.2, hlen⟩ ⟨Nat.le_refl _, by show 8 + (m_nL My + 11) + 48 * (d + 1) ≤ 48 * (d + 1 + 1); omega⟩, C.w hst, trivial⟩ ⟨Pc_blind, pre_of C hW hS⟩ rfl hn hl.1 rfl (rest_ok hr) hd ⟨h1, h2⟩) (fun v h' nx' q H1 locs1 w1 s1 => k v h' nx' q p e s m args below meth c H1 locs1 ls0 C w1 s1 hl)
/-- a method of the receiver's own class -/
theorem Ok.callV {i n b ci : Nat} {r : vw_C} {fs : List Value} {As rest : List Value} (hd : decode (m_cc M) pc = .ok (.invokevirtual i, 3)) (hC : Ct G My d post' (.ref b :: As) h nx) (hb : h b = some (ob ci fs)) (hcl : vwCl[ci]? = some r) (hcode : Cond.code (m_y My) (m_cc My) (m_nL My) (m_rt My) ∈ tbG) (hini : Cond.initialized (m_y My).cls ∈ tbG) (hin : Cond.instanceMethod (m_y My) ∈ tbG) (hsel : Cond.selects r.1 (m_y My) (m_y My) ∈ tbG) (hlink : Cond.methodLink (m_own M) i (m_y My) ∈ tbG) (hy : (m_y My).cls ≠ "java/lang/invoke/MethodHandle" ∧ (m_y My).cls ≠ "java/lang/invoke/VarHandle") (hlen : (parseMethodDescriptor (m_y My).desc).map (fun d => d.parameters.length) = some n) (hloc : m_nL My ≤ 29) (hn : As.length = n) (hstk : stk = As.reverse ++ .ref b :: rest) (hr : (rest.map fun v => v.category).sum ≤ 8) (h1 : kc + m_mc My ≤ m_mc M) (h2 : ks + m_ms My ≤ m_ms M)
    (k : ∀ (v : Option Value) (h' : Hp) (nx' : Nat), post' v h' nx' → Ok G M (d + 1) post (pc + 3) ls (v.toList ++ rest) h' nx' (kc + m_mc My) (ks + m_ms My)) : Ok G M (d + 1) post pc ls stk h nx kc ks := by
  intro p e s m args below meth c H locs ls0 C hW hS hl
  subst hstk
  exact call_fin hS (va_runV ⟨C.1, C.2.1, C.2.2.2.1, C.2.2.2.2.1, C.2.2.2.2.2.1⟩ hC ⟨cb_of C hcode hini hy hlen hlink hloc, C.w hin, C.w hsel⟩ ⟨Pc_blind, va_recv C.K (hW.P hb) hcl (q0 := 0) rfl, pre_of C hW hS⟩ rfl hn hl.1 rfl (rest_ok hr) hd ⟨h1, h2⟩) (fun v h' nx' q H1 locs1 w1 s1 => k v h' nx' q p e s m args below meth c H1 locs1 ls0 C w1 s1 hl)
/-- an inherited or overriding method: x is what the reference names, owner the class that declares it -/
theorem Ok.callU {i n b ci : Nat} {r : vw_C} {x : MethodName} {owner : String} {fs : List Value} {As rest : List Value} {b0 : ByteArray} {m0 : Nat} {r0 : Option FieldType} (hd : decode (m_cc M) pc = .ok (.invokevirtual i, 3)) (hC : Ct G My d post' (.ref b :: As) h nx) (hb : h b = some (ob ci fs)) (hcl : vwCl[ci]? = some r) (hcode : Cond.code (m_y My) (m_cc My) (m_nL My) (m_rt My) ∈ tbG) (hini : Cond.initialized (m_y My).cls ∈ tbG) (hin : Cond.instanceMethod (m_y My) ∈ tbG) (hsel : Cond.selects r.1 x (m_y My) ∈ tbG) (hlink : Cond.methodLink (m_own M) i x ∈ tbG) (hsm : Cond.sameMethod x.cls owner x.name x.desc ∈ tbG) (hio : Cond.instanceMethod ⟨owner, x.name, x.desc⟩ ∈ tbG) (hco : Cond.code ⟨owner, x.name, x.desc⟩ b0 m0 r0 ∈ tbG) (hy : owner ≠ "java/lang/invoke/MethodHandle" ∧ owner ≠ "java/lang/invoke/VarHandle") (hlen : (parseMethodDescriptor x.desc).map (fun d => d.parameters.length) = some n) (hloc : m_nL My ≤ 29) (hn : As.length = n) (hstk : stk = As.reverse ++ .ref b :: rest) (hr : (rest.map fun v => v.category).sum ≤ 8) (h1 : kc + m_mc My ≤ m_mc M) (h2 : ks + m_ms My ≤ m_ms M)
    (k : ∀ (v : Option Value) (h' : Hp) (nx' : Nat), post' v h' nx' → Ok G M (d + 1) post (pc + 3) ls (v.toList ++ rest) h' nx' (kc + m_mc My) (ks + m_ms My)) : Ok G M (d + 1) post pc ls stk h nx kc ks := by
  intro p e s m args below meth c H locs ls0 C hW hS hl
  subst hstk
  have hT : GoodIn tbG (va_wsO (m_own M) i r.1 owner x (m_y My) (wsOf My)) := by
    intro w hw
    simp only [va_wsO, List.mem_append, List.mem_cons, List.not_mem_nil, or_false] at hw
    rcases hw with (rfl | rfl | rfl | rfl | rfl | rfl) | hw
    · exact tbG_good _ hlink
    · exact tbG_good _ hsm
    · exact tbG_good _ hio
    · exact tbG_good _ hsel
    · exact tbG_good _ hin
    · exact tbG_good _ hini
    · exact gw_of hcode w (List.mem_cons.mpr hw)
  exact call_fin hS (va_runU ⟨C.1, C.2.1, C.2.2.2.1, C.2.2.2.2.1, C.2.2.2.2.2.1⟩ hC (va_cwO n C.2.2.2.2.2.1 hT rfl rfl rfl hco ⟨hy.1, hy.2, hlen⟩ ⟨Nat.le_refl _, by show 8 + (m_nL My + 11) + 48 * (d + 1) ≤ 48 * (d + 1 + 1); omega⟩) ⟨Pc_blind, va_recv C.K (hW.P hb) hcl (q0 := 0) rfl, pre_of C hW hS⟩ rfl hn hl.1 rfl (rest_ok hr) hd ⟨h1, h2⟩) (fun v h' nx' q H1 locs1 w1 s1 => k v h' nx' q p e s m args below meth c H1 locs1 ls0 C w1 s1 hl)
/-- super.x(..) -/
theorem Ok.callSU {i n b ci : Nat} {r : vw_C} {fs : List Value} {As rest : List Value} (hd : decode (m_cc M) pc = .ok (.invokespecial i, 3)) (hC : Ct G My d post' (.ref b :: As) h nx) (hb : h b = some (ob ci fs)) (hcl : vwCl[ci]? = some r) (hcode : Cond.code (m_y My) (m_cc My) (m_nL My) (m_rt My) ∈ tbG) (hini : Cond.initialized (m_y My).cls ∈ tbG) (hin : Cond.instanceMethod (m_y My) ∈ tbG) (hlink : Cond.methodLink (m_own M) i (m_y My) ∈ tbG) (hsm : Cond.sameMethod (m_y My).cls (m_y My).cls (m_y My).name (m_y My).desc ∈ tbG) (hsup : Cond.superclass (m_own M) (m_y My).cls ∈ tbG) (hni : (m_y My).name ≠ "<init>") (hlen : (parseMethodDescriptor (m_y My).desc).map (fun d => d.parameters.length) = some n) (hloc : m_nL My ≤ 29) (hn : As.length = n) (hstk : stk = As.reverse ++ .ref b :: rest) (hr : (rest.map fun v => v.category).sum ≤ 8) (h1 : kc + m_mc My ≤ m_mc M) (h2 : ks + m_ms My ≤ m_ms M)
    (k : ∀ (v : Option Value) (h' : Hp) (nx' : Nat), post' v h' nx' → Ok G M (d + 1) post (pc + 3) ls (v.toList ++ rest) h' nx' (kc + m_mc My) (ks + m_ms My)) : Ok G M (d + 1) post pc ls stk h nx kc ks := by
  intro p e s m args below meth c H locs ls0 C hW hS hl
  subst hstk
  have hT : GoodIn tbG (va_wsSU (m_own M) i (m_y My) (wsOf My)) := by
    intro w hw
    simp only [va_wsSU, List.mem_append, List.mem_cons, List.not_mem_nil, or_false] at hw
    rcases hw with (rfl | rfl | rfl | rfl | rfl) | hw
    · exact tbG_good _ hlink
    · exact tbG_good _ hsm
    · exact tbG_good _ hsup
    · exact tbG_good _ hin
    · exact tbG_good _ hini
    · exact gw_of hcode w (List.mem_cons.mpr hw)
  exact call_fin hS (va_runSU (C := r.1) (C.K.1 ci r hcl).2 ⟨C.1, C.2.1, C.2.2.2.1, C.2.2.2.2.1, C.2.2.2.2.2.1⟩ hC (va_cwSU n C.2.2.2.2.2.1 hT rfl rfl rfl ⟨hni, hlen⟩ ⟨Nat.le_refl _, by show 8 + (m_nL My + 11) + 48 * (d + 1) ≤ 48 * (d + 1 + 1); omega⟩) ⟨Pc_blind, va_recv C.K (hW.P hb) hcl (q0 := 0) rfl, pre_of C hW hS⟩ rfl hn hl.1 rfl (rest_ok hr) hd ⟨h1, h2⟩) (fun v h' nx' q H1 locs1 w1 s1 => k v h' nx' q p e s m args below meth c H1 locs1 ls0 C w1 s1 hl)
/-- a constructor -/
theorem Ok.callI {i n b : Nat} {As rest : List Value} (hd : decode (m_cc M) pc = .ok (.invokespecial i, 3)) (hC : Ct G My d post' (.ref b :: As) h nx) (hrt : m_rt My = none) (hcode : Cond.code (m_y My) (m_cc My) (m_nL My) (m_rt My) ∈ tbG) (hini : Cond.initialized (m_y My).cls ∈ tbG) (hin : Cond.instanceMethod (m_y My) ∈ tbG) (hni : (m_y My).name = "<init>") (hlink : Cond.methodLink (m_own M) i (m_y My) ∈ tbG) (hy : (m_y My).cls ≠ "java/lang/invoke/MethodHandle" ∧ (m_y My).cls ≠ "java/lang/invoke/VarHandle") (hlen : (parseMethodDescriptor (m_y My).desc).map (fun d => d.parameters.length) = some n) (hloc : m_nL My ≤ 29) (hn : As.length = n) (hstk : stk = As.reverse ++ .ref b :: rest) (hr : (rest.map fun v => v.category).sum ≤ 8) (h1 : kc + m_mc My ≤ m_mc M) (h2 : ks + m_ms My ≤ m_ms M)
    (k : ∀ (v : Option Value) (h' : Hp) (nx' : Nat), post' v h' nx' → Ok G M (d + 1) post (pc + 3) ls (v.toList ++ rest) h' nx' (kc + m_mc My) (ks + m_ms My)) : Ok G M (d + 1) post pc ls stk h nx kc ks := by
  intro p e s m args below meth c H locs ls0 C hW hS hl
  subst hstk
  have hcb := cb_of (M := M) (My := My) (d := d) C hcode hini hy hlen hlink hloc
  rw [hrt] at hcb
  exact call_fin hS (va_runI ⟨C.1, C.2.1, C.2.2.2.1, C.2.2.2.2.1, C.2.2.2.2.2.1⟩ hC ⟨hcb, hni, C.w hin⟩ ⟨Pc_blind, pre_of C hW hS⟩ rfl hn hl.1 rfl (rest_ok hr) hd ⟨h1, h2⟩) (fun v h' nx' q H1 locs1 w1 s1 => k v h' nx' q p e s m args below meth c H1 locs1 ls0 C w1 s1 hl)
theorem Ok.callIN {i n b : Nat} {host : String} {As rest : List Value} (hd : decode (m_cc M) pc = .ok (.invokespecial i, 3)) (hC : Ct G My d post' (.ref b :: As) h nx) (hrt : m_rt My = none) (hcode : Cond.code (m_y My) (m_cc My) (m_nL My) (m_rt My) ∈ tbG) (hini : Cond.initialized (m_y My).cls ∈ tbG) (hin : Cond.instanceMethod (m_y My) ∈ tbG) (hni : (m_y My).name = "<init>") (hlink : (m_own M, i, m_y My, host) ∈ nsL) (hy : (m_y My).cls ≠ "java/lang/invoke/MethodHandle" ∧ (m_y My).cls ≠ "java/lang/invoke/VarHandle") (hlen : (parseMethodDescriptor (m_y My).desc).map (fun d => d.parameters.length) = some n) (hloc : m_nL My ≤ 29) (hn : As.length = n) (hstk : stk = As.reverse ++ .ref b :: rest) (hr : (rest.map fun v => v.category).sum ≤ 8) (h1 : kc + m_mc My ≤ m_mc M) (h2 : ks + m_ms My ≤ m_ms M)
    (k : ∀ (v : Option Value) (h' : Hp) (nx' : Nat), post' v h' nx' → Ok G M (d + 1) post (pc + 3) ls (v.toList ++ rest) h' nx' (kc + m_mc My) (ks + m_ms My)) : Ok G M (d + 1) post pc ls stk h nx kc ks := by
  intro p e s m args below meth c H locs ls0 C hW hS hl
  subst hstk
  have hcb : va_CN (rmAt M (d + 1)) s args (m_own M) i (m_y My) host (m_cc My) (m_nL My) (m_rt My) (wsOf My) (rmAt My d) (m_mc My) (m_ms My) n := va_cnB n C.2.2.2.2.2.1 (gw_of hcode) rfl rfl rfl (C.2.2.2.2.2.2.2.2.2.2.2.2.2.1.2.2 _ hlink) (C.w hini) ⟨hy.1, hy.2, hlen⟩ ⟨Nat.le_refl _, by show 8 + (m_nL My + 11) + 48 * (d + 1) ≤ 48 * (d + 1 + 1); omega⟩
  rw [hrt] at hcb
  exact call_fin hS (va_runIN (host := host) ⟨C.1, C.2.1, C.2.2.2.1, C.2.2.2.2.1, C.2.2.2.2.2.1⟩ hC ⟨hcb, hni, C.w hin⟩ ⟨Pc_blind, pre_of C hW hS⟩ rfl hn hl.1 rfl (rest_ok hr) hd ⟨h1, h2⟩) (fun v h' nx' q H1 locs1 w1 s1 => k v h' nx' q p e s m args below meth c H1 locs1 ls0 C w1 s1 hl)
/-- Object's own constructor -/
theorem Ok.objInit {i a : Nat} (hd : decode (m_cc M) pc = .ok (.invokespecial i, 3)) (hlink : Cond.methodLink (m_own M) i Lib.objectInit ∈ tbG) (hin : Cond.instanceMethod Lib.objectInit ∈ tbG) (hcode : Cond.code Lib.objectInit ⟨#[0xb1]⟩ 1 none ∈ tbG) (hr : (stk.map fun v => v.category).sum ≤ 8) (k : Ok G M d post (pc + 3) ls stk h nx kc ks) : Ok G M d post pc ls (.ref a :: stk) h nx kc ks := by
  intro p e s m args below meth c H locs ls0 C hW hS hl
  refine W.objInit C.1 C.2.1 C.2.2.2.2.1 (C.w hlink) (C.w hin) (C.w hcode) rfl (hl.1.trans C.2.2.2.1.symm) rfl hd (by show 1 ≤ d + 1; omega) (by show 2 * 0 + _ + 12 ≤ 48 * (d + 1); omega) ?_
  exact k p e s m args below meth c H locs ls0 C hW hS hl
end CL
