/-! THE START: what the statement gives of it -/
def nrL : List Cond := flatC (Jvm.Cond.and given_1 narrow_1)
def tmS (i : Nat) : Term := Term.string (txL.getD i ("", 0, "")).1 (txL.getD i ("", 0, "")).2.1
theorem fresh_off {s s' : State} {L : List Loc} {k n : Nat} (h : s.sameButNew s' L k n) (hJ : ∀ x ∈ L, s.heap.size ≤ x.base) : s.sameButNew s' [] k n := by
  obtain ⟨h1, h2, h3, h4, h5, h6⟩ := h
  refine ⟨h1, h2, h3, h4, h5, fun a c hc => ?_⟩
  obtain ⟨c', hc', hce, hsz, hout⟩ := h6 a c hc
  refine ⟨c', hc', hce, hsz, fun i _ => hout i ?_⟩
  intro hmem
  have hb : s.heap.size ≤ a := hJ _ hmem
  have ha : a < s.heap.size := (Array.getElem?_eq_some_iff.mp hc).1
  exact absurd ha (Nat.not_lt.mpr hb)
/-- more room is left than is asked -/
theorem room_less {s : State} {pl : Platform} {r r' : Room} (h : s.hasRoom pl r = true) (h1 : r'.frames ≤ r.frames) (h2 : r'.cells ≤ r.cells) (h3 : r'.slots ≤ r.slots) (h4 : r'.locals ≤ r.locals) : s.hasRoom pl r' = true := by
  simp only [State.hasRoom, Bool.and_eq_true, decide_eq_true_eq] at h ⊢
  obtain ⟨⟨⟨⟨a1, a2, a3, a4, a5, a6⟩, a7⟩, a8⟩, a9⟩ := h
  exact ⟨⟨⟨⟨by omega, by omega, by omega, by omega, by omega, a6⟩, by omega⟩, by omega⟩, a9⟩
theorem W_room {p : Program} {l : Launch} {e : Env} {R R' : Room} {s : State} {m : MethodId} {args : Array Value} {below : List Frame} {meth : Method} {c : Code} {H : Heap} {locs : List Loc} {cells slots : Nat} {Q : State → Prop} {g : JFrame} (h1 : R'.frames ≤ R.frames) (h2 : R'.cells ≤ R.cells) (h3 : R'.slots ≤ R.slots) (h4 : R'.locals ≤ R.locals) (k : W p l e R' s m args below meth c H locs cells slots Q g) : W p l e R s m args below meth c H locs cells slots Q g := by
  intro T hT X
  exact k T hT { X with room := room_less X.room h1 h2 h3 h4 }
theorem W_imp {p : Program} {l : Launch} {e : Env} {R : Room} {s : State} {m : MethodId} {args : Array Value} {below : List Frame} {meth : Method} {c : Code} {H : Heap} {locs : List Loc} {cells slots : Nat} {Q Q' : State → Prop} {g : JFrame} (hQ : ∀ t, Q t → Q' t) (k : W p l e R s m args below meth c H locs cells slots Q g) : W p l e R s m args below meth c H locs cells slots Q' g := by
  intro T hT X
  obtain ⟨t, a, b⟩ := k T hT X
  exact ⟨t, a, hQ t b⟩
section BEG
variable {s : State} {V : Array Value}
theorem b_prim {ty : FieldType} (h : (Cond.arrayClass ty).before V s = true) : ∃ cA, ArrOfT s cA ty ∧ s.vm.findClass ("[" ++ ty.toString) = some cA := by
  obtain ⟨c, k, comp, f1, f2, f3⟩ := Cond.arrayClass_spec h
  exact ⟨c, fun N z => ⟨(fun k h => by cases h), k, f2, comp, f3⟩, f1⟩
theorem b_obj {C : String} (h : (Cond.arrayOver (.object C)).before V s = true) : ∃ cA, ArrOfT s cA (.object C) ∧ va_RA s cA (.object C) := by
  obtain ⟨comp, c, k, f1, -, f3, f4, f5⟩ := Cond.arrayOver_spec h
  exact ⟨c, fun N z => ⟨(fun k h => by cases h), k, f3, comp, f4⟩, k, comp, f3, f4, f1, f5⟩
theorem b_arr {t : FieldType} (h : va_AOA t s) : ∃ cA, ArrOfT s cA (.array t) ∧ va_RA s cA (.array t) := by
  obtain ⟨comp, c, k, f1, f2, f3, f4, f5⟩ := va_AOA.spec (Or.inr h) h
  exact ⟨c, fun N z => ⟨(fun k h => by cases h), k, f3, comp, f4⟩, f5⟩
theorem b_cls (ht : ∀ w ∈ tbG, w.before V s = true) : ∀ c : Nat, ∃ q : ClassId × (Nat → Nat), ∀ r, vwCl[c]? = some r → u_Kn s r.1 r.2.1 r.2.2 q.1 q.2
  | 0 => by
    obtain ⟨cC, iS, h⟩ := u_known (n := 18) ht inX0 (ht _ wd107)
    exact ⟨(cC, iS), fun r hr => by cases hr; exact h⟩
  | 1 => by
    obtain ⟨cC, iS, h⟩ := u_known (n := 2) ht inX1 (ht _ wd672)
    exact ⟨(cC, iS), fun r hr => by cases hr; exact h⟩
  | 2 => by
    obtain ⟨cC, iS, h⟩ := u_known (n := 2) ht inX2 (ht _ wd681)
    exact ⟨(cC, iS), fun r hr => by cases hr; exact h⟩
  | 3 => by
    obtain ⟨cC, iS, h⟩ := u_known (n := 2) ht inX3 (ht _ wd663)
    exact ⟨(cC, iS), fun r hr => by cases hr; exact h⟩
  | 4 => by
    obtain ⟨cC, iS, h⟩ := u_known (n := 2) ht inX4 (ht _ wd625)
    exact ⟨(cC, iS), fun r hr => by cases hr; exact h⟩
  | 5 => by
    obtain ⟨cC, iS, h⟩ := u_known (n := 9) ht inX5 (ht _ wd206)
    exact ⟨(cC, iS), fun r hr => by cases hr; exact h⟩
  | 6 => by
    obtain ⟨cC, iS, h⟩ := u_known (n := 2) ht inX6 (ht _ wd699)
    exact ⟨(cC, iS), fun r hr => by cases hr; exact h⟩
  | 7 => by
    obtain ⟨cC, iS, h⟩ := u_known (n := 10) ht inX7 (ht _ wd327)
    exact ⟨(cC, iS), fun r hr => by cases hr; exact h⟩
  | 8 => by
    obtain ⟨cC, iS, h⟩ := u_known (n := 2) ht inX8 (ht _ wd690)
    exact ⟨(cC, iS), fun r hr => by cases hr; exact h⟩
  | 9 => by
    obtain ⟨cC, iS, h⟩ := u_known (n := 11) ht inX9 (ht _ wd254)
    exact ⟨(cC, iS), fun r hr => by cases hr; exact h⟩
  | 10 => by
    obtain ⟨cC, iS, h⟩ := u_known (n := 2) ht inX10 (ht _ wd654)
    exact ⟨(cC, iS), fun r hr => by cases hr; exact h⟩
  | 11 => by
    obtain ⟨cC, iS, h⟩ := u_known (n := 7) ht inX11 (ht _ wd99)
    exact ⟨(cC, iS), fun r hr => by cases hr; exact h⟩
  | 12 => by
    obtain ⟨cC, iS, h⟩ := u_known (n := 34) ht inX12 (ht _ wd1083)
    exact ⟨(cC, iS), fun r hr => by cases hr; exact h⟩
  | n + 13 => ⟨(0, fun _ => 0), fun r hr => by cases hr⟩
theorem bw_ao0 : Cond.arrayOver (.object "GateWatch$Sort") ∈ lw_tbl := List.mem_of_getElem? (i := 113) (by decide +kernel)
theorem bw_ao1 : Cond.arrayOver (.object "GateWatch$Plan") ∈ lw_tbl := List.mem_of_getElem? (i := 115) (by decide +kernel)
theorem bw_ao2 : Cond.arrayOver (.array .int) ∈ lw_tbl := List.mem_of_getElem? (i := 117) (by decide +kernel)
theorem bw_ls0 : Cond.laysStatic "java/lang/String" "COMPACT_STRINGS" "Z" ∈ lw_tbl := List.mem_of_getElem? (i := 415) (by decide +kernel)
theorem bw_ls1 : Cond.laysStatic "jdk/internal/util/Preconditions" "SIOOBE_FORMATTER" "Ljava/util/function/BiFunction;" ∈ lw_tbl := List.mem_of_getElem? (i := 431) (by decide +kernel)
theorem bw_in0 : Cond.initialized "java/lang/String" ∈ lw_tbl := List.mem_of_getElem? (i := 85) (by decide +kernel)
theorem bw_in1 : Cond.initialized "jdk/internal/util/Preconditions" ∈ lw_tbl := List.mem_of_getElem? (i := 87) (by decide +kernel)
theorem bw_sr : ∀ i : Nat, i < 12 → Cond.stringRef (txL.getD i ("", 0, "")).1 (txL.getD i ("", 0, "")).2.1 (txL.getD i ("", 0, "")).2.2 ∈ lw_tbl
  | 0, _ => List.mem_of_getElem? (i := 396) (by decide +kernel)
  | 1, _ => List.mem_of_getElem? (i := 397) (by decide +kernel)
  | 2, _ => List.mem_of_getElem? (i := 398) (by decide +kernel)
  | 3, _ => List.mem_of_getElem? (i := 399) (by decide +kernel)
  | 4, _ => List.mem_of_getElem? (i := 400) (by decide +kernel)
  | 5, _ => List.mem_of_getElem? (i := 401) (by decide +kernel)
  | 6, _ => List.mem_of_getElem? (i := 1214) (by decide +kernel)
  | 7, _ => List.mem_of_getElem? (i := 1215) (by decide +kernel)
  | 8, _ => List.mem_of_getElem? (i := 1246) (by decide +kernel)
  | 9, _ => List.mem_of_getElem? (i := 1251) (by decide +kernel)
  | 10, _ => List.mem_of_getElem? (i := 1252) (by decide +kernel)
  | 11, _ => List.mem_of_getElem? (i := 1253) (by decide +kernel)
  | _ + 12, q => absurd q (by omega)
theorem bw_cs : ∀ q ∈ csL, Cond.castable q.1 q.2 ∈ lw_tbl := by
  intro q hq
  simp only [csL, List.mem_cons, List.not_mem_nil, or_false] at hq
  rcases hq with rfl | rfl | rfl | rfl | rfl | rfl | rfl | rfl | rfl
  · exact List.mem_of_getElem? (i := 340) (by decide +kernel)
  · exact List.mem_of_getElem? (i := 1536) (by decide +kernel)
  · exact List.mem_of_getElem? (i := 1537) (by decide +kernel)
  · exact List.mem_of_getElem? (i := 1538) (by decide +kernel)
  · exact List.mem_of_getElem? (i := 1539) (by decide +kernel)
  · exact List.mem_of_getElem? (i := 1540) (by decide +kernel)
  · exact List.mem_of_getElem? (i := 1541) (by decide +kernel)
  · exact List.mem_of_getElem? (i := 1542) (by decide +kernel)
  · exact List.mem_of_getElem? (i := 1543) (by decide +kernel)
theorem bw_ns : ∀ q ∈ nsL, Cond.methodLinkNest q.1 q.2.1 q.2.2.1 q.2.2.2 ∈ lw_tbl := by
  intro q hq
  simp only [nsL, List.mem_cons, List.not_mem_nil, or_false] at hq
  rcases hq with rfl | rfl | rfl
  · exact List.mem_of_getElem? (i := 108) (by decide +kernel)
  · exact List.mem_of_getElem? (i := 591) (by decide +kernel)
  · exact List.mem_of_getElem? (i := 849) (by decide +kernel)
theorem bn_nc : ∀ q ∈ ncL, Cond.not (.castable q.1 q.2) ∈ nrL := by decide +kernel
theorem bn_ex : ∀ i : Nat, i < 12 → Cond.exactly (tmS i) "java/lang/String" ∈ nrL := by decide +kernel
theorem bn_co : ∀ i : Nat, i < 12 → Cond.eq (.field (tmS i) "java/lang/String" "coder" "B") (.int 0) ∈ nrL := by decide +kernel
theorem bn_ar : ∀ i : Nat, i < 12 → Cond.arrayOf (.field (tmS i) "java/lang/String" "value" "[B") .byte ∈ nrL := by decide +kernel
theorem bn_le : ∀ i : Nat, i < 12 → Cond.eq (.length (.field (tmS i) "java/lang/String" "value" "[B")) (.int (Int32.ofNat (txN.getD i 0))) ∈ nrL := by decide +kernel
theorem bn_el : ∀ i : Nat, i < 12 → ∀ j : Nat, j < txN.getD i 0 → Cond.eq (.elem (.field (tmS i) "java/lang/String" "value" "[B") (.int (Int32.ofNat j))) (.int ((txB.getD i []).getD j 0)) ∈ nrL := by decide +kernel
theorem bn_ne : ∀ j : Nat, j < 12 → ∀ i : Nat, i < j → Cond.not (Cond.eq (tmS i) (tmS j)) ∈ nrL := by decide +kernel
theorem bn_cm : Cond.eq (.static "java/lang/String" "COMPACT_STRINGS" "Z") (.int 1) ∈ nrL := by decide +kernel
theorem bn_si : Cond.isRef (.static "jdk/internal/util/Preconditions" "SIOOBE_FORMATTER" "Ljava/util/function/BiFunction;") ∈ nrL := by decide +kernel
theorem b_text (hts : ∀ w ∈ lw_tbl, w.before V s = true) (hn : ∀ w ∈ nrL, w.before V s = true) {P : Nat → Prop} (hP : ∀ a : Nat, a < s.heap.size → ¬ P a) : ∃ sK sV : Nat → Nat, vk_S 12 txN txB sK sV P s s.heap ∧ ∀ i : Nat, i < 12 → vk_R (txL.getD i ("", 0, "")).1 (txL.getD i ("", 0, "")).2.1 (txL.getD i ("", 0, "")).2.2 (sK i) s := by
  obtain ⟨sK, sV, h1, h2⟩ := vk_Sof (args := V) (s := s) (N := 12) (tm := tmS) (len := txN) (byt := txB) (A := P) (by decide) (fun i hi => hn _ (bn_ex i hi)) (fun i hi => hn _ (bn_co i hi)) (fun i hi => hn _ (bn_ar i hi)) (fun i hi => hn _ (bn_le i hi)) (fun i hi j hj => hn _ (bn_el i hi j hj)) (fun i j hi hj ne => by
    rcases Nat.lt_or_gt_of_ne ne with q | q
    · exact Or.inl (hn _ (bn_ne j hj i q))
    · exact Or.inr (hn _ (bn_ne i hi j q))) hP
  exact ⟨sK, sV, h1, fun i hi => vk_R.of (hts _ (bw_sr i hi)) (h2 i hi)⟩
theorem b_ro (l : Launch) {b L : Nat} {xs : Nat → Int32} (hts : ∀ w ∈ lw_tbl, w.before V s = true) (hn : ∀ w ∈ nrL, w.before V s = true) (hX : va_X b L xs s s.heap) (hb : b < s.heap.size) : ∃ G : Gx, g_l G = l ∧ g_B G = s.heap.size ∧ g_b G = b ∧ g_L G = L ∧ g_xs G = xs ∧ RO G s s.heap := by
  have ht : ∀ w ∈ tbG, w.before V s = true := fun w hw => hts w (List.mem_filter.mp hw).1
  obtain ⟨D, hD⟩ := Classical.axiomOfChoice (b_cls ht)
  obtain ⟨c0, p0, q0⟩ := b_prim (ht _ wd203)
  obtain ⟨c1, p1, q1⟩ := b_prim (ht _ wd252)
  obtain ⟨c2, p2, q2⟩ := b_prim (ht _ wd202)
  obtain ⟨c3, p3, q3⟩ := b_prim (ht _ wd204)
  obtain ⟨c4, p4, q4⟩ := b_obj (hts _ bw_ao0)
  obtain ⟨c5, p5, q5⟩ := b_obj (hts _ bw_ao1)
  have ha : va_AOA .int s := hts _ bw_ao2
  obtain ⟨c6, p6, q6⟩ := b_arr ha
  have hP : ∀ a : Nat, a < s.heap.size → ¬ s.heap.size ≤ a := fun a q => by omega
  obtain ⟨sK, sV, t1, t2⟩ := b_text hts hn hP
  refine ⟨(l, (fun c => (D c).1, fun c => (D c).2), (fun k => match k with | 0 => c0 | 1 => c1 | 2 => c2 | 3 => c3 | 4 => c4 | 5 => c5 | _ => c6), s.heap.size, (b, L, xs), sK, sV), rfl, rfl, rfl, rfl, rfl, ?_⟩
  refine ⟨⟨fun c r hr => hD c r hr, fun k r hr => ?_⟩, hX, hb, Nat.le_refl _, ⟨t1, t2, va_Zof (hts _ bw_ls0) (hts _ bw_in0) (va_eqt (hn _ bn_cm)) hP, va_Zqof (hts _ bw_ls1) (hts _ bw_in1) (hn _ bn_si) hP⟩, ⟨fun q hq => va_Nc.of (hn _ (bn_nc q hq)), fun q hq => va_Nw.of rfl (hts _ (bw_cs q hq)), fun q hq => va_Nw.of rfl (hts _ (bw_ns q hq))⟩, va_AO.of (hts _ bw_ao0), va_AO.of (hts _ bw_ao1), ha⟩
  match k, hr with
  | 0, hr => cases hr; exact ⟨p0, q0⟩
  | 1, hr => cases hr; exact ⟨p1, q1⟩
  | 2, hr => cases hr; exact ⟨p2, q2⟩
  | 3, hr => cases hr; exact ⟨p3, q3⟩
  | 4, hr => cases hr; exact ⟨p4, q4⟩
  | 5, hr => cases hr; exact ⟨p5, q5⟩
  | 6, hr => cases hr; exact ⟨p6, q6⟩
  | _ + 7, hr => cases hr
end BEG
