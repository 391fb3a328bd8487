noncomputable def F_X12_summed_334 (G : Gx) (h : Hp) (nx : Nat) (s0 : Int32) : Rz Int32 :=
some (s0, h, nx)
set_option maxRecDepth 100000 in
set_option maxHeartbeats 4000000 in
theorem k_X12_summed_334 {G : Gx} {d : Nat} {v' : Int32} {h' : Hp} {n' : Nat} {h : Hp} {nx : Nat} {s0 : Int32} (e : F_X12_summed_334 G h nx s0 = some (v', h', n')) : Ok G mX12_summed (d + 0) (Same (some (.int v')) h' n') 334 [none, none, none, none, none, none, none, none, none, none, none, none] [.int s0] h nx 0 0 := by
  unfold F_X12_summed_334 at e
  exact X.iret dX12_summed_334 rfl (Nat.le_of_ble_eq_true rfl) (Nat.le_of_ble_eq_true rfl) e
noncomputable def F_X12_summed_312 (G : Gx) (k21 : Hp → Nat → Nat → Int32 → Int32 → Int32 → Int32 → Int32 → Int32 → Int32 → Int32 → Rz Int32) (h : Hp) (nx : Nat) (l0 : Nat) (l1 : Int32) (l2 : Int32) (l3 : Int32) (l4 : Int32) (l5 : Int32) (l6 : Int32) (l7 : Int32) (l8 : Int32) : Rz Int32 :=
nm (l8 + (nI 1)) (fun v1 =>
(k21 h nx l0 l1 l2 l3 l4 l5 l6 l7 v1))
set_option maxRecDepth 100000 in
set_option maxHeartbeats 4000000 in
theorem k_X12_summed_312 {G : Gx} {d : Nat} {v' : Int32} {h' : Hp} {n' : Nat} {k21 : Hp → Nat → Nat → Int32 → Int32 → Int32 → Int32 → Int32 → Int32 → Int32 → Int32 → Rz Int32} (K21 : ∀ {h : Hp} {nx : Nat} {l0 : Nat} {l1 : Int32} {l2 : Int32} {l3 : Int32} {l4 : Int32} {l5 : Int32} {l6 : Int32} {l7 : Int32} {l8 : Int32}, k21 h nx l0 l1 l2 l3 l4 l5 l6 l7 l8 = some (v', h', n') → Ok G mX12_summed (d + 0) (Same (some (.int v')) h' n') 21 [some (.ref l0), some (.int l1), some (.int l2), some (.int l3), some (.int l4), some (.int l5), some (.int l6), some (.int l7), some (.int l8), none, none, none] [] h nx 0 0) {h : Hp} {nx : Nat} {l0 : Nat} {l1 : Int32} {l2 : Int32} {l3 : Int32} {l4 : Int32} {l5 : Int32} {l6 : Int32} {l7 : Int32} {l8 : Int32} (e : F_X12_summed_312 G k21 h nx l0 l1 l2 l3 l4 l5 l6 l7 l8 = some (v', h', n')) : Ok G mX12_summed (d + 0) (Same (some (.int v')) h' n') 312 [some (.ref l0), some (.int l1), some (.int l2), some (.int l3), some (.int l4), some (.int l5), some (.int l6), some (.int l7), some (.int l8), none, none, none] [] h nx 0 0 := by
  unfold F_X12_summed_312 at e
  refine X.iinc dX12_summed_312 rfl (by decide) (by decide +kernel) e (L := fun v1 => [some (.ref l0), some (.int l1), some (.int l2), some (.int l3), some (.int l4), some (.int l5), some (.int l6), some (.int l7), some (.int v1), none, none, none]) (fun _ => rfl) (fun v1 e1 => ?_)
  clear e
  refine Ok.goto (tgt := 21) dX12_summed_315 (by decide) ?_
  exact Ok.weakL (K21 e1) ⟨rfl, ⟨rfl, ⟨rfl, ⟨rfl, ⟨rfl, ⟨rfl, ⟨rfl, ⟨rfl, ⟨rfl, trivial⟩⟩⟩⟩⟩⟩⟩⟩⟩
noncomputable def F_X12_summed_309 (G : Gx) (k21 : Hp → Nat → Nat → Int32 → Int32 → Int32 → Int32 → Int32 → Int32 → Int32 → Int32 → Rz Int32) (h : Hp) (nx : Nat) (s0 : Int32) (s1 : Int32) (l0 : Nat) (l1 : Int32) (l2 : Int32) (l3 : Int32) (l4 : Int32) (l5 : Int32) (l7 : Int32) (l8 : Int32) : Rz Int32 :=
nm ((s0 + s1)) (fun v1 =>
(F_X12_summed_312 G k21 h nx l0 l1 l2 l3 l4 l5 v1 l7 l8))
set_option maxRecDepth 100000 in
set_option maxHeartbeats 4000000 in
theorem k_X12_summed_309 {G : Gx} {d : Nat} {v' : Int32} {h' : Hp} {n' : Nat} {k21 : Hp → Nat → Nat → Int32 → Int32 → Int32 → Int32 → Int32 → Int32 → Int32 → Int32 → Rz Int32} (K21 : ∀ {h : Hp} {nx : Nat} {l0 : Nat} {l1 : Int32} {l2 : Int32} {l3 : Int32} {l4 : Int32} {l5 : Int32} {l6 : Int32} {l7 : Int32} {l8 : Int32}, k21 h nx l0 l1 l2 l3 l4 l5 l6 l7 l8 = some (v', h', n') → Ok G mX12_summed (d + 0) (Same (some (.int v')) h' n') 21 [some (.ref l0), some (.int l1), some (.int l2), some (.int l3), some (.int l4), some (.int l5), some (.int l6), some (.int l7), some (.int l8), none, none, none] [] h nx 0 0) {h : Hp} {nx : Nat} {s0 : Int32} {s1 : Int32} {l0 : Nat} {l1 : Int32} {l2 : Int32} {l3 : Int32} {l4 : Int32} {l5 : Int32} {l7 : Int32} {l8 : Int32} (e : F_X12_summed_309 G k21 h nx s0 s1 l0 l1 l2 l3 l4 l5 l7 l8 = some (v', h', n')) : Ok G mX12_summed (d + 0) (Same (some (.int v')) h' n') 309 [some (.ref l0), some (.int l1), some (.int l2), some (.int l3), some (.int l4), some (.int l5), none, some (.int l7), some (.int l8), none, none, none] [.int s1, .int s0] h nx 0 0 := by
  unfold F_X12_summed_309 at e
  refine Ok.iadd dX12_summed_309 ?_
  refine X.istore dX12_summed_310 (by decide) e (L := fun v1 => [some (.ref l0), some (.int l1), some (.int l2), some (.int l3), some (.int l4), some (.int l5), some (.int v1), some (.int l7), some (.int l8), none, none, none]) (fun _ => rfl) (fun v1 e1 => ?_)
  clear e
  exact Ok.weakL (k_X12_summed_312 (d := d) K21 e1) ⟨rfl, ⟨rfl, ⟨rfl, ⟨rfl, ⟨rfl, ⟨rfl, ⟨rfl, ⟨rfl, ⟨rfl, trivial⟩⟩⟩⟩⟩⟩⟩⟩⟩
noncomputable def F_X12_summed_308 (G : Gx) (k21 : Hp → Nat → Nat → Int32 → Int32 → Int32 → Int32 → Int32 → Int32 → Int32 → Int32 → Rz Int32) (h : Hp) (nx : Nat) (s0 : Int32) (l0 : Nat) (l1 : Int32) (l2 : Int32) (l3 : Int32) (l4 : Int32) (l5 : Int32) (l7 : Int32) (l8 : Int32) : Rz Int32 :=
(F_X12_summed_309 G k21 h nx s0 (nI 0) l0 l1 l2 l3 l4 l5 l7 l8)
set_option maxRecDepth 100000 in
set_option maxHeartbeats 4000000 in
theorem k_X12_summed_308 {G : Gx} {d : Nat} {v' : Int32} {h' : Hp} {n' : Nat} {k21 : Hp → Nat → Nat → Int32 → Int32 → Int32 → Int32 → Int32 → Int32 → Int32 → Int32 → Rz Int32} (K21 : ∀ {h : Hp} {nx : Nat} {l0 : Nat} {l1 : Int32} {l2 : Int32} {l3 : Int32} {l4 : Int32} {l5 : Int32} {l6 : Int32} {l7 : Int32} {l8 : Int32}, k21 h nx l0 l1 l2 l3 l4 l5 l6 l7 l8 = some (v', h', n') → Ok G mX12_summed (d + 0) (Same (some (.int v')) h' n') 21 [some (.ref l0), some (.int l1), some (.int l2), some (.int l3), some (.int l4), some (.int l5), some (.int l6), some (.int l7), some (.int l8), none, none, none] [] h nx 0 0) {h : Hp} {nx : Nat} {s0 : Int32} {l0 : Nat} {l1 : Int32} {l2 : Int32} {l3 : Int32} {l4 : Int32} {l5 : Int32} {l7 : Int32} {l8 : Int32} (e : F_X12_summed_308 G k21 h nx s0 l0 l1 l2 l3 l4 l5 l7 l8 = some (v', h', n')) : Ok G mX12_summed (d + 0) (Same (some (.int v')) h' n') 308 [some (.ref l0), some (.int l1), some (.int l2), some (.int l3), some (.int l4), some (.int l5), none, some (.int l7), some (.int l8), none, none, none] [.int s0] h nx 0 0 := by
  unfold F_X12_summed_308 at e
  refine Ok.iconstV (v := (nI 0)) dX12_summed_308 (by decide +kernel) ?_
  exact Ok.weakL (k_X12_summed_309 (d := d) K21 e) ⟨rfl, ⟨rfl, ⟨rfl, ⟨rfl, ⟨rfl, ⟨rfl, ⟨rfl, ⟨rfl, trivial⟩⟩⟩⟩⟩⟩⟩⟩
noncomputable def F_X12_summed_268 (G : Gx) (k21 : Hp → Nat → Nat → Int32 → Int32 → Int32 → Int32 → Int32 → Int32 → Int32 → Int32 → Rz Int32) (h : Hp) (nx : Nat) (s0 : Option Nat) (s1 : Int32) (s2 : Int32) (l0 : Nat) (l1 : Int32) (l2 : Int32) (l3 : Int32) (l4 : Int32) (l5 : Int32) (l6 : Int32) (l7 : Int32) (l8 : Int32) : Rz Int32 :=
nn s0 (fun p1 =>
asI (g_c G 3) (vp_nar .boolean) h p1 s1 s2 (fun h2 =>
(F_X12_summed_312 G k21 h2 nx l0 l1 l2 l3 l4 l5 l6 l7 l8)))
set_option maxRecDepth 100000 in
set_option maxHeartbeats 4000000 in
theorem k_X12_summed_268 {G : Gx} {d : Nat} {v' : Int32} {h' : Hp} {n' : Nat} {k21 : Hp → Nat → Nat → Int32 → Int32 → Int32 → Int32 → Int32 → Int32 → Int32 → Int32 → Rz Int32} (K21 : ∀ {h : Hp} {nx : Nat} {l0 : Nat} {l1 : Int32} {l2 : Int32} {l3 : Int32} {l4 : Int32} {l5 : Int32} {l6 : Int32} {l7 : Int32} {l8 : Int32}, k21 h nx l0 l1 l2 l3 l4 l5 l6 l7 l8 = some (v', h', n') → Ok G mX12_summed (d + 0) (Same (some (.int v')) h' n') 21 [some (.ref l0), some (.int l1), some (.int l2), some (.int l3), some (.int l4), some (.int l5), some (.int l6), some (.int l7), some (.int l8), none, none, none] [] h nx 0 0) {h : Hp} {nx : Nat} {s0 : Option Nat} {s1 : Int32} {s2 : Int32} {l0 : Nat} {l1 : Int32} {l2 : Int32} {l3 : Int32} {l4 : Int32} {l5 : Int32} {l6 : Int32} {l7 : Int32} {l8 : Int32} (e : F_X12_summed_268 G k21 h nx s0 s1 s2 l0 l1 l2 l3 l4 l5 l6 l7 l8 = some (v', h', n')) : Ok G mX12_summed (d + 0) (Same (some (.int v')) h' n') 268 [some (.ref l0), some (.int l1), some (.int l2), some (.int l3), some (.int l4), some (.int l5), some (.int l6), some (.int l7), some (.int l8), none, none, none] [.int s2, .int s1, va_rf s0] h nx 0 0 := by
  unfold F_X12_summed_268 at e
  refine X.rnn e (fun p1 q e1 => ?_)
  clear e
  subst q
  refine X.zast dX12_summed_268 e1 (fun h2 e2 => ?_)
  clear e1
  refine Ok.goto (tgt := 312) dX12_summed_269 (by decide) ?_
  exact Ok.weakL (k_X12_summed_312 (d := d) K21 e2) ⟨rfl, ⟨rfl, ⟨rfl, ⟨rfl, ⟨rfl, ⟨rfl, ⟨rfl, ⟨rfl, ⟨rfl, trivial⟩⟩⟩⟩⟩⟩⟩⟩⟩
noncomputable def F_X12_summed_263 (G : Gx) (k21 : Hp → Nat → Nat → Int32 → Int32 → Int32 → Int32 → Int32 → Int32 → Int32 → Int32 → Rz Int32) (h : Hp) (nx : Nat) (s0 : Option Nat) (s1 : Int32) (l0 : Nat) (l1 : Int32) (l2 : Int32) (l3 : Int32) (l4 : Int32) (l5 : Int32) (l6 : Int32) (l7 : Int32) (l8 : Int32) : Rz Int32 :=
(F_X12_summed_268 G k21 h nx s0 s1 (nI 1) l0 l1 l2 l3 l4 l5 l6 l7 l8)
set_option maxRecDepth 100000 in
set_option maxHeartbeats 4000000 in
theorem k_X12_summed_263 {G : Gx} {d : Nat} {v' : Int32} {h' : Hp} {n' : Nat} {k21 : Hp → Nat → Nat → Int32 → Int32 → Int32 → Int32 → Int32 → Int32 → Int32 → Int32 → Rz Int32} (K21 : ∀ {h : Hp} {nx : Nat} {l0 : Nat} {l1 : Int32} {l2 : Int32} {l3 : Int32} {l4 : Int32} {l5 : Int32} {l6 : Int32} {l7 : Int32} {l8 : Int32}, k21 h nx l0 l1 l2 l3 l4 l5 l6 l7 l8 = some (v', h', n') → Ok G mX12_summed (d + 0) (Same (some (.int v')) h' n') 21 [some (.ref l0), some (.int l1), some (.int l2), some (.int l3), some (.int l4), some (.int l5), some (.int l6), some (.int l7), some (.int l8), none, none, none] [] h nx 0 0) {h : Hp} {nx : Nat} {s0 : Option Nat} {s1 : Int32} {l0 : Nat} {l1 : Int32} {l2 : Int32} {l3 : Int32} {l4 : Int32} {l5 : Int32} {l6 : Int32} {l7 : Int32} {l8 : Int32} (e : F_X12_summed_263 G k21 h nx s0 s1 l0 l1 l2 l3 l4 l5 l6 l7 l8 = some (v', h', n')) : Ok G mX12_summed (d + 0) (Same (some (.int v')) h' n') 263 [some (.ref l0), some (.int l1), some (.int l2), some (.int l3), some (.int l4), some (.int l5), some (.int l6), some (.int l7), some (.int l8), none, none, none] [.int s1, va_rf s0] h nx 0 0 := by
  unfold F_X12_summed_263 at e
  refine Ok.iconstV (v := (nI 1)) dX12_summed_263 (by decide +kernel) ?_
  refine Ok.goto (tgt := 268) dX12_summed_264 (by decide) ?_
  exact Ok.weakL (k_X12_summed_268 (d := d) K21 e) ⟨rfl, ⟨rfl, ⟨rfl, ⟨rfl, ⟨rfl, ⟨rfl, ⟨rfl, ⟨rfl, ⟨rfl, trivial⟩⟩⟩⟩⟩⟩⟩⟩⟩
noncomputable def F_X12_summed_237 (G : Gx) (k21 : Hp → Nat → Nat → Int32 → Int32 → Int32 → Int32 → Int32 → Int32 → Int32 → Int32 → Rz Int32) (h : Hp) (nx : Nat) (s0 : Option Nat) (s1 : Int32) (l0 : Nat) (l1 : Int32) (l2 : Int32) (l3 : Int32) (l4 : Int32) (l5 : Int32) (l6 : Int32) (l7 : Int32) (l8 : Int32) : Rz Int32 :=
(F_X12_summed_268 G k21 h nx s0 s1 (nI 0) l0 l1 l2 l3 l4 l5 l6 l7 l8)
set_option maxRecDepth 100000 in
set_option maxHeartbeats 4000000 in
theorem k_X12_summed_237 {G : Gx} {d : Nat} {v' : Int32} {h' : Hp} {n' : Nat} {k21 : Hp → Nat → Nat → Int32 → Int32 → Int32 → Int32 → Int32 → Int32 → Int32 → Int32 → Rz Int32} (K21 : ∀ {h : Hp} {nx : Nat} {l0 : Nat} {l1 : Int32} {l2 : Int32} {l3 : Int32} {l4 : Int32} {l5 : Int32} {l6 : Int32} {l7 : Int32} {l8 : Int32}, k21 h nx l0 l1 l2 l3 l4 l5 l6 l7 l8 = some (v', h', n') → Ok G mX12_summed (d + 0) (Same (some (.int v')) h' n') 21 [some (.ref l0), some (.int l1), some (.int l2), some (.int l3), some (.int l4), some (.int l5), some (.int l6), some (.int l7), some (.int l8), none, none, none] [] h nx 0 0) {h : Hp} {nx : Nat} {s0 : Option Nat} {s1 : Int32} {l0 : Nat} {l1 : Int32} {l2 : Int32} {l3 : Int32} {l4 : Int32} {l5 : Int32} {l6 : Int32} {l7 : Int32} {l8 : Int32} (e : F_X12_summed_237 G k21 h nx s0 s1 l0 l1 l2 l3 l4 l5 l6 l7 l8 = some (v', h', n')) : Ok G mX12_summed (d + 0) (Same (some (.int v')) h' n') 237 [some (.ref l0), some (.int l1), some (.int l2), some (.int l3), some (.int l4), some (.int l5), some (.int l6), some (.int l7), some (.int l8), none, none, none] [.int s1, va_rf s0] h nx 0 0 := by
  unfold F_X12_summed_237 at e
  refine Ok.iconstV (v := (nI 0)) dX12_summed_237 (by decide +kernel) ?_
  refine Ok.goto (tgt := 268) dX12_summed_238 (by decide) ?_
  exact Ok.weakL (k_X12_summed_268 (d := d) K21 e) ⟨rfl, ⟨rfl, ⟨rfl, ⟨rfl, ⟨rfl, ⟨rfl, ⟨rfl, ⟨rfl, ⟨rfl, trivial⟩⟩⟩⟩⟩⟩⟩⟩⟩
noncomputable def F_X12_summed_182 (G : Gx) (k21 : Hp → Nat → Nat → Int32 → Int32 → Int32 → Int32 → Int32 → Int32 → Int32 → Int32 → Rz Int32) (h : Hp) (nx : Nat) (s0 : Option Nat) (s1 : Int32) (s2 : Int32) (l0 : Nat) (l1 : Int32) (l2 : Int32) (l3 : Int32) (l4 : Int32) (l5 : Int32) (l6 : Int32) (l7 : Int32) (l8 : Int32) : Rz Int32 :=
nn s0 (fun p1 =>
asI (g_c G 3) (vp_nar .boolean) h p1 s1 s2 (fun h2 =>
(F_X12_summed_312 G k21 h2 nx l0 l1 l2 l3 l4 l5 l6 l7 l8)))
set_option maxRecDepth 100000 in
set_option maxHeartbeats 4000000 in
theorem k_X12_summed_182 {G : Gx} {d : Nat} {v' : Int32} {h' : Hp} {n' : Nat} {k21 : Hp → Nat → Nat → Int32 → Int32 → Int32 → Int32 → Int32 → Int32 → Int32 → Int32 → Rz Int32} (K21 : ∀ {h : Hp} {nx : Nat} {l0 : Nat} {l1 : Int32} {l2 : Int32} {l3 : Int32} {l4 : Int32} {l5 : Int32} {l6 : Int32} {l7 : Int32} {l8 : Int32}, k21 h nx l0 l1 l2 l3 l4 l5 l6 l7 l8 = some (v', h', n') → Ok G mX12_summed (d + 0) (Same (some (.int v')) h' n') 21 [some (.ref l0), some (.int l1), some (.int l2), some (.int l3), some (.int l4), some (.int l5), some (.int l6), some (.int l7), some (.int l8), none, none, none] [] h nx 0 0) {h : Hp} {nx : Nat} {s0 : Option Nat} {s1 : Int32} {s2 : Int32} {l0 : Nat} {l1 : Int32} {l2 : Int32} {l3 : Int32} {l4 : Int32} {l5 : Int32} {l6 : Int32} {l7 : Int32} {l8 : Int32} (e : F_X12_summed_182 G k21 h nx s0 s1 s2 l0 l1 l2 l3 l4 l5 l6 l7 l8 = some (v', h', n')) : Ok G mX12_summed (d + 0) (Same (some (.int v')) h' n') 182 [some (.ref l0), some (.int l1), some (.int l2), some (.int l3), some (.int l4), some (.int l5), some (.int l6), some (.int l7), some (.int l8), none, none, none] [.int s2, .int s1, va_rf s0] h nx 0 0 := by
  unfold F_X12_summed_182 at e
  refine X.rnn e (fun p1 q e1 => ?_)
  clear e
  subst q
  refine X.zast dX12_summed_182 e1 (fun h2 e2 => ?_)
  clear e1
  refine Ok.goto (tgt := 312) dX12_summed_183 (by decide) ?_
  exact Ok.weakL (k_X12_summed_312 (d := d) K21 e2) ⟨rfl, ⟨rfl, ⟨rfl, ⟨rfl, ⟨rfl, ⟨rfl, ⟨rfl, ⟨rfl, ⟨rfl, trivial⟩⟩⟩⟩⟩⟩⟩⟩⟩
noncomputable def F_X12_summed_144 (G : Gx) (k21 : Hp → Nat → Nat → Int32 → Int32 → Int32 → Int32 → Int32 → Int32 → Int32 → Int32 → Rz Int32) (h : Hp) (nx : Nat) (s0 : Option Nat) (s1 : Int32) (s2 : Int32) (l0 : Nat) (l1 : Int32) (l2 : Int32) (l3 : Int32) (l4 : Int32) (l5 : Int32) (l6 : Int32) (l7 : Int32) (l8 : Int32) : Rz Int32 :=
nn s0 (fun p1 =>
asI (g_c G 3) (vp_nar .boolean) h p1 s1 s2 (fun h2 =>
nm (l5 + (nI 1)) (fun v3 =>
(F_X12_summed_312 G k21 h2 nx l0 l1 l2 l3 l4 v3 l6 l7 l8))))
set_option maxRecDepth 100000 in
set_option maxHeartbeats 4000000 in
theorem k_X12_summed_144 {G : Gx} {d : Nat} {v' : Int32} {h' : Hp} {n' : Nat} {k21 : Hp → Nat → Nat → Int32 → Int32 → Int32 → Int32 → Int32 → Int32 → Int32 → Int32 → Rz Int32} (K21 : ∀ {h : Hp} {nx : Nat} {l0 : Nat} {l1 : Int32} {l2 : Int32} {l3 : Int32} {l4 : Int32} {l5 : Int32} {l6 : Int32} {l7 : Int32} {l8 : Int32}, k21 h nx l0 l1 l2 l3 l4 l5 l6 l7 l8 = some (v', h', n') → Ok G mX12_summed (d + 0) (Same (some (.int v')) h' n') 21 [some (.ref l0), some (.int l1), some (.int l2), some (.int l3), some (.int l4), some (.int l5), some (.int l6), some (.int l7), some (.int l8), none, none, none] [] h nx 0 0) {h : Hp} {nx : Nat} {s0 : Option Nat} {s1 : Int32} {s2 : Int32} {l0 : Nat} {l1 : Int32} {l2 : Int32} {l3 : Int32} {l4 : Int32} {l5 : Int32} {l6 : Int32} {l7 : Int32} {l8 : Int32} (e : F_X12_summed_144 G k21 h nx s0 s1 s2 l0 l1 l2 l3 l4 l5 l6 l7 l8 = some (v', h', n')) : Ok G mX12_summed (d + 0) (Same (some (.int v')) h' n') 144 [some (.ref l0), some (.int l1), some (.int l2), some (.int l3), some (.int l4), some (.int l5), some (.int l6), some (.int l7), some (.int l8), none, none, none] [.int s2, .int s1, va_rf s0] h nx 0 0 := by
  unfold F_X12_summed_144 at e
  refine X.rnn e (fun p1 q e1 => ?_)
  clear e
  subst q
  refine X.zast dX12_summed_144 e1 (fun h2 e2 => ?_)
  clear e1
  refine X.iinc dX12_summed_145 rfl (by decide) (by decide +kernel) e2 (L := fun v3 => [some (.ref l0), some (.int l1), some (.int l2), some (.int l3), some (.int l4), some (.int v3), some (.int l6), some (.int l7), some (.int l8), none, none, none]) (fun _ => rfl) (fun v3 e3 => ?_)
  clear e2
  refine Ok.goto (tgt := 312) dX12_summed_148 (by decide) ?_
  exact Ok.weakL (k_X12_summed_312 (d := d) K21 e3) ⟨rfl, ⟨rfl, ⟨rfl, ⟨rfl, ⟨rfl, ⟨rfl, ⟨rfl, ⟨rfl, ⟨rfl, trivial⟩⟩⟩⟩⟩⟩⟩⟩⟩
noncomputable def F_X12_summed_66 (G : Gx) (k21 : Hp → Nat → Nat → Int32 → Int32 → Int32 → Int32 → Int32 → Int32 → Int32 → Int32 → Rz Int32) (h : Hp) (nx : Nat) (s0 : Int32) (l0 : Nat) (l1 : Int32) (l2 : Int32) (l3 : Int32) (l4 : Int32) (l5 : Int32) (l6 : Int32) (l7 : Int32) (l8 : Int32) (l9 : Int32) : Rz Int32 :=
nm ((((l9 / (nI 2))) - ((l9 / (nI 2))) / (nI 4) * (nI 4))) (fun v1 =>
gfR h l0 [12] 9 (fun v2 =>
if v1 = 0 then
if ((l9 / (nI 8))) ≤ s0 then
(F_X12_summed_144 G k21 h nx v2 l5 (nI 0) l0 l1 l2 l3 l4 l5 l6 l7 l8)
else
(F_X12_summed_144 G k21 h nx v2 l5 (nI 1) l0 l1 l2 l3 l4 l5 l6 l7 l8)
else
if v1 = (nI 1) then
if s0 = ((l9 / (nI 8))) then
(F_X12_summed_144 G k21 h nx v2 l5 (nI 1) l0 l1 l2 l3 l4 l5 l6 l7 l8)
else
(F_X12_summed_144 G k21 h nx v2 l5 (nI 0) l0 l1 l2 l3 l4 l5 l6 l7 l8)
else
if s0 ≤ ((l9 / (nI 8))) then
(F_X12_summed_144 G k21 h nx v2 l5 (nI 0) l0 l1 l2 l3 l4 l5 l6 l7 l8)
else
(F_X12_summed_144 G k21 h nx v2 l5 (nI 1) l0 l1 l2 l3 l4 l5 l6 l7 l8)))
set_option maxRecDepth 100000 in
set_option maxHeartbeats 4000000 in
theorem k_X12_summed_66 {G : Gx} {d : Nat} {v' : Int32} {h' : Hp} {n' : Nat} {k21 : Hp → Nat → Nat → Int32 → Int32 → Int32 → Int32 → Int32 → Int32 → Int32 → Int32 → Rz Int32} (K21 : ∀ {h : Hp} {nx : Nat} {l0 : Nat} {l1 : Int32} {l2 : Int32} {l3 : Int32} {l4 : Int32} {l5 : Int32} {l6 : Int32} {l7 : Int32} {l8 : Int32}, k21 h nx l0 l1 l2 l3 l4 l5 l6 l7 l8 = some (v', h', n') → Ok G mX12_summed (d + 0) (Same (some (.int v')) h' n') 21 [some (.ref l0), some (.int l1), some (.int l2), some (.int l3), some (.int l4), some (.int l5), some (.int l6), some (.int l7), some (.int l8), none, none, none] [] h nx 0 0) {h : Hp} {nx : Nat} {s0 : Int32} {l0 : Nat} {l1 : Int32} {l2 : Int32} {l3 : Int32} {l4 : Int32} {l5 : Int32} {l6 : Int32} {l7 : Int32} {l8 : Int32} {l9 : Int32} (e : F_X12_summed_66 G k21 h nx s0 l0 l1 l2 l3 l4 l5 l6 l7 l8 l9 = some (v', h', n')) : Ok G mX12_summed (d + 0) (Same (some (.int v')) h' n') 66 [some (.ref l0), some (.int l1), some (.int l2), some (.int l3), some (.int l4), some (.int l5), some (.int l6), some (.int l7), some (.int l8), some (.int l9), none, none] [.int s0] h nx 0 0 := by
  unfold F_X12_summed_66 at e
  refine XL.istore dX12_summed_66 (by decide) (L := [some (.ref l0), some (.int l1), some (.int l2), some (.int l3), some (.int l4), some (.int l5), some (.int l6), some (.int l7), some (.int l8), some (.int l9), some (.int s0), none]) rfl ?_
  refine Ok.iload dX12_summed_68 rfl ?_
  refine Ok.iconstV (v := (nI 2)) dX12_summed_70 (by decide +kernel) ?_
  refine Ok.idiv dX12_summed_71 (by decide +kernel) ?_
  refine Ok.iconstV (v := (nI 4)) dX12_summed_72 (by decide +kernel) ?_
  refine Ok.irem dX12_summed_73 (by decide +kernel) ?_
  refine X.istore dX12_summed_74 (by decide) e (L := fun v1 => [some (.ref l0), some (.int l1), some (.int l2), some (.int l3), some (.int l4), some (.int l5), some (.int l6), some (.int l7), some (.int l8), some (.int l9), some (.int s0), some (.int v1)]) (fun _ => rfl) (fun v1 e1 => ?_)
  clear e
  refine Ok.aload_n dX12_summed_76 rfl ?_
  refine X.rgfR fl_RX12_18 dX12_summed_77 e1 (fun v2 e2 => ?_)
  clear e1
  refine Ok.iload dX12_summed_80 rfl ?_
  refine Ok.iload dX12_summed_82 rfl ?_
  refine X.if_ne (tgt := 105) dX12_summed_84 (by decide) e2 (fun e3 => ?_) (fun e3 => ?_)
  · clear e2
    refine Ok.iload dX12_summed_105 rfl ?_
    refine Ok.iconstV (v := (nI 1)) dX12_summed_107 (by decide +kernel) ?_
    refine X.icmp_ne (tgt := 129) dX12_summed_108 (by decide) e3 (fun e4 => ?_) (fun e4 => ?_)
    · clear e3
      refine Ok.iload dX12_summed_129 rfl ?_
      refine Ok.iload dX12_summed_131 rfl ?_
      refine Ok.bipushV (v := (nI 8)) dX12_summed_133 (by decide +kernel) ?_
      refine Ok.idiv dX12_summed_135 (by decide +kernel) ?_
      refine X.icmp_le (tgt := 143) dX12_summed_136 (by decide) e4 (fun e5 => ?_) (fun e5 => ?_)
      · clear e4
        refine Ok.iconstV (v := (nI 0)) dX12_summed_143 (by decide +kernel) ?_
        exact Ok.weakL (k_X12_summed_144 (d := d) K21 e5) ⟨rfl, ⟨rfl, ⟨rfl, ⟨rfl, ⟨rfl, ⟨rfl, ⟨rfl, ⟨rfl, ⟨rfl, trivial⟩⟩⟩⟩⟩⟩⟩⟩⟩
      · clear e4
        refine Ok.iconstV (v := (nI 1)) dX12_summed_139 (by decide +kernel) ?_
        refine Ok.goto (tgt := 144) dX12_summed_140 (by decide) ?_
        exact Ok.weakL (k_X12_summed_144 (d := d) K21 e5) ⟨rfl, ⟨rfl, ⟨rfl, ⟨rfl, ⟨rfl, ⟨rfl, ⟨rfl, ⟨rfl, ⟨rfl, trivial⟩⟩⟩⟩⟩⟩⟩⟩⟩
    · clear e3
      refine Ok.iload dX12_summed_111 rfl ?_
      refine Ok.iload dX12_summed_113 rfl ?_
      refine Ok.bipushV (v := (nI 8)) dX12_summed_115 (by decide +kernel) ?_
      refine Ok.idiv dX12_summed_117 (by decide +kernel) ?_
      refine X.icmp_ne (tgt := 125) dX12_summed_118 (by decide) e4 (fun e5 => ?_) (fun e5 => ?_)
      · clear e4
        refine Ok.iconstV (v := (nI 0)) dX12_summed_125 (by decide +kernel) ?_
        refine Ok.goto (tgt := 144) dX12_summed_126 (by decide) ?_
        exact Ok.weakL (k_X12_summed_144 (d := d) K21 e5) ⟨rfl, ⟨rfl, ⟨rfl, ⟨rfl, ⟨rfl, ⟨rfl, ⟨rfl, ⟨rfl, ⟨rfl, trivial⟩⟩⟩⟩⟩⟩⟩⟩⟩
      · clear e4
        refine Ok.iconstV (v := (nI 1)) dX12_summed_121 (by decide +kernel) ?_
        refine Ok.goto (tgt := 144) dX12_summed_122 (by decide) ?_
        exact Ok.weakL (k_X12_summed_144 (d := d) K21 e5) ⟨rfl, ⟨rfl, ⟨rfl, ⟨rfl, ⟨rfl, ⟨rfl, ⟨rfl, ⟨rfl, ⟨rfl, trivial⟩⟩⟩⟩⟩⟩⟩⟩⟩
  · clear e2
    refine Ok.iload dX12_summed_87 rfl ?_
    refine Ok.iload dX12_summed_89 rfl ?_
    refine Ok.bipushV (v := (nI 8)) dX12_summed_91 (by decide +kernel) ?_
    refine Ok.idiv dX12_summed_93 (by decide +kernel) ?_
    refine X.icmp_ge (tgt := 101) dX12_summed_94 (by decide) e3 (fun e4 => ?_) (fun e4 => ?_)
    · clear e3
      refine Ok.iconstV (v := (nI 0)) dX12_summed_101 (by decide +kernel) ?_
      refine Ok.goto (tgt := 144) dX12_summed_102 (by decide) ?_
      exact Ok.weakL (k_X12_summed_144 (d := d) K21 e4) ⟨rfl, ⟨rfl, ⟨rfl, ⟨rfl, ⟨rfl, ⟨rfl, ⟨rfl, ⟨rfl, ⟨rfl, trivial⟩⟩⟩⟩⟩⟩⟩⟩⟩
    · clear e3
      refine Ok.iconstV (v := (nI 1)) dX12_summed_97 (by decide +kernel) ?_
      refine Ok.goto (tgt := 144) dX12_summed_98 (by decide) ?_
      exact Ok.weakL (k_X12_summed_144 (d := d) K21 e4) ⟨rfl, ⟨rfl, ⟨rfl, ⟨rfl, ⟨rfl, ⟨rfl, ⟨rfl, ⟨rfl, ⟨rfl, trivial⟩⟩⟩⟩⟩⟩⟩⟩⟩
noncomputable def F_X12_summed_21 (G : Gx) : Nat → Hp → Nat → Nat → Int32 → Int32 → Int32 → Int32 → Int32 → Int32 → Int32 → Int32 → Rz Int32 := fun n => Nat.rec (motive := fun _ => Hp → Nat → Nat → Int32 → Int32 → Int32 → Int32 → Int32 → Int32 → Int32 → Int32 → Rz Int32) (fun _ _ _ _ _ _ _ _ _ _ _ => none) (fun _ k21 => fun h nx l0 l1 l2 l3 l4 l5 l6 l7 l8 =>
gfR h l0 [12] 1 (fun v1 =>
nn v1 (fun p2 =>
alI (g_c G 0) h p2 (((nI 130) + l1)) (fun v3 =>
if ((l7 + v3)) ≤ l8 then
if l6 ≤ (nI 1000) then
(F_X12_summed_334 G h nx l6)
else
(F_X12_summed_334 G h nx (nI 1000))
else
gfR h l0 [12] 1 (fun v4 =>
nn v4 (fun p5 =>
alI (g_c G 0) h p5 l8 (fun v6 =>
if v6 < 0 then
if v6 = (-1 : Int32) then
gfR h l0 [12] 9 (fun v25 =>
gfR h l0 [12] 9 (fun v26 =>
nn v26 (fun p27 =>
alI (g_c G 3) h p27 ((l5 - (nI 1))) (fun v28 =>
if v28 = 0 then
(F_X12_summed_182 G k21 h nx v25 ((l5 - (nI 1))) (nI 1) l0 l1 l2 l3 l4 l5 l6 l7 l8)
else
(F_X12_summed_182 G k21 h nx v25 ((l5 - (nI 1))) (nI 0) l0 l1 l2 l3 l4 l5 l6 l7 l8)))))
else
if v6 ≤ (-10 : Int32) then
nm (((-10 : Int32) - v6)) (fun v7 =>
gfR h l0 [12] 9 (fun v8 =>
nn v8 (fun p9 =>
alI (g_c G 3) h p9 (nI 0) (fun v10 =>
if v10 = 0 then
(F_X12_summed_308 G k21 h nx l6 l0 l1 l2 l3 l4 (nI 0) l7 l8)
else
if ((v7 - v7 / (nI 2) * (nI 2))) = l2 then
(F_X12_summed_309 G k21 h nx l6 ((v7 / (nI 2))) l0 l1 l2 l3 l4 (nI 0) l7 l8)
else
(F_X12_summed_308 G k21 h nx l6 l0 l1 l2 l3 l4 (nI 0) l7 l8)))))
else
nm (l5 + (-1 : Int32)) (fun v11 =>
gfR h l0 [12] 9 (fun v12 =>
if v6 = (-2 : Int32) then
gfR h l0 [12] 9 (fun v19 =>
nn v19 (fun p20 =>
alI (g_c G 3) h p20 ((v11 - (nI 1))) (fun v21 =>
if v21 = 0 then
(F_X12_summed_237 G k21 h nx v12 ((v11 - (nI 1))) l0 l1 l2 l3 l4 v11 l6 l7 l8)
else
gfR h l0 [12] 9 (fun v22 =>
nn v22 (fun p23 =>
alI (g_c G 3) h p23 v11 (fun v24 =>
if v24 = 0 then
(F_X12_summed_237 G k21 h nx v12 ((v11 - (nI 1))) l0 l1 l2 l3 l4 v11 l6 l7 l8)
else
(F_X12_summed_268 G k21 h nx v12 ((v11 - (nI 1))) (nI 1) l0 l1 l2 l3 l4 v11 l6 l7 l8)))))))
else
gfR h l0 [12] 9 (fun v13 =>
nn v13 (fun p14 =>
alI (g_c G 3) h p14 ((v11 - (nI 1))) (fun v15 =>
if v15 = 0 then
gfR h l0 [12] 9 (fun v16 =>
nn v16 (fun p17 =>
alI (g_c G 3) h p17 v11 (fun v18 =>
if v18 = 0 then
(F_X12_summed_268 G k21 h nx v12 ((v11 - (nI 1))) (nI 0) l0 l1 l2 l3 l4 v11 l6 l7 l8)
else
(F_X12_summed_263 G k21 h nx v12 ((v11 - (nI 1))) l0 l1 l2 l3 l4 v11 l6 l7 l8))))
else
(F_X12_summed_263 G k21 h nx v12 ((v11 - (nI 1))) l0 l1 l2 l3 l4 v11 l6 l7 l8))))))
else
if ((v6 - v6 / (nI 2) * (nI 2))) = 0 then
(F_X12_summed_66 G k21 h nx l3 l0 l1 l2 l3 l4 l5 l6 l7 l8 v6)
else
(F_X12_summed_66 G k21 h nx l4 l0 l1 l2 l3 l4 l5 l6 l7 l8 v6)))))))) n
theorem F_X12_summed_21_0 {G : Gx} {h : Hp} {nx : Nat} {l0 : Nat} {l1 : Int32} {l2 : Int32} {l3 : Int32} {l4 : Int32} {l5 : Int32} {l6 : Int32} {l7 : Int32} {l8 : Int32} : F_X12_summed_21 G 0 h nx l0 l1 l2 l3 l4 l5 l6 l7 l8 = none := rfl
theorem F_X12_summed_21_s {G : Gx} {n : Nat} {h : Hp} {nx : Nat} {l0 : Nat} {l1 : Int32} {l2 : Int32} {l3 : Int32} {l4 : Int32} {l5 : Int32} {l6 : Int32} {l7 : Int32} {l8 : Int32} : F_X12_summed_21 G (n + 1) h nx l0 l1 l2 l3 l4 l5 l6 l7 l8 = (
gfR h l0 [12] 1 (fun v1 =>
nn v1 (fun p2 =>
alI (g_c G 0) h p2 (((nI 130) + l1)) (fun v3 =>
if ((l7 + v3)) ≤ l8 then
if l6 ≤ (nI 1000) then
(F_X12_summed_334 G h nx l6)
else
(F_X12_summed_334 G h nx (nI 1000))
else
gfR h l0 [12] 1 (fun v4 =>
nn v4 (fun p5 =>
alI (g_c G 0) h p5 l8 (fun v6 =>
if v6 < 0 then
if v6 = (-1 : Int32) then
gfR h l0 [12] 9 (fun v25 =>
gfR h l0 [12] 9 (fun v26 =>
nn v26 (fun p27 =>
alI (g_c G 3) h p27 ((l5 - (nI 1))) (fun v28 =>
if v28 = 0 then
(F_X12_summed_182 G (F_X12_summed_21 G n) h nx v25 ((l5 - (nI 1))) (nI 1) l0 l1 l2 l3 l4 l5 l6 l7 l8)
else
(F_X12_summed_182 G (F_X12_summed_21 G n) h nx v25 ((l5 - (nI 1))) (nI 0) l0 l1 l2 l3 l4 l5 l6 l7 l8)))))
else
if v6 ≤ (-10 : Int32) then
nm (((-10 : Int32) - v6)) (fun v7 =>
gfR h l0 [12] 9 (fun v8 =>
nn v8 (fun p9 =>
alI (g_c G 3) h p9 (nI 0) (fun v10 =>
if v10 = 0 then
(F_X12_summed_308 G (F_X12_summed_21 G n) h nx l6 l0 l1 l2 l3 l4 (nI 0) l7 l8)
else
if ((v7 - v7 / (nI 2) * (nI 2))) = l2 then
(F_X12_summed_309 G (F_X12_summed_21 G n) h nx l6 ((v7 / (nI 2))) l0 l1 l2 l3 l4 (nI 0) l7 l8)
else
(F_X12_summed_308 G (F_X12_summed_21 G n) h nx l6 l0 l1 l2 l3 l4 (nI 0) l7 l8)))))
else
nm (l5 + (-1 : Int32)) (fun v11 =>
gfR h l0 [12] 9 (fun v12 =>
if v6 = (-2 : Int32) then
gfR h l0 [12] 9 (fun v19 =>
nn v19 (fun p20 =>
alI (g_c G 3) h p20 ((v11 - (nI 1))) (fun v21 =>
if v21 = 0 then
(F_X12_summed_237 G (F_X12_summed_21 G n) h nx v12 ((v11 - (nI 1))) l0 l1 l2 l3 l4 v11 l6 l7 l8)
else
gfR h l0 [12] 9 (fun v22 =>
nn v22 (fun p23 =>
alI (g_c G 3) h p23 v11 (fun v24 =>
if v24 = 0 then
(F_X12_summed_237 G (F_X12_summed_21 G n) h nx v12 ((v11 - (nI 1))) l0 l1 l2 l3 l4 v11 l6 l7 l8)
else
(F_X12_summed_268 G (F_X12_summed_21 G n) h nx v12 ((v11 - (nI 1))) (nI 1) l0 l1 l2 l3 l4 v11 l6 l7 l8)))))))
else
gfR h l0 [12] 9 (fun v13 =>
nn v13 (fun p14 =>
alI (g_c G 3) h p14 ((v11 - (nI 1))) (fun v15 =>
if v15 = 0 then
gfR h l0 [12] 9 (fun v16 =>
nn v16 (fun p17 =>
alI (g_c G 3) h p17 v11 (fun v18 =>
if v18 = 0 then
(F_X12_summed_268 G (F_X12_summed_21 G n) h nx v12 ((v11 - (nI 1))) (nI 0) l0 l1 l2 l3 l4 v11 l6 l7 l8)
else
(F_X12_summed_263 G (F_X12_summed_21 G n) h nx v12 ((v11 - (nI 1))) l0 l1 l2 l3 l4 v11 l6 l7 l8))))
else
(F_X12_summed_263 G (F_X12_summed_21 G n) h nx v12 ((v11 - (nI 1))) l0 l1 l2 l3 l4 v11 l6 l7 l8))))))
else
if ((v6 - v6 / (nI 2) * (nI 2))) = 0 then
(F_X12_summed_66 G (F_X12_summed_21 G n) h nx l3 l0 l1 l2 l3 l4 l5 l6 l7 l8 v6)
else
(F_X12_summed_66 G (F_X12_summed_21 G n) h nx l4 l0 l1 l2 l3 l4 l5 l6 l7 l8 v6)))))))) := rfl
set_option maxRecDepth 100000 in
set_option maxHeartbeats 4000000 in
theorem k_X12_summed_21 {G : Gx} {d : Nat} {v' : Int32} {h' : Hp} {n' : Nat} : ∀ (n : Nat) {h : Hp} {nx : Nat} {l0 : Nat} {l1 : Int32} {l2 : Int32} {l3 : Int32} {l4 : Int32} {l5 : Int32} {l6 : Int32} {l7 : Int32} {l8 : Int32}, F_X12_summed_21 G n h nx l0 l1 l2 l3 l4 l5 l6 l7 l8 = some (v', h', n') → Ok G mX12_summed (d + 0) (Same (some (.int v')) h' n') 21 [some (.ref l0), some (.int l1), some (.int l2), some (.int l3), some (.int l4), some (.int l5), some (.int l6), some (.int l7), some (.int l8), none, none, none] [] h nx 0 0 := by
  intro n
  induction n with
  | zero =>
    intro h nx l0 l1 l2 l3 l4 l5 l6 l7 l8 e
    rw [F_X12_summed_21_0] at e
    cases e
  | succ n K21 =>
    intro h nx l0 l1 l2 l3 l4 l5 l6 l7 l8 e
    rw [F_X12_summed_21_s] at e
    refine Ok.iload dX12_summed_21 rfl ?_
    refine Ok.iload dX12_summed_23 rfl ?_
    refine Ok.aload_n dX12_summed_25 rfl ?_
    refine X.rgfR fl_RX12_9 dX12_summed_26 e (fun v1 e1 => ?_)
    clear e
    refine Ok.sipushV (v := (nI 130)) dX12_summed_29 (by decide +kernel) ?_
    refine Ok.iload_n dX12_summed_32 rfl ?_
    refine Ok.iadd dX12_summed_33 ?_
    refine X.rnn e1 (fun p2 q e2 => ?_)
    clear e1
    subst q
    refine X.iald dX12_summed_34 e2 (fun v3 e3 => ?_)
    clear e2
    refine Ok.iadd dX12_summed_35 ?_
    refine X.icmp_ge (tgt := 318) dX12_summed_36 (by decide) e3 (fun e4 => ?_) (fun e4 => ?_)
    · clear e3
      refine Ok.iload dX12_summed_318 rfl ?_
      refine Ok.sipushV (v := (nI 1000)) dX12_summed_320 (by decide +kernel) ?_
      refine X.icmp_le (tgt := 332) dX12_summed_323 (by decide) e4 (fun e5 => ?_) (fun e5 => ?_)
      · clear e4
        refine Ok.iload dX12_summed_332 rfl ?_
        exact Ok.weakL (k_X12_summed_334 (d := d) e5) trivial
      · clear e4
        refine Ok.sipushV (v := (nI 1000)) dX12_summed_326 (by decide +kernel) ?_
        refine Ok.goto (tgt := 334) dX12_summed_329 (by decide) ?_
        exact Ok.weakL (k_X12_summed_334 (d := d) e5) trivial
    · clear e3
      refine Ok.aload_n dX12_summed_39 rfl ?_
      refine X.rgfR fl_RX12_9 dX12_summed_40 e4 (fun v4 e5 => ?_)
      clear e4
      refine Ok.iload dX12_summed_43 rfl ?_
      refine X.rnn e5 (fun p5 q e6 => ?_)
      clear e5
      subst q
      refine X.iald dX12_summed_45 e6 (fun v6 e7 => ?_)
      clear e6
      refine XL.istore dX12_summed_46 (by decide) (L := [some (.ref l0), some (.int l1), some (.int l2), some (.int l3), some (.int l4), some (.int l5), some (.int l6), some (.int l7), some (.int l8), some (.int v6), none, none]) rfl ?_
      refine Ok.iload dX12_summed_48 rfl ?_
      refine X.if_lt (tgt := 151) dX12_summed_50 (by decide) e7 (fun e8 => ?_) (fun e8 => ?_)
      · clear e7
        refine Ok.iload dX12_summed_151 rfl ?_
        refine Ok.iconstV (v := (-1 : Int32)) dX12_summed_153 (by decide +kernel) ?_
        refine X.icmp_ne (tgt := 186) dX12_summed_154 (by decide) e8 (fun e9 => ?_) (fun e9 => ?_)
        · clear e8
          refine Ok.iload dX12_summed_186 rfl ?_
          refine Ok.bipushV (v := (-10 : Int32)) dX12_summed_188 (by decide +kernel) ?_
          refine X.icmp_le (tgt := 272) dX12_summed_190 (by decide) e9 (fun e10 => ?_) (fun e10 => ?_)
          · clear e9
            refine Ok.iconstV (v := (nI 0)) dX12_summed_272 (by decide +kernel) ?_
            refine XL.istore dX12_summed_273 (by decide) (L := [some (.ref l0), some (.int l1), some (.int l2), some (.int l3), some (.int l4), some (.int (nI 0)), some (.int l6), some (.int l7), some (.int l8), some (.int v6), none, none]) rfl ?_
            refine Ok.bipushV (v := (-10 : Int32)) dX12_summed_275 (by decide +kernel) ?_
            refine Ok.iload dX12_summed_277 rfl ?_
            refine Ok.isub dX12_summed_279 ?_
            refine X.istore dX12_summed_280 (by decide) e10 (L := fun v7 => [some (.ref l0), some (.int l1), some (.int l2), some (.int l3), some (.int l4), some (.int (nI 0)), some (.int l6), some (.int l7), some (.int l8), some (.int v6), some (.int v7), none]) (fun _ => rfl) (fun v7 e11 => ?_)
            clear e10
            refine Ok.iload dX12_summed_282 rfl ?_
            refine Ok.aload_n dX12_summed_284 rfl ?_
            refine X.rgfR fl_RX12_18 dX12_summed_285 e11 (fun v8 e12 => ?_)
            clear e11
            refine Ok.iconstV (v := (nI 0)) dX12_summed_288 (by decide +kernel) ?_
            refine X.rnn e12 (fun p9 q e13 => ?_)
            clear e12
            subst q
            refine X.zald dX12_summed_289 e13 (fun v10 e14 => ?_)
            clear e13
            refine X.if_eq (tgt := 308) dX12_summed_290 (by decide) e14 (fun e15 => ?_) (fun e15 => ?_)
            · clear e14
              exact Ok.weakL (k_X12_summed_308 (d := d) K21 e15) ⟨rfl, ⟨rfl, ⟨rfl, ⟨rfl, ⟨rfl, ⟨rfl, ⟨rfl, ⟨rfl, trivial⟩⟩⟩⟩⟩⟩⟩⟩
            · clear e14
              refine Ok.iload dX12_summed_293 rfl ?_
              refine Ok.iconstV (v := (nI 2)) dX12_summed_295 (by decide +kernel) ?_
              refine Ok.irem dX12_summed_296 (by decide +kernel) ?_
              refine Ok.iload_n dX12_summed_297 rfl ?_
              refine X.icmp_ne (tgt := 308) dX12_summed_298 (by decide) e15 (fun e16 => ?_) (fun e16 => ?_)
              · clear e15
                exact Ok.weakL (k_X12_summed_308 (d := d) K21 e16) ⟨rfl, ⟨rfl, ⟨rfl, ⟨rfl, ⟨rfl, ⟨rfl, ⟨rfl, ⟨rfl, trivial⟩⟩⟩⟩⟩⟩⟩⟩
              · clear e15
                refine Ok.iload dX12_summed_301 rfl ?_
                refine Ok.iconstV (v := (nI 2)) dX12_summed_303 (by decide +kernel) ?_
                refine Ok.idiv dX12_summed_304 (by decide +kernel) ?_
                refine Ok.goto (tgt := 309) dX12_summed_305 (by decide) ?_
                exact Ok.weakL (k_X12_summed_309 (d := d) K21 e16) ⟨rfl, ⟨rfl, ⟨rfl, ⟨rfl, ⟨rfl, ⟨rfl, ⟨rfl, ⟨rfl, trivial⟩⟩⟩⟩⟩⟩⟩⟩
          · clear e9
            refine X.iinc dX12_summed_193 rfl (by decide) (by decide +kernel) e10 (L := fun v11 => [some (.ref l0), some (.int l1), some (.int l2), some (.int l3), some (.int l4), some (.int v11), some (.int l6), some (.int l7), some (.int l8), some (.int v6), none, none]) (fun _ => rfl) (fun v11 e11 => ?_)
            clear e10
            refine Ok.aload_n dX12_summed_196 rfl ?_
            refine X.rgfR fl_RX12_18 dX12_summed_197 e11 (fun v12 e12 => ?_)
            clear e11
            refine Ok.iload dX12_summed_200 rfl ?_
            refine Ok.iconstV (v := (nI 1)) dX12_summed_202 (by decide +kernel) ?_
            refine Ok.isub dX12_summed_203 ?_
            refine Ok.iload dX12_summed_204 rfl ?_
            refine Ok.bipushV (v := (-2 : Int32)) dX12_summed_206 (by decide +kernel) ?_
            refine X.icmp_ne (tgt := 241) dX12_summed_208 (by decide) e12 (fun e13 => ?_) (fun e13 => ?_)
            · clear e12
              refine Ok.aload_n dX12_summed_241 rfl ?_
              refine X.rgfR fl_RX12_18 dX12_summed_242 e13 (fun v13 e14 => ?_)
              clear e13
              refine Ok.iload dX12_summed_245 rfl ?_
              refine Ok.iconstV (v := (nI 1)) dX12_summed_247 (by decide +kernel) ?_
              refine Ok.isub dX12_summed_248 ?_
              refine X.rnn e14 (fun p14 q e15 => ?_)
              clear e14
              subst q
              refine X.zald dX12_summed_249 e15 (fun v15 e16 => ?_)
              clear e15
              refine X.if_ne (tgt := 263) dX12_summed_250 (by decide) e16 (fun e17 => ?_) (fun e17 => ?_)
              · clear e16
                exact Ok.weakL (k_X12_summed_263 (d := d) K21 e17) ⟨rfl, ⟨rfl, ⟨rfl, ⟨rfl, ⟨rfl, ⟨rfl, ⟨rfl, ⟨rfl, ⟨rfl, trivial⟩⟩⟩⟩⟩⟩⟩⟩⟩
              · clear e16
                refine Ok.aload_n dX12_summed_253 rfl ?_
                refine X.rgfR fl_RX12_18 dX12_summed_254 e17 (fun v16 e18 => ?_)
                clear e17
                refine Ok.iload dX12_summed_257 rfl ?_
                refine X.rnn e18 (fun p17 q e19 => ?_)
                clear e18
                subst q
                refine X.zald dX12_summed_259 e19 (fun v18 e20 => ?_)
                clear e19
                refine X.if_eq (tgt := 267) dX12_summed_260 (by decide) e20 (fun e21 => ?_) (fun e21 => ?_)
                · clear e20
                  refine Ok.iconstV (v := (nI 0)) dX12_summed_267 (by decide +kernel) ?_
                  exact Ok.weakL (k_X12_summed_268 (d := d) K21 e21) ⟨rfl, ⟨rfl, ⟨rfl, ⟨rfl, ⟨rfl, ⟨rfl, ⟨rfl, ⟨rfl, ⟨rfl, trivial⟩⟩⟩⟩⟩⟩⟩⟩⟩
                · clear e20
                  exact Ok.weakL (k_X12_summed_263 (d := d) K21 e21) ⟨rfl, ⟨rfl, ⟨rfl, ⟨rfl, ⟨rfl, ⟨rfl, ⟨rfl, ⟨rfl, ⟨rfl, trivial⟩⟩⟩⟩⟩⟩⟩⟩⟩
            · clear e12
              refine Ok.aload_n dX12_summed_211 rfl ?_
              refine X.rgfR fl_RX12_18 dX12_summed_212 e13 (fun v19 e14 => ?_)
              clear e13
              refine Ok.iload dX12_summed_215 rfl ?_
              refine Ok.iconstV (v := (nI 1)) dX12_summed_217 (by decide +kernel) ?_
              refine Ok.isub dX12_summed_218 ?_
              refine X.rnn e14 (fun p20 q e15 => ?_)
              clear e14
              subst q
              refine X.zald dX12_summed_219 e15 (fun v21 e16 => ?_)
              clear e15
              refine X.if_eq (tgt := 237) dX12_summed_220 (by decide) e16 (fun e17 => ?_) (fun e17 => ?_)
              · clear e16
                exact Ok.weakL (k_X12_summed_237 (d := d) K21 e17) ⟨rfl, ⟨rfl, ⟨rfl, ⟨rfl, ⟨rfl, ⟨rfl, ⟨rfl, ⟨rfl, ⟨rfl, trivial⟩⟩⟩⟩⟩⟩⟩⟩⟩
              · clear e16
                refine Ok.aload_n dX12_summed_223 rfl ?_
                refine X.rgfR fl_RX12_18 dX12_summed_224 e17 (fun v22 e18 => ?_)
                clear e17
                refine Ok.iload dX12_summed_227 rfl ?_
                refine X.rnn e18 (fun p23 q e19 => ?_)
                clear e18
                subst q
                refine X.zald dX12_summed_229 e19 (fun v24 e20 => ?_)
                clear e19
                refine X.if_eq (tgt := 237) dX12_summed_230 (by decide) e20 (fun e21 => ?_) (fun e21 => ?_)
                · clear e20
                  exact Ok.weakL (k_X12_summed_237 (d := d) K21 e21) ⟨rfl, ⟨rfl, ⟨rfl, ⟨rfl, ⟨rfl, ⟨rfl, ⟨rfl, ⟨rfl, ⟨rfl, trivial⟩⟩⟩⟩⟩⟩⟩⟩⟩
                · clear e20
                  refine Ok.iconstV (v := (nI 1)) dX12_summed_233 (by decide +kernel) ?_
                  refine Ok.goto (tgt := 268) dX12_summed_234 (by decide) ?_
                  exact Ok.weakL (k_X12_summed_268 (d := d) K21 e21) ⟨rfl, ⟨rfl, ⟨rfl, ⟨rfl, ⟨rfl, ⟨rfl, ⟨rfl, ⟨rfl, ⟨rfl, trivial⟩⟩⟩⟩⟩⟩⟩⟩⟩
        · clear e8
          refine Ok.aload_n dX12_summed_157 rfl ?_
          refine X.rgfR fl_RX12_18 dX12_summed_158 e9 (fun v25 e10 => ?_)
          clear e9
          refine Ok.iload dX12_summed_161 rfl ?_
          refine Ok.iconstV (v := (nI 1)) dX12_summed_163 (by decide +kernel) ?_
          refine Ok.isub dX12_summed_164 ?_
          refine Ok.aload_n dX12_summed_165 rfl ?_
          refine X.rgfR fl_RX12_18 dX12_summed_166 e10 (fun v26 e11 => ?_)
          clear e10
          refine Ok.iload dX12_summed_169 rfl ?_
          refine Ok.iconstV (v := (nI 1)) dX12_summed_171 (by decide +kernel) ?_
          refine Ok.isub dX12_summed_172 ?_
          refine X.rnn e11 (fun p27 q e12 => ?_)
          clear e11
          subst q
          refine X.zald dX12_summed_173 e12 (fun v28 e13 => ?_)
          clear e12
          refine X.if_ne (tgt := 181) dX12_summed_174 (by decide) e13 (fun e14 => ?_) (fun e14 => ?_)
          · clear e13
            refine Ok.iconstV (v := (nI 0)) dX12_summed_181 (by decide +kernel) ?_
            exact Ok.weakL (k_X12_summed_182 (d := d) K21 e14) ⟨rfl, ⟨rfl, ⟨rfl, ⟨rfl, ⟨rfl, ⟨rfl, ⟨rfl, ⟨rfl, ⟨rfl, trivial⟩⟩⟩⟩⟩⟩⟩⟩⟩
          · clear e13
            refine Ok.iconstV (v := (nI 1)) dX12_summed_177 (by decide +kernel) ?_
            refine Ok.goto (tgt := 182) dX12_summed_178 (by decide) ?_
            exact Ok.weakL (k_X12_summed_182 (d := d) K21 e14) ⟨rfl, ⟨rfl, ⟨rfl, ⟨rfl, ⟨rfl, ⟨rfl, ⟨rfl, ⟨rfl, ⟨rfl, trivial⟩⟩⟩⟩⟩⟩⟩⟩⟩
      · clear e7
        refine Ok.iload dX12_summed_53 rfl ?_
        refine Ok.iconstV (v := (nI 2)) dX12_summed_55 (by decide +kernel) ?_
        refine Ok.irem dX12_summed_56 (by decide +kernel) ?_
        refine X.if_ne (tgt := 64) dX12_summed_57 (by decide) e8 (fun e9 => ?_) (fun e9 => ?_)
        · clear e8
          refine Ok.iload dX12_summed_64 rfl ?_
          exact Ok.weakL (k_X12_summed_66 (d := d) K21 e9) ⟨rfl, ⟨rfl, ⟨rfl, ⟨rfl, ⟨rfl, ⟨rfl, ⟨rfl, ⟨rfl, ⟨rfl, ⟨rfl, trivial⟩⟩⟩⟩⟩⟩⟩⟩⟩⟩
        · clear e8
          refine Ok.iload_n dX12_summed_60 rfl ?_
          refine Ok.goto (tgt := 66) dX12_summed_61 (by decide) ?_
          exact Ok.weakL (k_X12_summed_66 (d := d) K21 e9) ⟨rfl, ⟨rfl, ⟨rfl, ⟨rfl, ⟨rfl, ⟨rfl, ⟨rfl, ⟨rfl, ⟨rfl, ⟨rfl, trivial⟩⟩⟩⟩⟩⟩⟩⟩⟩⟩
noncomputable def F_X12_summed (G : Gx) (h : Hp) (nx : Nat) (a0 : Nat) (a1 : Int32) (a2 : Int32) (a3 : Int32) (a4 : Int32) : Rz Int32 :=
nm (((nI 170) + (((nI 140) * a1)))) (fun v1 =>
(F_X12_summed_21 G fuelL h nx a0 a1 a2 a3 a4 (nI 0) (nI 0) v1 v1))
set_option maxRecDepth 100000 in
set_option maxHeartbeats 4000000 in
theorem k_X12_summed {G : Gx} {d : Nat} {h : Hp} {nx : Nat} {a0 : Nat} {a1 : Int32} {a2 : Int32} {a3 : Int32} {a4 : Int32} {v' : Int32} {h' : Hp} {n' : Nat} (e : F_X12_summed G h nx a0 a1 a2 a3 a4 = some (v', h', n')) : Ct G mX12_summed (d + 0) (Same (some (.int v')) h' n') [.ref a0, .int a1, .int a2, .int a3, .int a4] h nx := by
  unfold F_X12_summed at e
  refine Ct.of (ls := [some (.ref a0), some (.int a1), some (.int a2), some (.int a3), some (.int a4), none, none, none, none, none, none, none]) (by decide +kernel) rfl (Nat.le_of_ble_eq_true rfl) rfl ?_
  refine Ok.iconstV (v := (nI 0)) dX12_summed_0 (by decide +kernel) ?_
  refine XL.istore dX12_summed_1 (by decide) (L := [some (.ref a0), some (.int a1), some (.int a2), some (.int a3), some (.int a4), some (.int (nI 0)), none, none, none, none, none, none]) rfl ?_
  refine Ok.iconstV (v := (nI 0)) dX12_summed_3 (by decide +kernel) ?_
  refine XL.istore dX12_summed_4 (by decide) (L := [some (.ref a0), some (.int a1), some (.int a2), some (.int a3), some (.int a4), some (.int (nI 0)), some (.int (nI 0)), none, none, none, none, none]) rfl ?_
  refine Ok.sipushV (v := (nI 170)) dX12_summed_6 (by decide +kernel) ?_
  refine Ok.sipushV (v := (nI 140)) dX12_summed_9 (by decide +kernel) ?_
  refine Ok.iload_n dX12_summed_12 rfl ?_
  refine Ok.imul dX12_summed_13 ?_
  refine Ok.iadd dX12_summed_14 ?_
  refine X.istore dX12_summed_15 (by decide) e (L := fun v1 => [some (.ref a0), some (.int a1), some (.int a2), some (.int a3), some (.int a4), some (.int (nI 0)), some (.int (nI 0)), some (.int v1), none, none, none, none]) (fun _ => rfl) (fun v1 e1 => ?_)
  clear e
  refine Ok.iload dX12_summed_17 rfl ?_
  refine XL.istore dX12_summed_19 (by decide) (L := [some (.ref a0), some (.int a1), some (.int a2), some (.int a3), some (.int a4), some (.int (nI 0)), some (.int (nI 0)), some (.int v1), some (.int v1), none, none, none]) rfl ?_
  exact Ok.weakL (k_X12_summed_21 (d := d) fuelL e1) ⟨rfl, ⟨rfl, ⟨rfl, ⟨rfl, ⟨rfl, ⟨rfl, ⟨rfl, ⟨rfl, ⟨rfl, trivial⟩⟩⟩⟩⟩⟩⟩⟩⟩
noncomputable def F_X12_told_18 (G : Gx) (h : Hp) (nx : Nat) : Rz Int32 :=
some ((-1 : Int32), h, nx)
set_option maxRecDepth 100000 in
set_option maxHeartbeats 4000000 in
theorem k_X12_told_18 {G : Gx} {d : Nat} {v' : Int32} {h' : Hp} {n' : Nat} {h : Hp} {nx : Nat} (e : F_X12_told_18 G h nx = some (v', h', n')) : Ok G mX12_told (d + 2) (Same (some (.int v')) h' n') 18 [none, none, none, none, none] [] h nx 0 0 := by
  unfold F_X12_told_18 at e
  refine Ok.iconstV (v := (-1 : Int32)) dX12_told_18 (by decide +kernel) ?_
  exact X.iret dX12_told_19 rfl (Nat.le_of_ble_eq_true rfl) (Nat.le_of_ble_eq_true rfl) e
noncomputable def F_X12_told_41 (G : Gx) (h : Hp) (nx : Nat) : Rz Int32 :=
some ((-2 : Int32), h, nx)
set_option maxRecDepth 100000 in
set_option maxHeartbeats 4000000 in
theorem k_X12_told_41 {G : Gx} {d : Nat} {v' : Int32} {h' : Hp} {n' : Nat} {h : Hp} {nx : Nat} (e : F_X12_told_41 G h nx = some (v', h', n')) : Ok G mX12_told (d + 2) (Same (some (.int v')) h' n') 41 [none, none, none, none, none] [] h nx 0 0 := by
  unfold F_X12_told_41 at e
  refine Ok.bipushV (v := (-2 : Int32)) dX12_told_41 (by decide +kernel) ?_
  exact X.iret dX12_told_43 rfl (Nat.le_of_ble_eq_true rfl) (Nat.le_of_ble_eq_true rfl) e
noncomputable def F_X12_told_79 (G : Gx) (h : Hp) (nx : Nat) (s0 : Int32) : Rz Int32 :=
some (s0, h, nx)
set_option maxRecDepth 100000 in
set_option maxHeartbeats 4000000 in
theorem k_X12_told_79 {G : Gx} {d : Nat} {v' : Int32} {h' : Hp} {n' : Nat} {h : Hp} {nx : Nat} {s0 : Int32} (e : F_X12_told_79 G h nx s0 = some (v', h', n')) : Ok G mX12_told (d + 2) (Same (some (.int v')) h' n') 79 [none, none, none, none, none] [.int s0] h nx 0 0 := by
  unfold F_X12_told_79 at e
  exact X.iret dX12_told_79 rfl (Nat.le_of_ble_eq_true rfl) (Nat.le_of_ble_eq_true rfl) e
noncomputable def F_X12_told (G : Gx) (h : Hp) (nx : Nat) (a0 : Nat) (a1 : Int32) (a2 : Int32) (a3 : Int32) (a4 : Int32) : Rz Int32 :=
ck h a0 [12] (fun _ =>
cl (F_X12_isSort G h nx a0 a1) (fun r1 h2 n3 =>
if r1 = 0 then
(F_X12_told_18 G h2 n3)
else
cl (F_X12_in G h2 n3 a4 (nI 0) (nI 5)) (fun r4 h5 n6 =>
if r4 = 0 then
(F_X12_told_18 G h5 n6)
else
cl (F_X12_in G h5 n6 a2 (nI 0) (nI 999)) (fun r7 h8 n9 =>
if r7 = 0 then
(F_X12_told_41 G h8 n9)
else
cl (F_X12_in G h8 n9 a3 (nI 0) (nI 99)) (fun r10 h11 n12 =>
if r10 = 0 then
(F_X12_told_41 G h11 n12)
else
if (nI 2) ≤ a4 then
gfR h11 a0 [12] 1 (fun v13 =>
nn v13 (fun p14 =>
alI (g_c G 0) h11 p14 (((((((nI 140) + (((nI 4) * a1)))) + a4)) - (nI 2))) (fun v15 =>
(F_X12_told_79 G h11 n12 v15))))
else
ck h11 a0 [12] (fun _ =>
cl (F_X12_summed G h11 n12 a0 a1 a4 a2 a3) (fun r16 h17 n18 =>
(F_X12_told_79 G h17 n18 r16))))))))
set_option maxRecDepth 100000 in
set_option maxHeartbeats 4000000 in
theorem k_X12_told {G : Gx} {d : Nat} {h : Hp} {nx : Nat} {a0 : Nat} {a1 : Int32} {a2 : Int32} {a3 : Int32} {a4 : Int32} {v' : Int32} {h' : Hp} {n' : Nat} (e : F_X12_told G h nx a0 a1 a2 a3 a4 = some (v', h', n')) : Ct G mX12_told (d + 2) (Same (some (.int v')) h' n') [.ref a0, .int a1, .int a2, .int a3, .int a4] h nx := by
  unfold F_X12_told at e
  refine Ct.of (ls := [some (.ref a0), some (.int a1), some (.int a2), some (.int a3), some (.int a4)]) (by decide +kernel) rfl (Nat.le_of_ble_eq_true rfl) rfl ?_
  refine Ok.aload_n dX12_told_0 rfl ?_
  refine Ok.iload_n dX12_told_1 rfl ?_
  refine X.rck e (fun c fs hb hc e1 => ?_)
  clear e
  obtain rfl := List.mem_singleton.mp hc
  refine X.callV (My := mX12_isSort) (n := 1) (As := [.int a1]) (T := (fun v => (some (.int v)))) (stk' := (fun v => [.int v])) (rest := []) (kc' := 0) (ks' := 0) dX12_told_2 e1 (fun v h n e => k_X12_isSort (d := d + 0) e) hb rfl wd1261 wd80 wd1260 wd36 wd1258 (by decide +kernel) rfl (by decide) rfl rfl (Nat.le_of_ble_eq_true rfl) (Nat.le_of_ble_eq_true rfl) (Nat.le_of_ble_eq_true rfl) rfl rfl (fun _ => rfl) (fun r1 h2 n3 e2 => ?_)
  clear e1
  refine X.if_eq (tgt := 18) dX12_told_5 (by decide) e2 (fun e3 => ?_) (fun e3 => ?_)
  · clear e2
    exact Ok.weakL (k_X12_told_18 (d := d) e3) trivial
  · clear e2
    refine Ok.iload dX12_told_8 rfl ?_
    refine Ok.iconstV (v := (nI 0)) dX12_told_10 (by decide +kernel) ?_
    refine Ok.iconstV (v := (nI 5)) dX12_told_11 (by decide +kernel) ?_
    refine X.callS (My := mX12_in) (n := 3) (As := [.int a4, .int (nI 0), .int (nI 5)]) (T := (fun v => (some (.int v)))) (stk' := (fun v => [.int v])) (rest := []) (kc' := 0) (ks' := 0) dX12_told_12 e3 (fun v h n e => k_X12_in (d := d + 1) e) wd1196 wd80 wd1195 wd1194 (by decide +kernel) rfl (by decide) rfl rfl (Nat.le_of_ble_eq_true rfl) (Nat.le_of_ble_eq_true rfl) (Nat.le_of_ble_eq_true rfl) rfl rfl (fun _ => rfl) (fun r4 h5 n6 e4 => ?_)
    clear e3
    refine X.if_ne (tgt := 20) dX12_told_15 (by decide) e4 (fun e5 => ?_) (fun e5 => ?_)
    · clear e4
      refine Ok.iload_n dX12_told_20 rfl ?_
      refine Ok.iconstV (v := (nI 0)) dX12_told_21 (by decide +kernel) ?_
      refine Ok.sipushV (v := (nI 999)) dX12_told_22 (by decide +kernel) ?_
      refine X.callS (My := mX12_in) (n := 3) (As := [.int a2, .int (nI 0), .int (nI 999)]) (T := (fun v => (some (.int v)))) (stk' := (fun v => [.int v])) (rest := []) (kc' := 0) (ks' := 0) dX12_told_25 e5 (fun v h n e => k_X12_in (d := d + 1) e) wd1196 wd80 wd1195 wd1194 (by decide +kernel) rfl (by decide) rfl rfl (Nat.le_of_ble_eq_true rfl) (Nat.le_of_ble_eq_true rfl) (Nat.le_of_ble_eq_true rfl) rfl rfl (fun _ => rfl) (fun r7 h8 n9 e6 => ?_)
      clear e5
      refine X.if_eq (tgt := 41) dX12_told_28 (by decide) e6 (fun e7 => ?_) (fun e7 => ?_)
      · clear e6
        exact Ok.weakL (k_X12_told_41 (d := d) e7) trivial
      · clear e6
        refine Ok.iload_n dX12_told_31 rfl ?_
        refine Ok.iconstV (v := (nI 0)) dX12_told_32 (by decide +kernel) ?_
        refine Ok.bipushV (v := (nI 99)) dX12_told_33 (by decide +kernel) ?_
        refine X.callS (My := mX12_in) (n := 3) (As := [.int a3, .int (nI 0), .int (nI 99)]) (T := (fun v => (some (.int v)))) (stk' := (fun v => [.int v])) (rest := []) (kc' := 0) (ks' := 0) dX12_told_35 e7 (fun v h n e => k_X12_in (d := d + 1) e) wd1196 wd80 wd1195 wd1194 (by decide +kernel) rfl (by decide) rfl rfl (Nat.le_of_ble_eq_true rfl) (Nat.le_of_ble_eq_true rfl) (Nat.le_of_ble_eq_true rfl) rfl rfl (fun _ => rfl) (fun r10 h11 n12 e8 => ?_)
        clear e7
        refine X.if_ne (tgt := 44) dX12_told_38 (by decide) e8 (fun e9 => ?_) (fun e9 => ?_)
        · clear e8
          refine Ok.iload dX12_told_44 rfl ?_
          refine Ok.iconstV (v := (nI 2)) dX12_told_46 (by decide +kernel) ?_
          refine X.icmp_ge (tgt := 62) dX12_told_47 (by decide) e9 (fun e10 => ?_) (fun e10 => ?_)
          · clear e9
            refine Ok.aload_n dX12_told_62 rfl ?_
            refine X.rgfR fl_RX12_9 dX12_told_63 e10 (fun v13 e11 => ?_)
            clear e10
            refine Ok.sipushV (v := (nI 140)) dX12_told_66 (by decide +kernel) ?_
            refine Ok.iconstV (v := (nI 4)) dX12_told_69 (by decide +kernel) ?_
            refine Ok.iload_n dX12_told_70 rfl ?_
            refine Ok.imul dX12_told_71 ?_
            refine Ok.iadd dX12_told_72 ?_
            refine Ok.iload dX12_told_73 rfl ?_
            refine Ok.iadd dX12_told_75 ?_
            refine Ok.iconstV (v := (nI 2)) dX12_told_76 (by decide +kernel) ?_
            refine Ok.isub dX12_told_77 ?_
            refine X.rnn e11 (fun p14 q e12 => ?_)
            clear e11
            subst q
            refine X.iald dX12_told_78 e12 (fun v15 e13 => ?_)
            clear e12
            exact Ok.weakL (k_X12_told_79 (d := d) e13) trivial
          · clear e9
            refine Ok.aload_n dX12_told_50 rfl ?_
            refine Ok.iload_n dX12_told_51 rfl ?_
            refine Ok.iload dX12_told_52 rfl ?_
            refine Ok.iload_n dX12_told_54 rfl ?_
            refine Ok.iload_n dX12_told_55 rfl ?_
            refine X.rck e10 (fun c fs hb hc e11 => ?_)
            clear e10
            obtain rfl := List.mem_singleton.mp hc
            refine X.callV (My := mX12_summed) (n := 4) (As := [.int a1, .int a4, .int a2, .int a3]) (T := (fun v => (some (.int v)))) (stk' := (fun v => [.int v])) (rest := []) (kc' := 0) (ks' := 0) dX12_told_56 e11 (fun v h n e => k_X12_summed (d := d + 1) e) hb rfl wd1265 wd80 wd1264 wd37 wd1262 (by decide +kernel) rfl (by decide) rfl rfl (Nat.le_of_ble_eq_true rfl) (Nat.le_of_ble_eq_true rfl) (Nat.le_of_ble_eq_true rfl) rfl rfl (fun _ => rfl) (fun r16 h17 n18 e12 => ?_)
            clear e11
            refine Ok.goto (tgt := 79) dX12_told_59 (by decide) ?_
            exact Ok.weakL (k_X12_told_79 (d := d) e12) trivial
        · clear e8
          exact Ok.weakL (k_X12_told_41 (d := d) e9) trivial
    · clear e4
      exact Ok.weakL (k_X12_told_18 (d := d) e5) trivial
noncomputable def F_X12_thing (G : Gx) (h : Hp) (nx : Nat) (a0 : Nat) (a1 : Int32) (a2 : Int32) : Rz Int32 :=
ck h a0 [12] (fun _ =>
cl (F_X12_isSort G h nx a0 a1) (fun r1 h2 n3 =>
if r1 = 0 then
some ((-1 : Int32), h2, n3)
else
cl (F_X12_in G h2 n3 a2 (nI 0) (nI 99)) (fun r4 h5 n6 =>
if r4 = 0 then
some ((-2 : Int32), h5, n6)
else
gfR h5 a0 [12] 1 (fun v7 =>
nn v7 (fun p8 =>
alI (g_c G 0) h5 p8 (nI 1) (fun v9 =>
if v9 = (nI 8) then
some ((-4 : Int32), h5, n6)
else
gfR h5 a0 [12] 1 (fun v10 =>
nn v10 (fun p11 =>
alI (g_c G 0) h5 p11 (nI 1) (fun v12 =>
gfR h5 a0 [12] 1 (fun v13 =>
nn v13 (fun p14 =>
asI (g_c G 0) id h5 p14 (((nI 1010) + v12)) a1 (fun h15 =>
gfR h15 a0 [12] 1 (fun v16 =>
nn v16 (fun p17 =>
asI (g_c G 0) id h15 p17 (((nI 1018) + v12)) a2 (fun h18 =>
gfR h18 a0 [12] 1 (fun v19 =>
nn v19 (fun p20 =>
asI (g_c G 0) id h18 p20 (((nI 1026) + v12)) (nI 1) (fun h21 =>
gfR h21 a0 [12] 1 (fun v22 =>
nn v22 (fun p23 =>
asI (g_c G 0) id h21 p23 (((nI 1034) + v12)) (nI 1000000) (fun h24 =>
gfR h24 a0 [12] 1 (fun v25 =>
nn v25 (fun p26 =>
asI (g_c G 0) id h24 p26 (((nI 1042) + v12)) (nI 0) (fun h27 =>
gfR h27 a0 [12] 1 (fun v28 =>
nn v28 (fun p29 =>
asI (g_c G 0) id h27 p29 (((nI 1050) + v12)) (nI 0) (fun h30 =>
gfR h30 a0 [12] 1 (fun v31 =>
nn v31 (fun p32 =>
asI (g_c G 0) id h30 p32 (((nI 1058) + v12)) (nI 0) (fun h33 =>
gfR h33 a0 [12] 1 (fun v34 =>
nn v34 (fun p35 =>
alI (g_c G 0) h33 p35 (nI 1) (fun v36 =>
asI (g_c G 0) id h33 p35 (nI 1) ((v36 + (nI 1))) (fun h37 =>
some (v12, h37, n6)))))))))))))))))))))))))))))))))))
set_option maxRecDepth 100000 in
set_option maxHeartbeats 4000000 in
theorem k_X12_thing {G : Gx} {d : Nat} {h : Hp} {nx : Nat} {a0 : Nat} {a1 : Int32} {a2 : Int32} {v' : Int32} {h' : Hp} {n' : Nat} (e : F_X12_thing G h nx a0 a1 a2 = some (v', h', n')) : Ct G mX12_thing (d + 2) (Same (some (.int v')) h' n') [.ref a0, .int a1, .int a2] h nx := by
  unfold F_X12_thing at e
  refine Ct.of (ls := [some (.ref a0), some (.int a1), some (.int a2), none]) (by decide +kernel) rfl (Nat.le_of_ble_eq_true rfl) rfl ?_
  refine Ok.aload_n dX12_thing_0 rfl ?_
  refine Ok.iload_n dX12_thing_1 rfl ?_
  refine X.rck e (fun c fs hb hc e1 => ?_)
  clear e
  obtain rfl := List.mem_singleton.mp hc
  refine X.callV (My := mX12_isSort) (n := 1) (As := [.int a1]) (T := (fun v => (some (.int v)))) (stk' := (fun v => [.int v])) (rest := []) (kc' := 0) (ks' := 0) dX12_thing_2 e1 (fun v h n e => k_X12_isSort (d := d + 0) e) hb rfl wd1261 wd80 wd1260 wd36 wd1258 (by decide +kernel) rfl (by decide) rfl rfl (Nat.le_of_ble_eq_true rfl) (Nat.le_of_ble_eq_true rfl) (Nat.le_of_ble_eq_true rfl) rfl rfl (fun _ => rfl) (fun r1 h2 n3 e2 => ?_)
  clear e1
  refine X.if_ne (tgt := 10) dX12_thing_5 (by decide) e2 (fun e3 => ?_) (fun e3 => ?_)
  · clear e2
    refine Ok.iload_n dX12_thing_10 rfl ?_
    refine Ok.iconstV (v := (nI 0)) dX12_thing_11 (by decide +kernel) ?_
    refine Ok.bipushV (v := (nI 99)) dX12_thing_12 (by decide +kernel) ?_
    refine X.callS (My := mX12_in) (n := 3) (As := [.int a2, .int (nI 0), .int (nI 99)]) (T := (fun v => (some (.int v)))) (stk' := (fun v => [.int v])) (rest := []) (kc' := 0) (ks' := 0) dX12_thing_14 e3 (fun v h n e => k_X12_in (d := d + 1) e) wd1196 wd80 wd1195 wd1194 (by decide +kernel) rfl (by decide) rfl rfl (Nat.le_of_ble_eq_true rfl) (Nat.le_of_ble_eq_true rfl) (Nat.le_of_ble_eq_true rfl) rfl rfl (fun _ => rfl) (fun r4 h5 n6 e4 => ?_)
    clear e3
    refine X.if_ne (tgt := 23) dX12_thing_17 (by decide) e4 (fun e5 => ?_) (fun e5 => ?_)
    · clear e4
      refine Ok.aload_n dX12_thing_23 rfl ?_
      refine X.rgfR fl_RX12_9 dX12_thing_24 e5 (fun v7 e6 => ?_)
      clear e5
      refine Ok.iconstV (v := (nI 1)) dX12_thing_27 (by decide +kernel) ?_
      refine X.rnn e6 (fun p8 q e7 => ?_)
      clear e6
      subst q
      refine X.iald dX12_thing_28 e7 (fun v9 e8 => ?_)
      clear e7
      refine Ok.bipushV (v := (nI 8)) dX12_thing_29 (by decide +kernel) ?_
      refine X.icmp_ne (tgt := 37) dX12_thing_31 (by decide) e8 (fun e9 => ?_) (fun e9 => ?_)
      · clear e8
        refine Ok.aload_n dX12_thing_37 rfl ?_
        refine X.rgfR fl_RX12_9 dX12_thing_38 e9 (fun v10 e10 => ?_)
        clear e9
        refine Ok.iconstV (v := (nI 1)) dX12_thing_41 (by decide +kernel) ?_
        refine X.rnn e10 (fun p11 q e11 => ?_)
        clear e10
        subst q
        refine X.iald dX12_thing_42 e11 (fun v12 e12 => ?_)
        clear e11
        refine XL.istore_n dX12_thing_43 (by decide) (L := [some (.ref a0), some (.int a1), some (.int a2), some (.int v12)]) rfl ?_
        refine Ok.aload_n dX12_thing_44 rfl ?_
        refine X.rgfR fl_RX12_9 dX12_thing_45 e12 (fun v13 e13 => ?_)
        clear e12
        refine Ok.sipushV (v := (nI 1010)) dX12_thing_48 (by decide +kernel) ?_
        refine Ok.iload_n dX12_thing_51 rfl ?_
        refine Ok.iadd dX12_thing_52 ?_
        refine Ok.iload_n dX12_thing_53 rfl ?_
        refine X.rnn e13 (fun p14 q e14 => ?_)
        clear e13
        subst q
        refine X.iast dX12_thing_54 e14 (fun h15 e15 => ?_)
        clear e14
        refine Ok.aload_n dX12_thing_55 rfl ?_
        refine X.rgfR fl_RX12_9 dX12_thing_56 e15 (fun v16 e16 => ?_)
        clear e15
        refine Ok.sipushV (v := (nI 1018)) dX12_thing_59 (by decide +kernel) ?_
        refine Ok.iload_n dX12_thing_62 rfl ?_
        refine Ok.iadd dX12_thing_63 ?_
        refine Ok.iload_n dX12_thing_64 rfl ?_
        refine X.rnn e16 (fun p17 q e17 => ?_)
        clear e16
        subst q
        refine X.iast dX12_thing_65 e17 (fun h18 e18 => ?_)
        clear e17
        refine Ok.aload_n dX12_thing_66 rfl ?_
        refine X.rgfR fl_RX12_9 dX12_thing_67 e18 (fun v19 e19 => ?_)
        clear e18
        refine Ok.sipushV (v := (nI 1026)) dX12_thing_70 (by decide +kernel) ?_
        refine Ok.iload_n dX12_thing_73 rfl ?_
        refine Ok.iadd dX12_thing_74 ?_
        refine Ok.iconstV (v := (nI 1)) dX12_thing_75 (by decide +kernel) ?_
        refine X.rnn e19 (fun p20 q e20 => ?_)
        clear e19
        subst q
        refine X.iast dX12_thing_76 e20 (fun h21 e21 => ?_)
        clear e20
        refine Ok.aload_n dX12_thing_77 rfl ?_
        refine X.rgfR fl_RX12_9 dX12_thing_78 e21 (fun v22 e22 => ?_)
        clear e21
        refine Ok.sipushV (v := (nI 1034)) dX12_thing_81 (by decide +kernel) ?_
        refine Ok.iload_n dX12_thing_84 rfl ?_
        refine Ok.iadd dX12_thing_85 ?_
        refine Ok.ldc (v := (nI 1000000)) dX12_thing_86 wd1270 ?_
        refine X.rnn e22 (fun p23 q e23 => ?_)
        clear e22
        subst q
        refine X.iast dX12_thing_88 e23 (fun h24 e24 => ?_)
        clear e23
        refine Ok.aload_n dX12_thing_89 rfl ?_
        refine X.rgfR fl_RX12_9 dX12_thing_90 e24 (fun v25 e25 => ?_)
        clear e24
        refine Ok.sipushV (v := (nI 1042)) dX12_thing_93 (by decide +kernel) ?_
        refine Ok.iload_n dX12_thing_96 rfl ?_
        refine Ok.iadd dX12_thing_97 ?_
        refine Ok.iconstV (v := (nI 0)) dX12_thing_98 (by decide +kernel) ?_
        refine X.rnn e25 (fun p26 q e26 => ?_)
        clear e25
        subst q
        refine X.iast dX12_thing_99 e26 (fun h27 e27 => ?_)
        clear e26
        refine Ok.aload_n dX12_thing_100 rfl ?_
        refine X.rgfR fl_RX12_9 dX12_thing_101 e27 (fun v28 e28 => ?_)
        clear e27
        refine Ok.sipushV (v := (nI 1050)) dX12_thing_104 (by decide +kernel) ?_
        refine Ok.iload_n dX12_thing_107 rfl ?_
        refine Ok.iadd dX12_thing_108 ?_
        refine Ok.iconstV (v := (nI 0)) dX12_thing_109 (by decide +kernel) ?_
        refine X.rnn e28 (fun p29 q e29 => ?_)
        clear e28
        subst q
        refine X.iast dX12_thing_110 e29 (fun h30 e30 => ?_)
        clear e29
        refine Ok.aload_n dX12_thing_111 rfl ?_
        refine X.rgfR fl_RX12_9 dX12_thing_112 e30 (fun v31 e31 => ?_)
        clear e30
        refine Ok.sipushV (v := (nI 1058)) dX12_thing_115 (by decide +kernel) ?_
        refine Ok.iload_n dX12_thing_118 rfl ?_
        refine Ok.iadd dX12_thing_119 ?_
        refine Ok.iconstV (v := (nI 0)) dX12_thing_120 (by decide +kernel) ?_
        refine X.rnn e31 (fun p32 q e32 => ?_)
        clear e31
        subst q
        refine X.iast dX12_thing_121 e32 (fun h33 e33 => ?_)
        clear e32
        refine Ok.aload_n dX12_thing_122 rfl ?_
        refine X.rgfR fl_RX12_9 dX12_thing_123 e33 (fun v34 e34 => ?_)
        clear e33
        refine Ok.iconstV (v := (nI 1)) dX12_thing_126 (by decide +kernel) ?_
        refine Ok.dup2 dX12_thing_127 rfl (va_rf_cat _) ?_
        refine X.rnn e34 (fun p35 q e35 => ?_)
        clear e34
        subst q
        refine X.iald dX12_thing_128 e35 (fun v36 e36 => ?_)
        clear e35
        refine Ok.iconstV (v := (nI 1)) dX12_thing_129 (by decide +kernel) ?_
        refine Ok.iadd dX12_thing_130 ?_
        refine X.iast dX12_thing_131 e36 (fun h37 e37 => ?_)
        clear e36
        refine Ok.iload_n dX12_thing_132 rfl ?_
        exact X.iret dX12_thing_133 rfl (Nat.le_of_ble_eq_true rfl) (Nat.le_of_ble_eq_true rfl) e37
      · clear e8
        refine Ok.bipushV (v := (-4 : Int32)) dX12_thing_34 (by decide +kernel) ?_
        exact X.iret dX12_thing_36 rfl (Nat.le_of_ble_eq_true rfl) (Nat.le_of_ble_eq_true rfl) e9
    · clear e4
      refine Ok.bipushV (v := (-2 : Int32)) dX12_thing_20 (by decide +kernel) ?_
      exact X.iret dX12_thing_22 rfl (Nat.le_of_ble_eq_true rfl) (Nat.le_of_ble_eq_true rfl) e5
  · clear e2
    refine Ok.iconstV (v := (-1 : Int32)) dX12_thing_8 (by decide +kernel) ?_
    exact X.iret dX12_thing_9 rfl (Nat.le_of_ble_eq_true rfl) (Nat.le_of_ble_eq_true rfl) e3
noncomputable def F_X12_of (G : Gx) (h : Hp) (nx : Nat) (a0 : Nat) (a1 : Int32) (a2 : Int32) : Rz Int32 :=
ck h a0 [12] (fun _ =>
cl (F_X12_isThing G h nx a0 a1) (fun r1 h2 n3 =>
if r1 = 0 then
some ((-1 : Int32), h2, n3)
else
if a2 = (nI 0) then
gfR h2 a0 [12] 1 (fun v4 =>
nn v4 (fun p5 =>
alI (g_c G 0) h2 p5 (((nI 1010) + a1)) (fun v6 =>
some (v6, h2, n3))))
else
if a2 = (nI 1) then
gfR h2 a0 [12] 1 (fun v7 =>
nn v7 (fun p8 =>
alI (g_c G 0) h2 p8 (((nI 1018) + a1)) (fun v9 =>
some (v9, h2, n3))))
else
if a2 = (nI 2) then
gfR h2 a0 [12] 1 (fun v10 =>
nn v10 (fun p11 =>
alI (g_c G 0) h2 p11 (((nI 1034) + a1)) (fun v12 =>
some (v12, h2, n3))))
else
if a2 = (nI 3) then
gfR h2 a0 [12] 1 (fun v13 =>
nn v13 (fun p14 =>
alI (g_c G 0) h2 p14 (((nI 1042) + a1)) (fun v15 =>
some (v15, h2, n3))))
else
if a2 = (nI 4) then
gfR h2 a0 [12] 1 (fun v16 =>
nn v16 (fun p17 =>
alI (g_c G 0) h2 p17 (((nI 1050) + a1)) (fun v18 =>
some (v18, h2, n3))))
else
if a2 = (nI 5) then
gfR h2 a0 [12] 1 (fun v19 =>
nn v19 (fun p20 =>
alI (g_c G 0) h2 p20 (((nI 1058) + a1)) (fun v21 =>
some (v21, h2, n3))))
else
some ((-1 : Int32), h2, n3)))
set_option maxRecDepth 100000 in
set_option maxHeartbeats 4000000 in
theorem k_X12_of {G : Gx} {d : Nat} {h : Hp} {nx : Nat} {a0 : Nat} {a1 : Int32} {a2 : Int32} {v' : Int32} {h' : Hp} {n' : Nat} (e : F_X12_of G h nx a0 a1 a2 = some (v', h', n')) : Ct G mX12_of (d + 2) (Same (some (.int v')) h' n') [.ref a0, .int a1, .int a2] h nx := by
  unfold F_X12_of at e
  refine Ct.of (ls := [some (.ref a0), some (.int a1), some (.int a2)]) (by decide +kernel) rfl (Nat.le_of_ble_eq_true rfl) rfl ?_
  refine Ok.aload_n dX12_of_0 rfl ?_
  refine Ok.iload_n dX12_of_1 rfl ?_
  refine X.rck e (fun c fs hb hc e1 => ?_)
  clear e
  obtain rfl := List.mem_singleton.mp hc
  refine X.callV (My := mX12_isThing) (n := 1) (As := [.int a1]) (T := (fun v => (some (.int v)))) (stk' := (fun v => [.int v])) (rest := []) (kc' := 0) (ks' := 0) dX12_of_2 e1 (fun v h n e => k_X12_isThing (d := d + 0) e) hb rfl wd1278 wd80 wd1277 wd38 wd1275 (by decide +kernel) rfl (by decide) rfl rfl (Nat.le_of_ble_eq_true rfl) (Nat.le_of_ble_eq_true rfl) (Nat.le_of_ble_eq_true rfl) rfl rfl (fun _ => rfl) (fun r1 h2 n3 e2 => ?_)
  clear e1
  refine X.if_ne (tgt := 10) dX12_of_5 (by decide) e2 (fun e3 => ?_) (fun e3 => ?_)
  · clear e2
    refine Ok.iload_n dX12_of_10 rfl ?_
    refine X.sw e3 (fun c0 e4 => ?_) (fun c0 e4 => ?_)
    · clear e3
      rw [c0]
      refine Ok.tableIn (off := 37) (tgt := 48) dX12_of_11 (by decide) (by decide) (by decide +kernel) (by decide) ?_
      refine Ok.aload_n dX12_of_48 rfl ?_
      refine X.rgfR fl_RX12_9 dX12_of_49 e4 (fun v4 e5 => ?_)
      clear e4
      refine Ok.sipushV (v := (nI 1010)) dX12_of_52 (by decide +kernel) ?_
      refine Ok.iload_n dX12_of_55 rfl ?_
      refine Ok.iadd dX12_of_56 ?_
      refine X.rnn e5 (fun p5 q e6 => ?_)
      clear e5
      subst q
      refine X.iald dX12_of_57 e6 (fun v6 e7 => ?_)
      clear e6
      exact X.iret dX12_of_58 rfl (Nat.le_of_ble_eq_true rfl) (Nat.le_of_ble_eq_true rfl) e7
    refine X.sw e4 (fun c1 e5 => ?_) (fun c1 e5 => ?_)
    · clear e4
      rw [c1]
      refine Ok.tableIn (off := 48) (tgt := 59) dX12_of_11 (by decide) (by decide) (by decide +kernel) (by decide) ?_
      refine Ok.aload_n dX12_of_59 rfl ?_
      refine X.rgfR fl_RX12_9 dX12_of_60 e5 (fun v7 e6 => ?_)
      clear e5
      refine Ok.sipushV (v := (nI 1018)) dX12_of_63 (by decide +kernel) ?_
      refine Ok.iload_n dX12_of_66 rfl ?_
      refine Ok.iadd dX12_of_67 ?_
      refine X.rnn e6 (fun p8 q e7 => ?_)
      clear e6
      subst q
      refine X.iald dX12_of_68 e7 (fun v9 e8 => ?_)
      clear e7
      exact X.iret dX12_of_69 rfl (Nat.le_of_ble_eq_true rfl) (Nat.le_of_ble_eq_true rfl) e8
    refine X.sw e5 (fun c2 e6 => ?_) (fun c2 e6 => ?_)
    · clear e5
      rw [c2]
      refine Ok.tableIn (off := 59) (tgt := 70) dX12_of_11 (by decide) (by decide) (by decide +kernel) (by decide) ?_
      refine Ok.aload_n dX12_of_70 rfl ?_
      refine X.rgfR fl_RX12_9 dX12_of_71 e6 (fun v10 e7 => ?_)
      clear e6
      refine Ok.sipushV (v := (nI 1034)) dX12_of_74 (by decide +kernel) ?_
      refine Ok.iload_n dX12_of_77 rfl ?_
      refine Ok.iadd dX12_of_78 ?_
      refine X.rnn e7 (fun p11 q e8 => ?_)
      clear e7
      subst q
      refine X.iald dX12_of_79 e8 (fun v12 e9 => ?_)
      clear e8
      exact X.iret dX12_of_80 rfl (Nat.le_of_ble_eq_true rfl) (Nat.le_of_ble_eq_true rfl) e9
    refine X.sw e6 (fun c3 e7 => ?_) (fun c3 e7 => ?_)
    · clear e6
      rw [c3]
      refine Ok.tableIn (off := 70) (tgt := 81) dX12_of_11 (by decide) (by decide) (by decide +kernel) (by decide) ?_
      refine Ok.aload_n dX12_of_81 rfl ?_
      refine X.rgfR fl_RX12_9 dX12_of_82 e7 (fun v13 e8 => ?_)
      clear e7
      refine Ok.sipushV (v := (nI 1042)) dX12_of_85 (by decide +kernel) ?_
      refine Ok.iload_n dX12_of_88 rfl ?_
      refine Ok.iadd dX12_of_89 ?_
      refine X.rnn e8 (fun p14 q e9 => ?_)
      clear e8
      subst q
      refine X.iald dX12_of_90 e9 (fun v15 e10 => ?_)
      clear e9
      exact X.iret dX12_of_91 rfl (Nat.le_of_ble_eq_true rfl) (Nat.le_of_ble_eq_true rfl) e10
    refine X.sw e7 (fun c4 e8 => ?_) (fun c4 e8 => ?_)
    · clear e7
      rw [c4]
      refine Ok.tableIn (off := 81) (tgt := 92) dX12_of_11 (by decide) (by decide) (by decide +kernel) (by decide) ?_
      refine Ok.aload_n dX12_of_92 rfl ?_
      refine X.rgfR fl_RX12_9 dX12_of_93 e8 (fun v16 e9 => ?_)
      clear e8
      refine Ok.sipushV (v := (nI 1050)) dX12_of_96 (by decide +kernel) ?_
      refine Ok.iload_n dX12_of_99 rfl ?_
      refine Ok.iadd dX12_of_100 ?_
      refine X.rnn e9 (fun p17 q e10 => ?_)
      clear e9
      subst q
      refine X.iald dX12_of_101 e10 (fun v18 e11 => ?_)
      clear e10
      exact X.iret dX12_of_102 rfl (Nat.le_of_ble_eq_true rfl) (Nat.le_of_ble_eq_true rfl) e11
    refine X.sw e8 (fun c5 e9 => ?_) (fun c5 e9 => ?_)
    · clear e8
      rw [c5]
      refine Ok.tableIn (off := 92) (tgt := 103) dX12_of_11 (by decide) (by decide) (by decide +kernel) (by decide) ?_
      refine Ok.aload_n dX12_of_103 rfl ?_
      refine X.rgfR fl_RX12_9 dX12_of_104 e9 (fun v19 e10 => ?_)
      clear e9
      refine Ok.sipushV (v := (nI 1058)) dX12_of_107 (by decide +kernel) ?_
      refine Ok.iload_n dX12_of_110 rfl ?_
      refine Ok.iadd dX12_of_111 ?_
      refine X.rnn e10 (fun p20 q e11 => ?_)
      clear e10
      subst q
      refine X.iald dX12_of_112 e11 (fun v21 e12 => ?_)
      clear e11
      exact X.iret dX12_of_113 rfl (Nat.le_of_ble_eq_true rfl) (Nat.le_of_ble_eq_true rfl) e12
    refine Ok.tableOut (tgt := 114) dX12_of_11 (sw_out 0 6 (fun i hi => match i, hi with | 0, _ => c0 | 1, _ => c1 | 2, _ => c2 | 3, _ => c3 | 4, _ => c4 | 5, _ => c5 | _ + 6, q => absurd q (by omega))) (by decide) ?_
    refine Ok.iconstV (v := (-1 : Int32)) dX12_of_114 (by decide +kernel) ?_
    exact X.iret dX12_of_115 rfl (Nat.le_of_ble_eq_true rfl) (Nat.le_of_ble_eq_true rfl) e9
  · clear e2
    refine Ok.iconstV (v := (-1 : Int32)) dX12_of_8 (by decide +kernel) ?_
    exact X.iret dX12_of_9 rfl (Nat.le_of_ble_eq_true rfl) (Nat.le_of_ble_eq_true rfl) e3
noncomputable def F_X12_illOf_66 (G : Gx) (h : Hp) (nx : Nat) (s0 : Int32) : Rz Int32 :=
some (s0, h, nx)
set_option maxRecDepth 100000 in
set_option maxHeartbeats 4000000 in
theorem k_X12_illOf_66 {G : Gx} {d : Nat} {v' : Int32} {h' : Hp} {n' : Nat} {h : Hp} {nx : Nat} {s0 : Int32} (e : F_X12_illOf_66 G h nx s0 = some (v', h', n')) : Ok G mX12_illOf (d + 1) (Same (some (.int v')) h' n') 66 [none, none, none, none] [.int s0] h nx 0 0 := by
  unfold F_X12_illOf_66 at e
  exact X.iret dX12_illOf_66 rfl (Nat.le_of_ble_eq_true rfl) (Nat.le_of_ble_eq_true rfl) e
noncomputable def F_X12_illOf_42 (G : Gx) (h : Hp) (nx : Nat) (s0 : Int32) (s1 : Int32) : Rz Int32 :=
nm ((s0 + s1)) (fun v1 =>
if 0 ≤ v1 then
if v1 ≤ (nI 1000) then
(F_X12_illOf_66 G h nx v1)
else
(F_X12_illOf_66 G h nx (nI 1000))
else
(F_X12_illOf_66 G h nx (nI 0)))
set_option maxRecDepth 100000 in
set_option maxHeartbeats 4000000 in
theorem k_X12_illOf_42 {G : Gx} {d : Nat} {v' : Int32} {h' : Hp} {n' : Nat} {h : Hp} {nx : Nat} {s0 : Int32} {s1 : Int32} (e : F_X12_illOf_42 G h nx s0 s1 = some (v', h', n')) : Ok G mX12_illOf (d + 1) (Same (some (.int v')) h' n') 42 [none, none, none, none] [.int s1, .int s0] h nx 0 0 := by
  unfold F_X12_illOf_42 at e
  refine Ok.iadd dX12_illOf_42 ?_
  refine X.istore_n dX12_illOf_43 (by decide) e (L := fun v1 => [none, none, none, some (.int v1)]) (fun _ => rfl) (fun v1 e1 => ?_)
  clear e
  refine Ok.iload_n dX12_illOf_44 rfl ?_
  refine X.if_ge (tgt := 52) dX12_illOf_45 (by decide) e1 (fun e2 => ?_) (fun e2 => ?_)
  · clear e1
    refine Ok.iload_n dX12_illOf_52 rfl ?_
    refine Ok.sipushV (v := (nI 1000)) dX12_illOf_53 (by decide +kernel) ?_
    refine X.icmp_le (tgt := 65) dX12_illOf_56 (by decide) e2 (fun e3 => ?_) (fun e3 => ?_)
    · clear e2
      refine Ok.iload_n dX12_illOf_65 rfl ?_
      exact Ok.weakL (k_X12_illOf_66 (d := d) e3) trivial
    · clear e2
      refine Ok.sipushV (v := (nI 1000)) dX12_illOf_59 (by decide +kernel) ?_
      refine Ok.goto (tgt := 66) dX12_illOf_62 (by decide) ?_
      exact Ok.weakL (k_X12_illOf_66 (d := d) e3) trivial
  · clear e1
    refine Ok.iconstV (v := (nI 0)) dX12_illOf_48 (by decide +kernel) ?_
    refine Ok.goto (tgt := 66) dX12_illOf_49 (by decide) ?_
    exact Ok.weakL (k_X12_illOf_66 (d := d) e2) trivial
noncomputable def F_X12_illOf (G : Gx) (h : Hp) (nx : Nat) (a0 : Nat) (a1 : Int32) (a2 : Int32) : Rz Int32 :=
gfR h a0 [12] 1 (fun v1 =>
nn v1 (fun p2 =>
alI (g_c G 0) h p2 (((nI 1010) + a1)) (fun v3 =>
gfR h a0 [12] 1 (fun v4 =>
nn v4 (fun p5 =>
alI (g_c G 0) h p5 (((nI 1018) + a1)) (fun v6 =>
ck h a0 [12] (fun _ =>
cl (F_X12_summed G h nx a0 v3 (nI 0) a2 v6) (fun r7 h8 n9 =>
gfI h8 a0 [12] 10 (fun v10 =>
if a1 = v10 then
gfI h8 a0 [12] 11 (fun v11 =>
(F_X12_illOf_42 G h8 n9 r7 v11))
else
(F_X12_illOf_42 G h8 n9 r7 (nI 0)))))))))))
set_option maxRecDepth 100000 in
set_option maxHeartbeats 4000000 in
theorem k_X12_illOf {G : Gx} {d : Nat} {h : Hp} {nx : Nat} {a0 : Nat} {a1 : Int32} {a2 : Int32} {v' : Int32} {h' : Hp} {n' : Nat} (e : F_X12_illOf G h nx a0 a1 a2 = some (v', h', n')) : Ct G mX12_illOf (d + 1) (Same (some (.int v')) h' n') [.ref a0, .int a1, .int a2] h nx := by
  unfold F_X12_illOf at e
  refine Ct.of (ls := [some (.ref a0), some (.int a1), some (.int a2), none]) (by decide +kernel) rfl (Nat.le_of_ble_eq_true rfl) rfl ?_
  refine Ok.aload_n dX12_illOf_0 rfl ?_
  refine Ok.aload_n dX12_illOf_1 rfl ?_
  refine X.rgfR fl_RX12_9 dX12_illOf_2 e (fun v1 e1 => ?_)
  clear e
  refine Ok.sipushV (v := (nI 1010)) dX12_illOf_5 (by decide +kernel) ?_
  refine Ok.iload_n dX12_illOf_8 rfl ?_
  refine Ok.iadd dX12_illOf_9 ?_
  refine X.rnn e1 (fun p2 q e2 => ?_)
  clear e1
  subst q
  refine X.iald dX12_illOf_10 e2 (fun v3 e3 => ?_)
  clear e2
  refine Ok.iconstV (v := (nI 0)) dX12_illOf_11 (by decide +kernel) ?_
  refine Ok.iload_n dX12_illOf_12 rfl ?_
  refine Ok.aload_n dX12_illOf_13 rfl ?_
  refine X.rgfR fl_RX12_9 dX12_illOf_14 e3 (fun v4 e4 => ?_)
  clear e3
  refine Ok.sipushV (v := (nI 1018)) dX12_illOf_17 (by decide +kernel) ?_
  refine Ok.iload_n dX12_illOf_20 rfl ?_
  refine Ok.iadd dX12_illOf_21 ?_
  refine X.rnn e4 (fun p5 q e5 => ?_)
  clear e4
  subst q
  refine X.iald dX12_illOf_22 e5 (fun v6 e6 => ?_)
  clear e5
  refine X.rck e6 (fun c fs hb hc e7 => ?_)
  clear e6
  obtain rfl := List.mem_singleton.mp hc
  refine X.callV (My := mX12_summed) (n := 4) (As := [.int v3, .int (nI 0), .int a2, .int v6]) (T := (fun v => (some (.int v)))) (stk' := (fun v => [.int v])) (rest := []) (kc' := 0) (ks' := 0) dX12_illOf_23 e7 (fun v h n e => k_X12_summed (d := d + 0) e) hb rfl wd1265 wd80 wd1264 wd37 wd1262 (by decide +kernel) rfl (by decide) rfl rfl (Nat.le_of_ble_eq_true rfl) (Nat.le_of_ble_eq_true rfl) (Nat.le_of_ble_eq_true rfl) rfl rfl (fun _ => rfl) (fun r7 h8 n9 e8 => ?_)
  clear e7
  refine Ok.iload_n dX12_illOf_26 rfl ?_
  refine Ok.aload_n dX12_illOf_27 rfl ?_
  refine X.rgfI fl_RX12_22 dX12_illOf_28 e8 (fun v10 e9 => ?_)
  clear e8
  refine X.icmp_ne (tgt := 41) dX12_illOf_31 (by decide) e9 (fun e10 => ?_) (fun e10 => ?_)
  · clear e9
    refine Ok.iconstV (v := (nI 0)) dX12_illOf_41 (by decide +kernel) ?_
    exact Ok.weakL (k_X12_illOf_42 (d := d) e10) trivial
  · clear e9
    refine Ok.aload_n dX12_illOf_34 rfl ?_
    refine X.rgfI fl_RX12_161 dX12_illOf_35 e10 (fun v11 e11 => ?_)
    clear e10
    refine Ok.goto (tgt := 42) dX12_illOf_38 (by decide) ?_
    exact Ok.weakL (k_X12_illOf_42 (d := d) e11) trivial
noncomputable def F_X12_healOf (G : Gx) (h : Hp) (nx : Nat) (a0 : Nat) (a1 : Int32) (a2 : Int32) : Rz Int32 :=
gfR h a0 [12] 1 (fun v1 =>
nn v1 (fun p2 =>
alI (g_c G 0) h p2 (((nI 1010) + a1)) (fun v3 =>
gfR h a0 [12] 1 (fun v4 =>
nn v4 (fun p5 =>
alI (g_c G 0) h p5 (((nI 1018) + a1)) (fun v6 =>
ck h a0 [12] (fun _ =>
cl (F_X12_summed G h nx a0 v3 (nI 1) a2 v6) (fun r7 h8 n9 =>
some (r7, h8, n9)))))))))
set_option maxRecDepth 100000 in
set_option maxHeartbeats 4000000 in
theorem k_X12_healOf {G : Gx} {d : Nat} {h : Hp} {nx : Nat} {a0 : Nat} {a1 : Int32} {a2 : Int32} {v' : Int32} {h' : Hp} {n' : Nat} (e : F_X12_healOf G h nx a0 a1 a2 = some (v', h', n')) : Ct G mX12_healOf (d + 1) (Same (some (.int v')) h' n') [.ref a0, .int a1, .int a2] h nx := by
  unfold F_X12_healOf at e
  refine Ct.of (ls := [some (.ref a0), some (.int a1), some (.int a2)]) (by decide +kernel) rfl (Nat.le_of_ble_eq_true rfl) rfl ?_
  refine Ok.aload_n dX12_healOf_0 rfl ?_
  refine Ok.aload_n dX12_healOf_1 rfl ?_
  refine X.rgfR fl_RX12_9 dX12_healOf_2 e (fun v1 e1 => ?_)
  clear e
  refine Ok.sipushV (v := (nI 1010)) dX12_healOf_5 (by decide +kernel) ?_
  refine Ok.iload_n dX12_healOf_8 rfl ?_
  refine Ok.iadd dX12_healOf_9 ?_
  refine X.rnn e1 (fun p2 q e2 => ?_)
  clear e1
  subst q
  refine X.iald dX12_healOf_10 e2 (fun v3 e3 => ?_)
  clear e2
  refine Ok.iconstV (v := (nI 1)) dX12_healOf_11 (by decide +kernel) ?_
  refine Ok.iload_n dX12_healOf_12 rfl ?_
  refine Ok.aload_n dX12_healOf_13 rfl ?_
  refine X.rgfR fl_RX12_9 dX12_healOf_14 e3 (fun v4 e4 => ?_)
  clear e3
  refine Ok.sipushV (v := (nI 1018)) dX12_healOf_17 (by decide +kernel) ?_
  refine Ok.iload_n dX12_healOf_20 rfl ?_
  refine Ok.iadd dX12_healOf_21 ?_
  refine X.rnn e4 (fun p5 q e5 => ?_)
  clear e4
  subst q
  refine X.iald dX12_healOf_22 e5 (fun v6 e6 => ?_)
  clear e5
  refine X.rck e6 (fun c fs hb hc e7 => ?_)
  clear e6
  obtain rfl := List.mem_singleton.mp hc
  refine X.callV (My := mX12_summed) (n := 4) (As := [.int v3, .int (nI 1), .int a2, .int v6]) (T := (fun v => (some (.int v)))) (stk' := (fun v => [.int v])) (rest := []) (kc' := 0) (ks' := 0) dX12_healOf_23 e7 (fun v h n e => k_X12_summed (d := d + 0) e) hb rfl wd1265 wd80 wd1264 wd37 wd1262 (by decide +kernel) rfl (by decide) rfl rfl (Nat.le_of_ble_eq_true rfl) (Nat.le_of_ble_eq_true rfl) (Nat.le_of_ble_eq_true rfl) rfl rfl (fun _ => rfl) (fun r7 h8 n9 e8 => ?_)
  clear e7
  exact X.iret dX12_healOf_26 rfl (Nat.le_of_ble_eq_true rfl) (Nat.le_of_ble_eq_true rfl) e8
noncomputable def F_X12_value (G : Gx) (h : Hp) (nx : Nat) (a0 : Nat) (a1 : Int32) (a2 : Int32) : Rz Int32 :=
gfR h a0 [12] 1 (fun v1 =>
gfR h a0 [12] 1 (fun v2 =>
nn v2 (fun p3 =>
alI (g_c G 0) h p3 (((nI 1010) + a1)) (fun v4 =>
nn v1 (fun p5 =>
alI (g_c G 0) h p5 (((((nI 140) + (((nI 4) * v4)))) + a2)) (fun v6 =>
some (v6, h, nx)))))))
set_option maxRecDepth 100000 in
set_option maxHeartbeats 4000000 in
theorem k_X12_value {G : Gx} {d : Nat} {h : Hp} {nx : Nat} {a0 : Nat} {a1 : Int32} {a2 : Int32} {v' : Int32} {h' : Hp} {n' : Nat} (e : F_X12_value G h nx a0 a1 a2 = some (v', h', n')) : Ct G mX12_value (d + 0) (Same (some (.int v')) h' n') [.ref a0, .int a1, .int a2] h nx := by
  unfold F_X12_value at e
  refine Ct.of (ls := [some (.ref a0), some (.int a1), some (.int a2)]) (by decide +kernel) rfl (Nat.le_of_ble_eq_true rfl) rfl ?_
  refine Ok.aload_n dX12_value_0 rfl ?_
  refine X.rgfR fl_RX12_9 dX12_value_1 e (fun v1 e1 => ?_)
  clear e
  refine Ok.sipushV (v := (nI 140)) dX12_value_4 (by decide +kernel) ?_
  refine Ok.iconstV (v := (nI 4)) dX12_value_7 (by decide +kernel) ?_
  refine Ok.aload_n dX12_value_8 rfl ?_
  refine X.rgfR fl_RX12_9 dX12_value_9 e1 (fun v2 e2 => ?_)
  clear e1
  refine Ok.sipushV (v := (nI 1010)) dX12_value_12 (by decide +kernel) ?_
  refine Ok.iload_n dX12_value_15 rfl ?_
  refine Ok.iadd dX12_value_16 ?_
  refine X.rnn e2 (fun p3 q e3 => ?_)
  clear e2
  subst q
  refine X.iald dX12_value_17 e3 (fun v4 e4 => ?_)
  clear e3
  refine Ok.imul dX12_value_18 ?_
  refine Ok.iadd dX12_value_19 ?_
  refine Ok.iload_n dX12_value_20 rfl ?_
  refine Ok.iadd dX12_value_21 ?_
  refine X.rnn e4 (fun p5 q e5 => ?_)
  clear e4
  subst q
  refine X.iald dX12_value_22 e5 (fun v6 e6 => ?_)
  clear e5
  exact X.iret dX12_value_23 rfl (Nat.le_of_ble_eq_true rfl) (Nat.le_of_ble_eq_true rfl) e6
noncomputable def F_X12_overOf (G : Gx) (h : Hp) (nx : Nat) (a0 : Nat) (a1 : Int32) (a2 : Int32) (a3 : Int32) : Rz Int32 :=
ck h a0 [12] (fun _ =>
cl (F_X12_illOf G h nx a0 a1 a3) (fun r1 h2 n3 =>
nm (((((a2.toInt64) * ((((nI 1000) - r1)).toInt64))) / (1000 : Int64))) (fun v4 =>
ck h2 a0 [12] (fun _ =>
cl (F_X12_healOf G h2 n3 a0 a1 a3) (fun r5 h6 n7 =>
nm ((((((((nI 1000000) - a2)).toInt64) * (r5.toInt64))) / (1000 : Int64))) (fun v8 =>
some ((((v4 + v8)).toInt32), h6, n7)))))))
set_option maxRecDepth 100000 in
set_option maxHeartbeats 4000000 in
theorem k_X12_overOf {G : Gx} {d : Nat} {h : Hp} {nx : Nat} {a0 : Nat} {a1 : Int32} {a2 : Int32} {a3 : Int32} {v' : Int32} {h' : Hp} {n' : Nat} (e : F_X12_overOf G h nx a0 a1 a2 a3 = some (v', h', n')) : Ct G mX12_overOf (d + 2) (Same (some (.int v')) h' n') [.ref a0, .int a1, .int a2, .int a3] h nx := by
  unfold F_X12_overOf at e
  refine Ct.of (ls := [some (.ref a0), some (.int a1), some (.int a2), some (.int a3), none, none, none, none]) (by decide +kernel) rfl (Nat.le_of_ble_eq_true rfl) rfl ?_
  refine Ok.iload_n dX12_overOf_0 rfl ?_
  refine Ok.i2l dX12_overOf_1 ?_
  refine Ok.sipushV (v := (nI 1000)) dX12_overOf_2 (by decide +kernel) ?_
  refine Ok.aload_n dX12_overOf_5 rfl ?_
  refine Ok.iload_n dX12_overOf_6 rfl ?_
  refine Ok.iload_n dX12_overOf_7 rfl ?_
  refine X.rck e (fun c fs hb hc e1 => ?_)
  clear e
  obtain rfl := List.mem_singleton.mp hc
  refine X.callV (My := mX12_illOf) (n := 2) (As := [.int a1, .int a3]) (T := (fun v => (some (.int v)))) (stk' := (fun v => [.int v, .int (nI 1000), .long (a2.toInt64)])) (rest := [.int (nI 1000), .long (a2.toInt64)]) (kc' := 0) (ks' := 0) dX12_overOf_8 e1 (fun v h n e => k_X12_illOf (d := d + 0) e) hb rfl wd1294 wd80 wd1293 wd41 wd1291 (by decide +kernel) rfl (by decide) rfl rfl (Nat.le_of_ble_eq_true rfl) (Nat.le_of_ble_eq_true rfl) (Nat.le_of_ble_eq_true rfl) rfl rfl (fun _ => rfl) (fun r1 h2 n3 e2 => ?_)
  clear e1
  refine Ok.isub dX12_overOf_11 ?_
  refine Ok.i2l dX12_overOf_12 ?_
  refine Ok.lmul dX12_overOf_13 ?_
  refine Ok.ldc2_w (v := 1000) dX12_overOf_14 wd1295 ?_
  refine Ok.ldiv dX12_overOf_17 (by decide +kernel) ?_
  refine X.lstore dX12_overOf_18 (by decide) e2 (L := fun v4 => [some (.ref a0), some (.int a1), some (.int a2), some (.int a3), some (.long v4), none, none, none]) (fun _ => rfl) (fun v4 e3 => ?_)
  clear e2
  refine Ok.ldc (v := (nI 1000000)) dX12_overOf_20 wd1270 ?_
  refine Ok.iload_n dX12_overOf_22 rfl ?_
  refine Ok.isub dX12_overOf_23 ?_
  refine Ok.i2l dX12_overOf_24 ?_
  refine Ok.aload_n dX12_overOf_25 rfl ?_
  refine Ok.iload_n dX12_overOf_26 rfl ?_
  refine Ok.iload_n dX12_overOf_27 rfl ?_
  refine X.rck e3 (fun c fs hb hc e4 => ?_)
  clear e3
  obtain rfl := List.mem_singleton.mp hc
  refine X.callV (My := mX12_healOf) (n := 2) (As := [.int a1, .int a3]) (T := (fun v => (some (.int v)))) (stk' := (fun v => [.int v, .long ((((nI 1000000) - a2)).toInt64)])) (rest := [.long ((((nI 1000000) - a2)).toInt64)]) (kc' := 0) (ks' := 0) dX12_overOf_28 e4 (fun v h n e => k_X12_healOf (d := d + 0) e) hb rfl wd1299 wd80 wd1298 wd42 wd1296 (by decide +kernel) rfl (by decide) rfl rfl (Nat.le_of_ble_eq_true rfl) (Nat.le_of_ble_eq_true rfl) (Nat.le_of_ble_eq_true rfl) rfl rfl (fun _ => rfl) (fun r5 h6 n7 e5 => ?_)
  clear e4
  refine Ok.i2l dX12_overOf_31 ?_
  refine Ok.lmul dX12_overOf_32 ?_
  refine Ok.ldc2_w (v := 1000) dX12_overOf_33 wd1295 ?_
  refine Ok.ldiv dX12_overOf_36 (by decide +kernel) ?_
  refine X.lstore dX12_overOf_37 (by decide) e5 (L := fun v8 => [some (.ref a0), some (.int a1), some (.int a2), some (.int a3), some (.long v4), none, some (.long v8), none]) (fun _ => rfl) (fun v8 e6 => ?_)
  clear e5
  refine Ok.lload dX12_overOf_39 rfl ?_
  refine Ok.lload dX12_overOf_41 rfl ?_
  refine Ok.ladd dX12_overOf_43 ?_
  refine Ok.l2i dX12_overOf_44 ?_
  exact X.iret dX12_overOf_45 rfl (Nat.le_of_ble_eq_true rfl) (Nat.le_of_ble_eq_true rfl) e6
noncomputable def F_X12_later_16 (G : Gx) (h : Hp) (nx : Nat) (s0 : Int32) : Rz Int32 :=
some (s0, h, nx)
set_option maxRecDepth 100000 in
set_option maxHeartbeats 4000000 in
theorem k_X12_later_16 {G : Gx} {d : Nat} {v' : Int32} {h' : Hp} {n' : Nat} {h : Hp} {nx : Nat} {s0 : Int32} (e : F_X12_later_16 G h nx s0 = some (v', h', n')) : Ok G mX12_later (d + 0) (Same (some (.int v')) h' n') 16 [none] [.int s0] h nx 0 0 := by
  unfold F_X12_later_16 at e
  exact X.iret dX12_later_16 rfl (Nat.le_of_ble_eq_true rfl) (Nat.le_of_ble_eq_true rfl) e
noncomputable def F_X12_later (G : Gx) (h : Hp) (nx : Nat) (a0 : Int32) : Rz Int32 :=
if (nI 999) ≤ a0 then
(F_X12_later_16 G h nx (nI 999))
else
(F_X12_later_16 G h nx ((a0 + (nI 1))))
set_option maxRecDepth 100000 in
set_option maxHeartbeats 4000000 in
theorem k_X12_later {G : Gx} {d : Nat} {h : Hp} {nx : Nat} {a0 : Int32} {v' : Int32} {h' : Hp} {n' : Nat} (e : F_X12_later G h nx a0 = some (v', h', n')) : Ct G mX12_later (d + 0) (Same (some (.int v')) h' n') [.int a0] h nx := by
  unfold F_X12_later at e
  refine Ct.of (ls := [some (.int a0)]) (by decide +kernel) rfl (Nat.le_of_ble_eq_true rfl) rfl ?_
  refine Ok.iload_n dX12_later_0 rfl ?_
  refine Ok.sipushV (v := (nI 999)) dX12_later_1 (by decide +kernel) ?_
  refine X.icmp_ge (tgt := 13) dX12_later_4 (by decide) e (fun e1 => ?_) (fun e1 => ?_)
  · clear e
    refine Ok.sipushV (v := (nI 999)) dX12_later_13 (by decide +kernel) ?_
    exact Ok.weakL (k_X12_later_16 (d := d) e1) trivial
  · clear e
    refine Ok.iload_n dX12_later_7 rfl ?_
    refine Ok.iconstV (v := (nI 1)) dX12_later_8 (by decide +kernel) ?_
    refine Ok.iadd dX12_later_9 ?_
    refine Ok.goto (tgt := 16) dX12_later_10 (by decide) ?_
    exact Ok.weakL (k_X12_later_16 (d := d) e1) trivial
noncomputable def F_X12_over_2 (G : Gx) : Nat → Hp → Nat → Nat → Int32 → Rz Unit := fun n => Nat.rec (motive := fun _ => Hp → Nat → Nat → Int32 → Rz Unit) (fun _ _ _ _ => none) (fun _ k2 => fun h nx l0 l1 =>
gfR h l0 [12] 1 (fun v1 =>
nn v1 (fun p2 =>
alI (g_c G 0) h p2 (nI 1) (fun v3 =>
if v3 ≤ l1 then
some ((), h, nx)
else
gfR h l0 [12] 1 (fun v4 =>
gfR h l0 [12] 1 (fun v5 =>
nn v5 (fun p6 =>
alI (g_c G 0) h p6 (((nI 1034) + l1)) (fun v7 =>
gfR h l0 [12] 1 (fun v8 =>
nn v8 (fun p9 =>
alI (g_c G 0) h p9 (((nI 1042) + l1)) (fun v10 =>
ck h l0 [12] (fun _ =>
cl (F_X12_overOf G h nx l0 l1 v7 v10) (fun r11 h12 n13 =>
nn v4 (fun p14 =>
asI (g_c G 0) id h12 p14 (((nI 1034) + l1)) r11 (fun h15 =>
gfR h15 l0 [12] 1 (fun v16 =>
gfR h15 l0 [12] 1 (fun v17 =>
nn v17 (fun p18 =>
alI (g_c G 0) h15 p18 (((nI 1042) + l1)) (fun v19 =>
cl (F_X12_later G h15 n13 v19) (fun r20 h21 n22 =>
nn v16 (fun p23 =>
asI (g_c G 0) id h21 p23 (((nI 1042) + l1)) r20 (fun h24 =>
nm (l1 + (nI 1)) (fun v25 =>
(k2 h24 n22 l0 v25)))))))))))))))))))))))) n
theorem F_X12_over_2_0 {G : Gx} {h : Hp} {nx : Nat} {l0 : Nat} {l1 : Int32} : F_X12_over_2 G 0 h nx l0 l1 = none := rfl
theorem F_X12_over_2_s {G : Gx} {n : Nat} {h : Hp} {nx : Nat} {l0 : Nat} {l1 : Int32} : F_X12_over_2 G (n + 1) h nx l0 l1 = (
gfR h l0 [12] 1 (fun v1 =>
nn v1 (fun p2 =>
alI (g_c G 0) h p2 (nI 1) (fun v3 =>
if v3 ≤ l1 then
some ((), h, nx)
else
gfR h l0 [12] 1 (fun v4 =>
gfR h l0 [12] 1 (fun v5 =>
nn v5 (fun p6 =>
alI (g_c G 0) h p6 (((nI 1034) + l1)) (fun v7 =>
gfR h l0 [12] 1 (fun v8 =>
nn v8 (fun p9 =>
alI (g_c G 0) h p9 (((nI 1042) + l1)) (fun v10 =>
ck h l0 [12] (fun _ =>
cl (F_X12_overOf G h nx l0 l1 v7 v10) (fun r11 h12 n13 =>
nn v4 (fun p14 =>
asI (g_c G 0) id h12 p14 (((nI 1034) + l1)) r11 (fun h15 =>
gfR h15 l0 [12] 1 (fun v16 =>
gfR h15 l0 [12] 1 (fun v17 =>
nn v17 (fun p18 =>
alI (g_c G 0) h15 p18 (((nI 1042) + l1)) (fun v19 =>
cl (F_X12_later G h15 n13 v19) (fun r20 h21 n22 =>
nn v16 (fun p23 =>
asI (g_c G 0) id h21 p23 (((nI 1042) + l1)) r20 (fun h24 =>
nm (l1 + (nI 1)) (fun v25 =>
((F_X12_over_2 G n) h24 n22 l0 v25)))))))))))))))))))))))) := rfl
set_option maxRecDepth 100000 in
set_option maxHeartbeats 4000000 in
theorem k_X12_over_2 {G : Gx} {d : Nat} {v' : Unit} {h' : Hp} {n' : Nat} : ∀ (n : Nat) {h : Hp} {nx : Nat} {l0 : Nat} {l1 : Int32}, F_X12_over_2 G n h nx l0 l1 = some (v', h', n') → Ok G mX12_over (d + 3) (Same none h' n') 2 [some (.ref l0), some (.int l1)] [] h nx 0 0 := by
  intro n
  induction n with
  | zero =>
    intro h nx l0 l1 e
    rw [F_X12_over_2_0] at e
    cases e
  | succ n K2 =>
    intro h nx l0 l1 e
    rw [F_X12_over_2_s] at e
    refine Ok.iload_n dX12_over_2 rfl ?_
    refine Ok.aload_n dX12_over_3 rfl ?_
    refine X.rgfR fl_RX12_9 dX12_over_4 e (fun v1 e1 => ?_)
    clear e
    refine Ok.iconstV (v := (nI 1)) dX12_over_7 (by decide +kernel) ?_
    refine X.rnn e1 (fun p2 q e2 => ?_)
    clear e1
    subst q
    refine X.iald dX12_over_8 e2 (fun v3 e3 => ?_)
    clear e2
    refine X.icmp_ge (tgt := 76) dX12_over_9 (by decide) e3 (fun e4 => ?_) (fun e4 => ?_)
    · clear e3
      exact X.vret dX12_over_76 rfl (Nat.le_of_ble_eq_true rfl) (Nat.le_of_ble_eq_true rfl) e4
    · clear e3
      refine Ok.aload_n dX12_over_12 rfl ?_
      refine X.rgfR fl_RX12_9 dX12_over_13 e4 (fun v4 e5 => ?_)
      clear e4
      refine Ok.sipushV (v := (nI 1034)) dX12_over_16 (by decide +kernel) ?_
      refine Ok.iload_n dX12_over_19 rfl ?_
      refine Ok.iadd dX12_over_20 ?_
      refine Ok.aload_n dX12_over_21 rfl ?_
      refine Ok.iload_n dX12_over_22 rfl ?_
      refine Ok.aload_n dX12_over_23 rfl ?_
      refine X.rgfR fl_RX12_9 dX12_over_24 e5 (fun v5 e6 => ?_)
      clear e5
      refine Ok.sipushV (v := (nI 1034)) dX12_over_27 (by decide +kernel) ?_
      refine Ok.iload_n dX12_over_30 rfl ?_
      refine Ok.iadd dX12_over_31 ?_
      refine X.rnn e6 (fun p6 q e7 => ?_)
      clear e6
      subst q
      refine X.iald dX12_over_32 e7 (fun v7 e8 => ?_)
      clear e7
      refine Ok.aload_n dX12_over_33 rfl ?_
      refine X.rgfR fl_RX12_9 dX12_over_34 e8 (fun v8 e9 => ?_)
      clear e8
      refine Ok.sipushV (v := (nI 1042)) dX12_over_37 (by decide +kernel) ?_
      refine Ok.iload_n dX12_over_40 rfl ?_
      refine Ok.iadd dX12_over_41 ?_
      refine X.rnn e9 (fun p9 q e10 => ?_)
      clear e9
      subst q
      refine X.iald dX12_over_42 e10 (fun v10 e11 => ?_)
      clear e10
      refine X.rck e11 (fun c fs hb hc e12 => ?_)
      clear e11
      obtain rfl := List.mem_singleton.mp hc
      refine X.callV (My := mX12_overOf) (n := 3) (As := [.int l1, .int v7, .int v10]) (T := (fun v => (some (.int v)))) (stk' := (fun v => [.int v, .int (((nI 1034) + l1)), va_rf v4])) (rest := [.int (((nI 1034) + l1)), va_rf v4]) (kc' := 0) (ks' := 0) dX12_over_43 e12 (fun v h n e => k_X12_overOf (d := d + 0) e) hb rfl wd1290 wd80 wd1289 wd40 wd1287 (by decide +kernel) rfl (by decide) rfl rfl (cs_le (cs_c (a := 1) rfl (cs_c (a := 1) (va_rf_cat _) cs_n)) (by decide)) (Nat.le_of_ble_eq_true rfl) (Nat.le_of_ble_eq_true rfl) rfl rfl (fun _ => rfl) (fun r11 h12 n13 e13 => ?_)
      clear e12
      refine X.rnn e13 (fun p14 q e14 => ?_)
      clear e13
      subst q
      refine X.iast dX12_over_46 e14 (fun h15 e15 => ?_)
      clear e14
      refine Ok.aload_n dX12_over_47 rfl ?_
      refine X.rgfR fl_RX12_9 dX12_over_48 e15 (fun v16 e16 => ?_)
      clear e15
      refine Ok.sipushV (v := (nI 1042)) dX12_over_51 (by decide +kernel) ?_
      refine Ok.iload_n dX12_over_54 rfl ?_
      refine Ok.iadd dX12_over_55 ?_
      refine Ok.aload_n dX12_over_56 rfl ?_
      refine X.rgfR fl_RX12_9 dX12_over_57 e16 (fun v17 e17 => ?_)
      clear e16
      refine Ok.sipushV (v := (nI 1042)) dX12_over_60 (by decide +kernel) ?_
      refine Ok.iload_n dX12_over_63 rfl ?_
      refine Ok.iadd dX12_over_64 ?_
      refine X.rnn e17 (fun p18 q e18 => ?_)
      clear e17
      subst q
      refine X.iald dX12_over_65 e18 (fun v19 e19 => ?_)
      clear e18
      refine X.callS (My := mX12_later) (n := 1) (As := [.int v19]) (T := (fun v => (some (.int v)))) (stk' := (fun v => [.int v, .int (((nI 1042) + l1)), va_rf v16])) (rest := [.int (((nI 1042) + l1)), va_rf v16]) (kc' := 0) (ks' := 0) dX12_over_66 e19 (fun v h n e => k_X12_later (d := d + 2) e) wd1302 wd80 wd1301 wd1300 (by decide +kernel) rfl (by decide) rfl rfl (cs_le (cs_c (a := 1) rfl (cs_c (a := 1) (va_rf_cat _) cs_n)) (by decide)) (Nat.le_of_ble_eq_true rfl) (Nat.le_of_ble_eq_true rfl) rfl rfl (fun _ => rfl) (fun r20 h21 n22 e20 => ?_)
      clear e19
      refine X.rnn e20 (fun p23 q e21 => ?_)
      clear e20
      subst q
      refine X.iast dX12_over_69 e21 (fun h24 e22 => ?_)
      clear e21
      refine X.iinc dX12_over_70 rfl (by decide) (by decide +kernel) e22 (L := fun v25 => [some (.ref l0), some (.int v25)]) (fun _ => rfl) (fun v25 e23 => ?_)
      clear e22
      refine Ok.goto (tgt := 2) dX12_over_73 (by decide) ?_
      exact Ok.weakL (K2 e23) ⟨rfl, ⟨rfl, trivial⟩⟩
noncomputable def F_X12_over (G : Gx) (h : Hp) (nx : Nat) (a0 : Nat) : Rz Unit :=
(F_X12_over_2 G fuelL h nx a0 (nI 0))
set_option maxRecDepth 100000 in
set_option maxHeartbeats 4000000 in
theorem k_X12_over {G : Gx} {d : Nat} {h : Hp} {nx : Nat} {a0 : Nat} {v' : Unit} {h' : Hp} {n' : Nat} (e : F_X12_over G h nx a0 = some (v', h', n')) : Ct G mX12_over (d + 3) (Same none h' n') [.ref a0] h nx := by
  unfold F_X12_over at e
  refine Ct.of (ls := [some (.ref a0), none]) (by decide +kernel) rfl (Nat.le_of_ble_eq_true rfl) rfl ?_
  refine Ok.iconstV (v := (nI 0)) dX12_over_0 (by decide +kernel) ?_
  refine XL.istore_n dX12_over_1 (by decide) (L := [some (.ref a0), some (.int (nI 0))]) rfl ?_
  exact Ok.weakL (k_X12_over_2 (d := d) fuelL e) ⟨rfl, ⟨rfl, trivial⟩⟩
noncomputable def F_X12_days_24 (G : Gx) (h : Hp) (nx : Nat) : Rz Int32 :=
some ((-2 : Int32), h, nx)
set_option maxRecDepth 100000 in
set_option maxHeartbeats 4000000 in
theorem k_X12_days_24 {G : Gx} {d : Nat} {v' : Int32} {h' : Hp} {n' : Nat} {h : Hp} {nx : Nat} (e : F_X12_days_24 G h nx = some (v', h', n')) : Ok G mX12_days (d + 4) (Same (some (.int v')) h' n') 24 [none, none, none] [] h nx 0 0 := by
  unfold F_X12_days_24 at e
  refine Ok.bipushV (v := (-2 : Int32)) dX12_days_24 (by decide +kernel) ?_
  exact X.iret dX12_days_26 rfl (Nat.le_of_ble_eq_true rfl) (Nat.le_of_ble_eq_true rfl) e
noncomputable def F_X12_days_29 (G : Gx) : Nat → Hp → Nat → Nat → Int32 → Int32 → Rz Int32 := fun n => Nat.rec (motive := fun _ => Hp → Nat → Nat → Int32 → Int32 → Rz Int32) (fun _ _ _ _ _ => none) (fun _ k29 => fun h nx l0 l1 l2 =>
if l1 ≤ l2 then
gfR h l0 [12] 1 (fun v1 =>
nn v1 (fun p2 =>
alI (g_c G 0) h p2 (nI 3) (fun v3 =>
asI (g_c G 0) id h p2 (nI 3) ((v3 + l1)) (fun h4 =>
gfR h4 l0 [12] 1 (fun v5 =>
nn v5 (fun p6 =>
alI (g_c G 0) h4 p6 (nI 3) (fun v7 =>
some (v7, h4, nx))))))))
else
ck h l0 [12] (fun _ =>
cl (F_X12_over G h nx l0) (fun _ h9 n10 =>
nm (l2 + (nI 1)) (fun v11 =>
(k29 h9 n10 l0 l1 v11))))) n
theorem F_X12_days_29_0 {G : Gx} {h : Hp} {nx : Nat} {l0 : Nat} {l1 : Int32} {l2 : Int32} : F_X12_days_29 G 0 h nx l0 l1 l2 = none := rfl
theorem F_X12_days_29_s {G : Gx} {n : Nat} {h : Hp} {nx : Nat} {l0 : Nat} {l1 : Int32} {l2 : Int32} : F_X12_days_29 G (n + 1) h nx l0 l1 l2 = (
if l1 ≤ l2 then
gfR h l0 [12] 1 (fun v1 =>
nn v1 (fun p2 =>
alI (g_c G 0) h p2 (nI 3) (fun v3 =>
asI (g_c G 0) id h p2 (nI 3) ((v3 + l1)) (fun h4 =>
gfR h4 l0 [12] 1 (fun v5 =>
nn v5 (fun p6 =>
alI (g_c G 0) h4 p6 (nI 3) (fun v7 =>
some (v7, h4, nx))))))))
else
ck h l0 [12] (fun _ =>
cl (F_X12_over G h nx l0) (fun _ h9 n10 =>
nm (l2 + (nI 1)) (fun v11 =>
((F_X12_days_29 G n) h9 n10 l0 l1 v11))))) := rfl
set_option maxRecDepth 100000 in
set_option maxHeartbeats 4000000 in
theorem k_X12_days_29 {G : Gx} {d : Nat} {v' : Int32} {h' : Hp} {n' : Nat} : ∀ (n : Nat) {h : Hp} {nx : Nat} {l0 : Nat} {l1 : Int32} {l2 : Int32}, F_X12_days_29 G n h nx l0 l1 l2 = some (v', h', n') → Ok G mX12_days (d + 4) (Same (some (.int v')) h' n') 29 [some (.ref l0), some (.int l1), some (.int l2)] [] h nx 0 0 := by
  intro n
  induction n with
  | zero =>
    intro h nx l0 l1 l2 e
    rw [F_X12_days_29_0] at e
    cases e
  | succ n K29 =>
    intro h nx l0 l1 l2 e
    rw [F_X12_days_29_s] at e
    refine Ok.iload_n dX12_days_29 rfl ?_
    refine Ok.iload_n dX12_days_30 rfl ?_
    refine X.icmp_ge (tgt := 44) dX12_days_31 (by decide) e (fun e1 => ?_) (fun e1 => ?_)
    · clear e
      refine Ok.aload_n dX12_days_44 rfl ?_
      refine X.rgfR fl_RX12_9 dX12_days_45 e1 (fun v1 e2 => ?_)
      clear e1
      refine Ok.iconstV (v := (nI 3)) dX12_days_48 (by decide +kernel) ?_
      refine Ok.dup2 dX12_days_49 rfl (va_rf_cat _) ?_
      refine X.rnn e2 (fun p2 q e3 => ?_)
      clear e2
      subst q
      refine X.iald dX12_days_50 e3 (fun v3 e4 => ?_)
      clear e3
      refine Ok.iload_n dX12_days_51 rfl ?_
      refine Ok.iadd dX12_days_52 ?_
      refine X.iast dX12_days_53 e4 (fun h4 e5 => ?_)
      clear e4
      refine Ok.aload_n dX12_days_54 rfl ?_
      refine X.rgfR fl_RX12_9 dX12_days_55 e5 (fun v5 e6 => ?_)
      clear e5
      refine Ok.iconstV (v := (nI 3)) dX12_days_58 (by decide +kernel) ?_
      refine X.rnn e6 (fun p6 q e7 => ?_)
      clear e6
      subst q
      refine X.iald dX12_days_59 e7 (fun v7 e8 => ?_)
      clear e7
      exact X.iret dX12_days_60 rfl (Nat.le_of_ble_eq_true rfl) (Nat.le_of_ble_eq_true rfl) e8
    · clear e
      refine Ok.aload_n dX12_days_34 rfl ?_
      refine X.rck e1 (fun c fs hb hc e2 => ?_)
      clear e1
      obtain rfl := List.mem_singleton.mp hc
      refine X.callV (My := mX12_over) (n := 0) (As := []) (T := (fun v => none)) (stk' := (fun _ => [])) (rest := []) (kc' := 0) (ks' := 0) dX12_days_35 e2 (fun v h n e => k_X12_over (d := d + 0) e) hb rfl wd1286 wd80 wd1285 wd39 wd1283 (by decide +kernel) rfl (by decide) rfl rfl (Nat.le_of_ble_eq_true rfl) (Nat.le_of_ble_eq_true rfl) (Nat.le_of_ble_eq_true rfl) rfl rfl (fun _ => rfl) (fun _ h9 n10 e3 => ?_)
      clear e2
      refine X.iinc dX12_days_38 rfl (by decide) (by decide +kernel) e3 (L := fun v11 => [some (.ref l0), some (.int l1), some (.int v11)]) (fun _ => rfl) (fun v11 e4 => ?_)
      clear e3
      refine Ok.goto (tgt := 29) dX12_days_41 (by decide) ?_
      exact Ok.weakL (K29 e4) ⟨rfl, ⟨rfl, ⟨rfl, trivial⟩⟩⟩
noncomputable def F_X12_days (G : Gx) (h : Hp) (nx : Nat) (a0 : Nat) (a1 : Int32) : Rz Int32 :=
cl (F_X12_in G h nx a1 (nI 1) (nI 20)) (fun r1 h2 n3 =>
if r1 = 0 then
(F_X12_days_24 G h2 n3)
else
gfR h2 a0 [12] 1 (fun v4 =>
nn v4 (fun p5 =>
alI (g_c G 0) h2 p5 (nI 3) (fun v6 =>
if ((v6 + a1)) ≤ (nI 999) then
(F_X12_days_29 G fuelL h2 n3 a0 a1 (nI 0))
else
(F_X12_days_24 G h2 n3)))))
set_option maxRecDepth 100000 in
set_option maxHeartbeats 4000000 in
theorem k_X12_days {G : Gx} {d : Nat} {h : Hp} {nx : Nat} {a0 : Nat} {a1 : Int32} {v' : Int32} {h' : Hp} {n' : Nat} (e : F_X12_days G h nx a0 a1 = some (v', h', n')) : Ct G mX12_days (d + 4) (Same (some (.int v')) h' n') [.ref a0, .int a1] h nx := by
  unfold F_X12_days at e
  refine Ct.of (ls := [some (.ref a0), some (.int a1), none]) (by decide +kernel) rfl (Nat.le_of_ble_eq_true rfl) rfl ?_
  refine Ok.iload_n dX12_days_0 rfl ?_
  refine Ok.iconstV (v := (nI 1)) dX12_days_1 (by decide +kernel) ?_
  refine Ok.bipushV (v := (nI 20)) dX12_days_2 (by decide +kernel) ?_
  refine X.callS (My := mX12_in) (n := 3) (As := [.int a1, .int (nI 1), .int (nI 20)]) (T := (fun v => (some (.int v)))) (stk' := (fun v => [.int v])) (rest := []) (kc' := 0) (ks' := 0) dX12_days_4 e (fun v h n e => k_X12_in (d := d + 3) e) wd1196 wd80 wd1195 wd1194 (by decide +kernel) rfl (by decide) rfl rfl (Nat.le_of_ble_eq_true rfl) (Nat.le_of_ble_eq_true rfl) (Nat.le_of_ble_eq_true rfl) rfl rfl (fun _ => rfl) (fun r1 h2 n3 e1 => ?_)
  clear e
  refine X.if_eq (tgt := 24) dX12_days_7 (by decide) e1 (fun e2 => ?_) (fun e2 => ?_)
  · clear e1
    exact Ok.weakL (k_X12_days_24 (d := d) e2) trivial
  · clear e1
    refine Ok.aload_n dX12_days_10 rfl ?_
    refine X.rgfR fl_RX12_9 dX12_days_11 e2 (fun v4 e3 => ?_)
    clear e2
    refine Ok.iconstV (v := (nI 3)) dX12_days_14 (by decide +kernel) ?_
    refine X.rnn e3 (fun p5 q e4 => ?_)
    clear e3
    subst q
    refine X.iald dX12_days_15 e4 (fun v6 e5 => ?_)
    clear e4
    refine Ok.iload_n dX12_days_16 rfl ?_
    refine Ok.iadd dX12_days_17 ?_
    refine Ok.sipushV (v := (nI 999)) dX12_days_18 (by decide +kernel) ?_
    refine X.icmp_le (tgt := 27) dX12_days_21 (by decide) e5 (fun e6 => ?_) (fun e6 => ?_)
    · clear e5
      refine Ok.iconstV (v := (nI 0)) dX12_days_27 (by decide +kernel) ?_
      refine XL.istore_n dX12_days_28 (by decide) (L := [some (.ref a0), some (.int a1), some (.int (nI 0))]) rfl ?_
      exact Ok.weakL (k_X12_days_29 (d := d) fuelL e6) ⟨rfl, ⟨rfl, ⟨rfl, trivial⟩⟩⟩
    · clear e5
      exact Ok.weakL (k_X12_days_24 (d := d) e6) trivial
noncomputable def F_X12_seen_70 (G : Gx) (h : Hp) (nx : Nat) (s0 : Option Nat) (s1 : Int32) (s2 : Int32) (l3 : Int32) : Rz Int32 :=
nn s0 (fun p1 =>
asI (g_c G 0) id h p1 s1 s2 (fun h2 =>
some (l3, h2, nx)))
set_option maxRecDepth 100000 in
set_option maxHeartbeats 4000000 in
theorem k_X12_seen_70 {G : Gx} {d : Nat} {v' : Int32} {h' : Hp} {n' : Nat} {h : Hp} {nx : Nat} {s0 : Option Nat} {s1 : Int32} {s2 : Int32} {l3 : Int32} (e : F_X12_seen_70 G h nx s0 s1 s2 l3 = some (v', h', n')) : Ok G mX12_seen (d + 2) (Same (some (.int v')) h' n') 70 [none, none, none, some (.int l3)] [.int s2, .int s1, va_rf s0] h nx 0 0 := by
  unfold F_X12_seen_70 at e
  refine X.rnn e (fun p1 q e1 => ?_)
  clear e
  subst q
  refine X.iast dX12_seen_70 e1 (fun h2 e2 => ?_)
  clear e1
  refine Ok.iload_n dX12_seen_71 rfl ?_
  exact X.iret dX12_seen_72 rfl (Nat.le_of_ble_eq_true rfl) (Nat.le_of_ble_eq_true rfl) e2
noncomputable def F_X12_seen_40 (G : Gx) (h : Hp) (nx : Nat) (s0 : Option Nat) (s1 : Int32) (s2 : Int32) (l0 : Nat) (l1 : Int32) (l2 : Int32) (l3 : Int32) : Rz Int32 :=
nn s0 (fun p1 =>
asI (g_c G 0) id h p1 s1 s2 (fun h2 =>
gfR h2 l0 [12] 1 (fun v3 =>
nn v3 (fun p4 =>
asI (g_c G 0) id h2 p4 (((nI 1042) + l1)) (nI 0) (fun h5 =>
gfR h5 l0 [12] 1 (fun v6 =>
if l2 = 0 then
(F_X12_seen_70 G h5 nx v6 (((nI 1026) + l1)) (nI 0) l3)
else
(F_X12_seen_70 G h5 nx v6 (((nI 1026) + l1)) (nI 1) l3)))))))
set_option maxRecDepth 100000 in
set_option maxHeartbeats 4000000 in
theorem k_X12_seen_40 {G : Gx} {d : Nat} {v' : Int32} {h' : Hp} {n' : Nat} {h : Hp} {nx : Nat} {s0 : Option Nat} {s1 : Int32} {s2 : Int32} {l0 : Nat} {l1 : Int32} {l2 : Int32} {l3 : Int32} (e : F_X12_seen_40 G h nx s0 s1 s2 l0 l1 l2 l3 = some (v', h', n')) : Ok G mX12_seen (d + 2) (Same (some (.int v')) h' n') 40 [some (.ref l0), some (.int l1), some (.int l2), some (.int l3)] [.int s2, .int s1, va_rf s0] h nx 0 0 := by
  unfold F_X12_seen_40 at e
  refine X.rnn e (fun p1 q e1 => ?_)
  clear e
  subst q
  refine X.iast dX12_seen_40 e1 (fun h2 e2 => ?_)
  clear e1
  refine Ok.aload_n dX12_seen_41 rfl ?_
  refine X.rgfR fl_RX12_9 dX12_seen_42 e2 (fun v3 e3 => ?_)
  clear e2
  refine Ok.sipushV (v := (nI 1042)) dX12_seen_45 (by decide +kernel) ?_
  refine Ok.iload_n dX12_seen_48 rfl ?_
  refine Ok.iadd dX12_seen_49 ?_
  refine Ok.iconstV (v := (nI 0)) dX12_seen_50 (by decide +kernel) ?_
  refine X.rnn e3 (fun p4 q e4 => ?_)
  clear e3
  subst q
  refine X.iast dX12_seen_51 e4 (fun h5 e5 => ?_)
  clear e4
  refine Ok.aload_n dX12_seen_52 rfl ?_
  refine X.rgfR fl_RX12_9 dX12_seen_53 e5 (fun v6 e6 => ?_)
  clear e5
  refine Ok.sipushV (v := (nI 1026)) dX12_seen_56 (by decide +kernel) ?_
  refine Ok.iload_n dX12_seen_59 rfl ?_
  refine Ok.iadd dX12_seen_60 ?_
  refine Ok.iload_n dX12_seen_61 rfl ?_
  refine X.if_eq (tgt := 69) dX12_seen_62 (by decide) e6 (fun e7 => ?_) (fun e7 => ?_)
  · clear e6
    refine Ok.iconstV (v := (nI 0)) dX12_seen_69 (by decide +kernel) ?_
    exact Ok.weakL (k_X12_seen_70 (d := d) e7) ⟨rfl, trivial⟩
  · clear e6
    refine Ok.iconstV (v := (nI 1)) dX12_seen_65 (by decide +kernel) ?_
    refine Ok.goto (tgt := 70) dX12_seen_66 (by decide) ?_
    exact Ok.weakL (k_X12_seen_70 (d := d) e7) ⟨rfl, trivial⟩
noncomputable def F_X12_seen (G : Gx) (h : Hp) (nx : Nat) (a0 : Nat) (a1 : Int32) (a2 : Int32) : Rz Int32 :=
ck h a0 [12] (fun _ =>
cl (F_X12_isThing G h nx a0 a1) (fun r1 h2 n3 =>
if r1 = 0 then
some ((-1 : Int32), h2, n3)
else
gfR h2 a0 [12] 1 (fun v4 =>
nn v4 (fun p5 =>
alI (g_c G 0) h2 p5 (((nI 1034) + a1)) (fun v6 =>
gfR h2 a0 [12] 1 (fun v7 =>
if a2 = 0 then
(F_X12_seen_40 G h2 n3 v7 (((nI 1034) + a1)) (nI 0) a0 a1 a2 v6)
else
(F_X12_seen_40 G h2 n3 v7 (((nI 1034) + a1)) (nI 1000000) a0 a1 a2 v6)))))))
set_option maxRecDepth 100000 in
set_option maxHeartbeats 4000000 in
theorem k_X12_seen {G : Gx} {d : Nat} {h : Hp} {nx : Nat} {a0 : Nat} {a1 : Int32} {a2 : Int32} {v' : Int32} {h' : Hp} {n' : Nat} (e : F_X12_seen G h nx a0 a1 a2 = some (v', h', n')) : Ct G mX12_seen (d + 2) (Same (some (.int v')) h' n') [.ref a0, .int a1, .int a2] h nx := by
  unfold F_X12_seen at e
  refine Ct.of (ls := [some (.ref a0), some (.int a1), some (.int a2), none]) (by decide +kernel) rfl (Nat.le_of_ble_eq_true rfl) rfl ?_
  refine Ok.aload_n dX12_seen_0 rfl ?_
  refine Ok.iload_n dX12_seen_1 rfl ?_
  refine X.rck e (fun c fs hb hc e1 => ?_)
  clear e
  obtain rfl := List.mem_singleton.mp hc
  refine X.callV (My := mX12_isThing) (n := 1) (As := [.int a1]) (T := (fun v => (some (.int v)))) (stk' := (fun v => [.int v])) (rest := []) (kc' := 0) (ks' := 0) dX12_seen_2 e1 (fun v h n e => k_X12_isThing (d := d + 0) e) hb rfl wd1278 wd80 wd1277 wd38 wd1275 (by decide +kernel) rfl (by decide) rfl rfl (Nat.le_of_ble_eq_true rfl) (Nat.le_of_ble_eq_true rfl) (Nat.le_of_ble_eq_true rfl) rfl rfl (fun _ => rfl) (fun r1 h2 n3 e2 => ?_)
  clear e1
  refine X.if_ne (tgt := 10) dX12_seen_5 (by decide) e2 (fun e3 => ?_) (fun e3 => ?_)
  · clear e2
    refine Ok.aload_n dX12_seen_10 rfl ?_
    refine X.rgfR fl_RX12_9 dX12_seen_11 e3 (fun v4 e4 => ?_)
    clear e3
    refine Ok.sipushV (v := (nI 1034)) dX12_seen_14 (by decide +kernel) ?_
    refine Ok.iload_n dX12_seen_17 rfl ?_
    refine Ok.iadd dX12_seen_18 ?_
    refine X.rnn e4 (fun p5 q e5 => ?_)
    clear e4
    subst q
    refine X.iald dX12_seen_19 e5 (fun v6 e6 => ?_)
    clear e5
    refine XL.istore_n dX12_seen_20 (by decide) (L := [some (.ref a0), some (.int a1), some (.int a2), some (.int v6)]) rfl ?_
    refine Ok.aload_n dX12_seen_21 rfl ?_
    refine X.rgfR fl_RX12_9 dX12_seen_22 e6 (fun v7 e7 => ?_)
    clear e6
    refine Ok.sipushV (v := (nI 1034)) dX12_seen_25 (by decide +kernel) ?_
    refine Ok.iload_n dX12_seen_28 rfl ?_
    refine Ok.iadd dX12_seen_29 ?_
    refine Ok.iload_n dX12_seen_30 rfl ?_
    refine X.if_eq (tgt := 39) dX12_seen_31 (by decide) e7 (fun e8 => ?_) (fun e8 => ?_)
    · clear e7
      refine Ok.iconstV (v := (nI 0)) dX12_seen_39 (by decide +kernel) ?_
      exact Ok.weakL (k_X12_seen_40 (d := d) e8) ⟨rfl, ⟨rfl, ⟨rfl, ⟨rfl, trivial⟩⟩⟩⟩
    · clear e7
      refine Ok.ldc (v := (nI 1000000)) dX12_seen_34 wd1270 ?_
      refine Ok.goto (tgt := 40) dX12_seen_36 (by decide) ?_
      exact Ok.weakL (k_X12_seen_40 (d := d) e8) ⟨rfl, ⟨rfl, ⟨rfl, ⟨rfl, trivial⟩⟩⟩⟩
  · clear e2
    refine Ok.iconstV (v := (-1 : Int32)) dX12_seen_8 (by decide +kernel) ?_
    exact X.iret dX12_seen_9 rfl (Nat.le_of_ble_eq_true rfl) (Nat.le_of_ble_eq_true rfl) e3
noncomputable def F_X12_brings (G : Gx) (h : Hp) (nx : Nat) (a0 : Nat) (a1 : Int32) (a2 : Int32) : Rz Int64 :=
ck h a0 [12] (fun _ =>
cl (F_X12_value G h nx a0 a1 (nI 0)) (fun r1 h2 n3 =>
ck h2 a0 [12] (fun _ =>
cl (F_X12_value G h2 n3 a0 a1 (nI 1)) (fun r4 h5 n6 =>
some ((((((((a2.toInt64) * (r1.toInt64))) / (1000 : Int64))) - ((((((((nI 1000000) - a2)).toInt64) * (r4.toInt64))) / (1000 : Int64))))), h5, n6)))))
set_option maxRecDepth 100000 in
set_option maxHeartbeats 4000000 in
theorem k_X12_brings {G : Gx} {d : Nat} {h : Hp} {nx : Nat} {a0 : Nat} {a1 : Int32} {a2 : Int32} {v' : Int64} {h' : Hp} {n' : Nat} (e : F_X12_brings G h nx a0 a1 a2 = some (v', h', n')) : Ct G mX12_brings (d + 1) (Same (some (.long v')) h' n') [.ref a0, .int a1, .int a2] h nx := by
  unfold F_X12_brings at e
  refine Ct.of (ls := [some (.ref a0), some (.int a1), some (.int a2)]) (by decide +kernel) rfl (Nat.le_of_ble_eq_true rfl) rfl ?_
  refine Ok.iload_n dX12_brings_0 rfl ?_
  refine Ok.i2l dX12_brings_1 ?_
  refine Ok.aload_n dX12_brings_2 rfl ?_
  refine Ok.iload_n dX12_brings_3 rfl ?_
  refine Ok.iconstV (v := (nI 0)) dX12_brings_4 (by decide +kernel) ?_
  refine X.rck e (fun c fs hb hc e1 => ?_)
  clear e
  obtain rfl := List.mem_singleton.mp hc
  refine X.callV (My := mX12_value) (n := 2) (As := [.int a1, .int (nI 0)]) (T := (fun v => (some (.int v)))) (stk' := (fun v => [.int v, .long (a2.toInt64)])) (rest := [.long (a2.toInt64)]) (kc' := 0) (ks' := 0) dX12_brings_5 e1 (fun v h n e => k_X12_value (d := d + 0) e) hb rfl wd1319 wd80 wd1318 wd44 wd1316 (by decide +kernel) rfl (by decide) rfl rfl (Nat.le_of_ble_eq_true rfl) (Nat.le_of_ble_eq_true rfl) (Nat.le_of_ble_eq_true rfl) rfl rfl (fun _ => rfl) (fun r1 h2 n3 e2 => ?_)
  clear e1
  refine Ok.i2l dX12_brings_8 ?_
  refine Ok.lmul dX12_brings_9 ?_
  refine Ok.ldc2_w (v := 1000) dX12_brings_10 wd1295 ?_
  refine Ok.ldiv dX12_brings_13 (by decide +kernel) ?_
  refine Ok.ldc (v := (nI 1000000)) dX12_brings_14 wd1270 ?_
  refine Ok.iload_n dX12_brings_16 rfl ?_
  refine Ok.isub dX12_brings_17 ?_
  refine Ok.i2l dX12_brings_18 ?_
  refine Ok.aload_n dX12_brings_19 rfl ?_
  refine Ok.iload_n dX12_brings_20 rfl ?_
  refine Ok.iconstV (v := (nI 1)) dX12_brings_21 (by decide +kernel) ?_
  refine X.rck e2 (fun c fs hb hc e3 => ?_)
  clear e2
  obtain rfl := List.mem_singleton.mp hc
  refine X.callV (My := mX12_value) (n := 2) (As := [.int a1, .int (nI 1)]) (T := (fun v => (some (.int v)))) (stk' := (fun v => [.int v, .long ((((nI 1000000) - a2)).toInt64), .long (((((a2.toInt64) * (r1.toInt64))) / (1000 : Int64)))])) (rest := [.long ((((nI 1000000) - a2)).toInt64), .long (((((a2.toInt64) * (r1.toInt64))) / (1000 : Int64)))]) (kc' := 0) (ks' := 0) dX12_brings_22 e3 (fun v h n e => k_X12_value (d := d + 0) e) hb rfl wd1319 wd80 wd1318 wd44 wd1316 (by decide +kernel) rfl (by decide) rfl rfl (Nat.le_of_ble_eq_true rfl) (Nat.le_of_ble_eq_true rfl) (Nat.le_of_ble_eq_true rfl) rfl rfl (fun _ => rfl) (fun r4 h5 n6 e4 => ?_)
  clear e3
  refine Ok.i2l dX12_brings_25 ?_
  refine Ok.lmul dX12_brings_26 ?_
  refine Ok.ldc2_w (v := 1000) dX12_brings_27 wd1295 ?_
  refine Ok.ldiv dX12_brings_30 (by decide +kernel) ?_
  refine Ok.lsub dX12_brings_31 ?_
  exact X.lret dX12_brings_32 rfl (Nat.le_of_ble_eq_true rfl) (Nat.le_of_ble_eq_true rfl) e4
noncomputable def F_X12_rowsOf_93 (G : Gx) (k7 : Hp → Nat → Nat → Int32 → Int32 → Rz Unit) : Nat → Hp → Nat → Nat → Int32 → Int32 → Int32 → Int32 → Int32 → Rz Unit := fun n => Nat.rec (motive := fun _ => Hp → Nat → Nat → Int32 → Int32 → Int32 → Int32 → Int32 → Rz Unit) (fun _ _ _ _ _ _ _ _ => none) (fun _ k93 => fun h nx l0 l1 l2 l3 l4 l5 =>
if (nI 9) ≤ l5 then
nm (l2 + (nI 1)) (fun v1 =>
(k7 h nx l0 l1 v1))
else
gfR h l0 [12] 12 (fun v2 =>
nn v2 (fun p3 =>
asI (g_c G 0) id h p3 (((((nI 9) * l2)) + l5)) l3 (fun h4 =>
gfR h4 l0 [12] 13 (fun v5 =>
nn v5 (fun p6 =>
asI (g_c G 0) id h4 p6 (((((nI 9) * l2)) + l5)) l4 (fun h7 =>
ck h7 l0 [12] (fun _ =>
cl (F_X12_overOf G h7 nx l0 l1 l3 l4) (fun r8 h9 n10 =>
cl (F_X12_later G h9 n10 l4) (fun r11 h12 n13 =>
nm (l5 + (nI 1)) (fun v14 =>
(k93 h12 n13 l0 l1 l2 r8 r11 v14)))))))))))) n
theorem F_X12_rowsOf_93_0 {G : Gx} (k7 : Hp → Nat → Nat → Int32 → Int32 → Rz Unit) {h : Hp} {nx : Nat} {l0 : Nat} {l1 : Int32} {l2 : Int32} {l3 : Int32} {l4 : Int32} {l5 : Int32} : F_X12_rowsOf_93 G k7 0 h nx l0 l1 l2 l3 l4 l5 = none := rfl
theorem F_X12_rowsOf_93_s {G : Gx} (k7 : Hp → Nat → Nat → Int32 → Int32 → Rz Unit) {n : Nat} {h : Hp} {nx : Nat} {l0 : Nat} {l1 : Int32} {l2 : Int32} {l3 : Int32} {l4 : Int32} {l5 : Int32} : F_X12_rowsOf_93 G k7 (n + 1) h nx l0 l1 l2 l3 l4 l5 = (
if (nI 9) ≤ l5 then
nm (l2 + (nI 1)) (fun v1 =>
(k7 h nx l0 l1 v1))
else
gfR h l0 [12] 12 (fun v2 =>
nn v2 (fun p3 =>
asI (g_c G 0) id h p3 (((((nI 9) * l2)) + l5)) l3 (fun h4 =>
gfR h4 l0 [12] 13 (fun v5 =>
nn v5 (fun p6 =>
asI (g_c G 0) id h4 p6 (((((nI 9) * l2)) + l5)) l4 (fun h7 =>
ck h7 l0 [12] (fun _ =>
cl (F_X12_overOf G h7 nx l0 l1 l3 l4) (fun r8 h9 n10 =>
cl (F_X12_later G h9 n10 l4) (fun r11 h12 n13 =>
nm (l5 + (nI 1)) (fun v14 =>
((F_X12_rowsOf_93 G k7 n) h12 n13 l0 l1 l2 r8 r11 v14)))))))))))) := rfl
set_option maxRecDepth 100000 in
set_option maxHeartbeats 4000000 in
theorem k_X12_rowsOf_93 {G : Gx} {d : Nat} {v' : Unit} {h' : Hp} {n' : Nat} {k7 : Hp → Nat → Nat → Int32 → Int32 → Rz Unit} (K7 : ∀ {h : Hp} {nx : Nat} {l0 : Nat} {l1 : Int32} {l2 : Int32}, k7 h nx l0 l1 l2 = some (v', h', n') → Ok G mX12_rowsOf (d + 3) (Same none h' n') 7 [some (.ref l0), some (.int l1), some (.int l2), none, none, none] [] h nx 0 0) : ∀ (n : Nat) {h : Hp} {nx : Nat} {l0 : Nat} {l1 : Int32} {l2 : Int32} {l3 : Int32} {l4 : Int32} {l5 : Int32}, F_X12_rowsOf_93 G k7 n h nx l0 l1 l2 l3 l4 l5 = some (v', h', n') → Ok G mX12_rowsOf (d + 3) (Same none h' n') 93 [some (.ref l0), some (.int l1), some (.int l2), some (.int l3), some (.int l4), some (.int l5)] [] h nx 0 0 := by
  intro n
  induction n with
  | zero =>
    intro h nx l0 l1 l2 l3 l4 l5 e
    rw [F_X12_rowsOf_93_0] at e
    cases e
  | succ n K93 =>
    intro h nx l0 l1 l2 l3 l4 l5 e
    rw [F_X12_rowsOf_93_s] at e
    refine Ok.iload dX12_rowsOf_93 rfl ?_
    refine Ok.bipushV (v := (nI 9)) dX12_rowsOf_95 (by decide +kernel) ?_
    refine X.icmp_ge (tgt := 149) dX12_rowsOf_97 (by decide) e (fun e1 => ?_) (fun e1 => ?_)
    · clear e
      refine X.iinc dX12_rowsOf_149 rfl (by decide) (by decide +kernel) e1 (L := fun v1 => [some (.ref l0), some (.int l1), some (.int v1), some (.int l3), some (.int l4), some (.int l5)]) (fun _ => rfl) (fun v1 e2 => ?_)
      clear e1
      refine Ok.goto (tgt := 7) dX12_rowsOf_152 (by decide) ?_
      exact Ok.weakL (K7 e2) ⟨rfl, ⟨rfl, ⟨rfl, trivial⟩⟩⟩
    · clear e
      refine Ok.aload_n dX12_rowsOf_100 rfl ?_
      refine X.rgfR fl_RX12_26 dX12_rowsOf_101 e1 (fun v2 e2 => ?_)
      clear e1
      refine Ok.bipushV (v := (nI 9)) dX12_rowsOf_104 (by decide +kernel) ?_
      refine Ok.iload_n dX12_rowsOf_106 rfl ?_
      refine Ok.imul dX12_rowsOf_107 ?_
      refine Ok.iload dX12_rowsOf_108 rfl ?_
      refine Ok.iadd dX12_rowsOf_110 ?_
      refine Ok.iload_n dX12_rowsOf_111 rfl ?_
      refine X.rnn e2 (fun p3 q e3 => ?_)
      clear e2
      subst q
      refine X.iast dX12_rowsOf_112 e3 (fun h4 e4 => ?_)
      clear e3
      refine Ok.aload_n dX12_rowsOf_113 rfl ?_
      refine X.rgfR fl_RX12_29 dX12_rowsOf_114 e4 (fun v5 e5 => ?_)
      clear e4
      refine Ok.bipushV (v := (nI 9)) dX12_rowsOf_117 (by decide +kernel) ?_
      refine Ok.iload_n dX12_rowsOf_119 rfl ?_
      refine Ok.imul dX12_rowsOf_120 ?_
      refine Ok.iload dX12_rowsOf_121 rfl ?_
      refine Ok.iadd dX12_rowsOf_123 ?_
      refine Ok.iload dX12_rowsOf_124 rfl ?_
      refine X.rnn e5 (fun p6 q e6 => ?_)
      clear e5
      subst q
      refine X.iast dX12_rowsOf_126 e6 (fun h7 e7 => ?_)
      clear e6
      refine Ok.aload_n dX12_rowsOf_127 rfl ?_
      refine Ok.iload_n dX12_rowsOf_128 rfl ?_
      refine Ok.iload_n dX12_rowsOf_129 rfl ?_
      refine Ok.iload dX12_rowsOf_130 rfl ?_
      refine X.rck e7 (fun c fs hb hc e8 => ?_)
      clear e7
      obtain rfl := List.mem_singleton.mp hc
      refine X.callV (My := mX12_overOf) (n := 3) (As := [.int l1, .int l3, .int l4]) (T := (fun v => (some (.int v)))) (stk' := (fun v => [.int v])) (rest := []) (kc' := 0) (ks' := 0) dX12_rowsOf_132 e8 (fun v h n e => k_X12_overOf (d := d + 0) e) hb rfl wd1290 wd80 wd1289 wd40 wd1287 (by decide +kernel) rfl (by decide) rfl rfl (Nat.le_of_ble_eq_true rfl) (Nat.le_of_ble_eq_true rfl) (Nat.le_of_ble_eq_true rfl) rfl rfl (fun _ => rfl) (fun r8 h9 n10 e9 => ?_)
      clear e8
      refine XL.istore_n dX12_rowsOf_135 (by decide) (L := [some (.ref l0), some (.int l1), some (.int l2), some (.int r8), some (.int l4), some (.int l5)]) rfl ?_
      refine Ok.iload dX12_rowsOf_136 rfl ?_
      refine X.callS (My := mX12_later) (n := 1) (As := [.int l4]) (T := (fun v => (some (.int v)))) (stk' := (fun v => [.int v])) (rest := []) (kc' := 0) (ks' := 0) dX12_rowsOf_138 e9 (fun v h n e => k_X12_later (d := d + 2) e) wd1302 wd80 wd1301 wd1300 (by decide +kernel) rfl (by decide) rfl rfl (Nat.le_of_ble_eq_true rfl) (Nat.le_of_ble_eq_true rfl) (Nat.le_of_ble_eq_true rfl) rfl rfl (fun _ => rfl) (fun r11 h12 n13 e10 => ?_)
      clear e9
      refine XL.istore dX12_rowsOf_141 (by decide) (L := [some (.ref l0), some (.int l1), some (.int l2), some (.int r8), some (.int r11), some (.int l5)]) rfl ?_
      refine X.iinc dX12_rowsOf_143 rfl (by decide) (by decide +kernel) e10 (L := fun v14 => [some (.ref l0), some (.int l1), some (.int l2), some (.int r8), some (.int r11), some (.int v14)]) (fun _ => rfl) (fun v14 e11 => ?_)
      clear e10
      refine Ok.goto (tgt := 93) dX12_rowsOf_146 (by decide) ?_
      exact Ok.weakL (K93 e11) ⟨rfl, ⟨rfl, ⟨rfl, ⟨rfl, ⟨rfl, ⟨rfl, trivial⟩⟩⟩⟩⟩⟩
noncomputable def F_X12_rowsOf_90 (G : Gx) (k7 : Hp → Nat → Nat → Int32 → Int32 → Rz Unit) (h : Hp) (nx : Nat) (l0 : Nat) (l1 : Int32) (l2 : Int32) (l3 : Int32) (l4 : Int32) : Rz Unit :=
(F_X12_rowsOf_93 G k7 fuelL h nx l0 l1 l2 l3 l4 (nI 0))
set_option maxRecDepth 100000 in
set_option maxHeartbeats 4000000 in
theorem k_X12_rowsOf_90 {G : Gx} {d : Nat} {v' : Unit} {h' : Hp} {n' : Nat} {k7 : Hp → Nat → Nat → Int32 → Int32 → Rz Unit} (K7 : ∀ {h : Hp} {nx : Nat} {l0 : Nat} {l1 : Int32} {l2 : Int32}, k7 h nx l0 l1 l2 = some (v', h', n') → Ok G mX12_rowsOf (d + 3) (Same none h' n') 7 [some (.ref l0), some (.int l1), some (.int l2), none, none, none] [] h nx 0 0) {h : Hp} {nx : Nat} {l0 : Nat} {l1 : Int32} {l2 : Int32} {l3 : Int32} {l4 : Int32} (e : F_X12_rowsOf_90 G k7 h nx l0 l1 l2 l3 l4 = some (v', h', n')) : Ok G mX12_rowsOf (d + 3) (Same none h' n') 90 [some (.ref l0), some (.int l1), some (.int l2), some (.int l3), some (.int l4), none] [] h nx 0 0 := by
  unfold F_X12_rowsOf_90 at e
  refine Ok.iconstV (v := (nI 0)) dX12_rowsOf_90 (by decide +kernel) ?_
  refine XL.istore dX12_rowsOf_91 (by decide) (L := [some (.ref l0), some (.int l1), some (.int l2), some (.int l3), some (.int l4), some (.int (nI 0))]) rfl ?_
  exact Ok.weakL (k_X12_rowsOf_93 (d := d) K7 fuelL e) ⟨rfl, ⟨rfl, ⟨rfl, ⟨rfl, ⟨rfl, ⟨rfl, trivial⟩⟩⟩⟩⟩⟩
noncomputable def F_X12_rowsOf_68 (G : Gx) (k7 : Hp → Nat → Nat → Int32 → Int32 → Rz Unit) (h : Hp) (nx : Nat) (s0 : Int32) (l0 : Nat) (l1 : Int32) (l2 : Int32) (l3 : Int32) : Rz Unit :=
if l2 ≤ 0 then
(F_X12_rowsOf_90 G k7 h nx l0 l1 l2 l3 s0)
else
ck h l0 [12] (fun _ =>
cl (F_X12_overOf G h nx l0 l1 l3 s0) (fun r1 h2 n3 =>
cl (F_X12_later G h2 n3 s0) (fun r4 h5 n6 =>
(F_X12_rowsOf_90 G k7 h5 n6 l0 l1 l2 r1 r4))))
set_option maxRecDepth 100000 in
set_option maxHeartbeats 4000000 in
theorem k_X12_rowsOf_68 {G : Gx} {d : Nat} {v' : Unit} {h' : Hp} {n' : Nat} {k7 : Hp → Nat → Nat → Int32 → Int32 → Rz Unit} (K7 : ∀ {h : Hp} {nx : Nat} {l0 : Nat} {l1 : Int32} {l2 : Int32}, k7 h nx l0 l1 l2 = some (v', h', n') → Ok G mX12_rowsOf (d + 3) (Same none h' n') 7 [some (.ref l0), some (.int l1), some (.int l2), none, none, none] [] h nx 0 0) {h : Hp} {nx : Nat} {s0 : Int32} {l0 : Nat} {l1 : Int32} {l2 : Int32} {l3 : Int32} (e : F_X12_rowsOf_68 G k7 h nx s0 l0 l1 l2 l3 = some (v', h', n')) : Ok G mX12_rowsOf (d + 3) (Same none h' n') 68 [some (.ref l0), some (.int l1), some (.int l2), some (.int l3), none, none] [.int s0] h nx 0 0 := by
  unfold F_X12_rowsOf_68 at e
  refine XL.istore dX12_rowsOf_68 (by decide) (L := [some (.ref l0), some (.int l1), some (.int l2), some (.int l3), some (.int s0), none]) rfl ?_
  refine Ok.iload_n dX12_rowsOf_70 rfl ?_
  refine X.if_le (tgt := 90) dX12_rowsOf_71 (by decide) e (fun e1 => ?_) (fun e1 => ?_)
  · clear e
    exact Ok.weakL (k_X12_rowsOf_90 (d := d) K7 e1) ⟨rfl, ⟨rfl, ⟨rfl, ⟨rfl, ⟨rfl, trivial⟩⟩⟩⟩⟩
  · clear e
    refine Ok.aload_n dX12_rowsOf_74 rfl ?_
    refine Ok.iload_n dX12_rowsOf_75 rfl ?_
    refine Ok.iload_n dX12_rowsOf_76 rfl ?_
    refine Ok.iload dX12_rowsOf_77 rfl ?_
    refine X.rck e1 (fun c fs hb hc e2 => ?_)
    clear e1
    obtain rfl := List.mem_singleton.mp hc
    refine X.callV (My := mX12_overOf) (n := 3) (As := [.int l1, .int l3, .int s0]) (T := (fun v => (some (.int v)))) (stk' := (fun v => [.int v])) (rest := []) (kc' := 0) (ks' := 0) dX12_rowsOf_79 e2 (fun v h n e => k_X12_overOf (d := d + 0) e) hb rfl wd1290 wd80 wd1289 wd40 wd1287 (by decide +kernel) rfl (by decide) rfl rfl (Nat.le_of_ble_eq_true rfl) (Nat.le_of_ble_eq_true rfl) (Nat.le_of_ble_eq_true rfl) rfl rfl (fun _ => rfl) (fun r1 h2 n3 e3 => ?_)
    clear e2
    refine XL.istore_n dX12_rowsOf_82 (by decide) (L := [some (.ref l0), some (.int l1), some (.int l2), some (.int r1), some (.int s0), none]) rfl ?_
    refine Ok.iload dX12_rowsOf_83 rfl ?_
    refine X.callS (My := mX12_later) (n := 1) (As := [.int s0]) (T := (fun v => (some (.int v)))) (stk' := (fun v => [.int v])) (rest := []) (kc' := 0) (ks' := 0) dX12_rowsOf_85 e3 (fun v h n e => k_X12_later (d := d + 2) e) wd1302 wd80 wd1301 wd1300 (by decide +kernel) rfl (by decide) rfl rfl (Nat.le_of_ble_eq_true rfl) (Nat.le_of_ble_eq_true rfl) (Nat.le_of_ble_eq_true rfl) rfl rfl (fun _ => rfl) (fun r4 h5 n6 e4 => ?_)
    clear e3
    refine XL.istore dX12_rowsOf_88 (by decide) (L := [some (.ref l0), some (.int l1), some (.int l2), some (.int r1), some (.int r4), none]) rfl ?_
    exact Ok.weakL (k_X12_rowsOf_90 (d := d) K7 e4) ⟨rfl, ⟨rfl, ⟨rfl, ⟨rfl, ⟨rfl, trivial⟩⟩⟩⟩⟩
noncomputable def F_X12_rowsOf_49 (G : Gx) (k7 : Hp → Nat → Nat → Int32 → Int32 → Rz Unit) (h : Hp) (nx : Nat) (s0 : Int32) (l0 : Nat) (l1 : Int32) (l2 : Int32) : Rz Unit :=
if l2 = 0 then
gfR h l0 [12] 1 (fun v1 =>
nn v1 (fun p2 =>
alI (g_c G 0) h p2 (((nI 1042) + l1)) (fun v3 =>
(F_X12_rowsOf_68 G k7 h nx v3 l0 l1 l2 s0))))
else
(F_X12_rowsOf_68 G k7 h nx (nI 0) l0 l1 l2 s0)
set_option maxRecDepth 100000 in
set_option maxHeartbeats 4000000 in
theorem k_X12_rowsOf_49 {G : Gx} {d : Nat} {v' : Unit} {h' : Hp} {n' : Nat} {k7 : Hp → Nat → Nat → Int32 → Int32 → Rz Unit} (K7 : ∀ {h : Hp} {nx : Nat} {l0 : Nat} {l1 : Int32} {l2 : Int32}, k7 h nx l0 l1 l2 = some (v', h', n') → Ok G mX12_rowsOf (d + 3) (Same none h' n') 7 [some (.ref l0), some (.int l1), some (.int l2), none, none, none] [] h nx 0 0) {h : Hp} {nx : Nat} {s0 : Int32} {l0 : Nat} {l1 : Int32} {l2 : Int32} (e : F_X12_rowsOf_49 G k7 h nx s0 l0 l1 l2 = some (v', h', n')) : Ok G mX12_rowsOf (d + 3) (Same none h' n') 49 [some (.ref l0), some (.int l1), some (.int l2), none, none, none] [.int s0] h nx 0 0 := by
  unfold F_X12_rowsOf_49 at e
  refine XL.istore_n dX12_rowsOf_49 (by decide) (L := [some (.ref l0), some (.int l1), some (.int l2), some (.int s0), none, none]) rfl ?_
  refine Ok.iload_n dX12_rowsOf_50 rfl ?_
  refine X.if_ne (tgt := 67) dX12_rowsOf_51 (by decide) e (fun e1 => ?_) (fun e1 => ?_)
  · clear e
    refine Ok.iconstV (v := (nI 0)) dX12_rowsOf_67 (by decide +kernel) ?_
    exact Ok.weakL (k_X12_rowsOf_68 (d := d) K7 e1) ⟨rfl, ⟨rfl, ⟨rfl, ⟨rfl, trivial⟩⟩⟩⟩
  · clear e
    refine Ok.aload_n dX12_rowsOf_54 rfl ?_
    refine X.rgfR fl_RX12_9 dX12_rowsOf_55 e1 (fun v1 e2 => ?_)
    clear e1
    refine Ok.sipushV (v := (nI 1042)) dX12_rowsOf_58 (by decide +kernel) ?_
    refine Ok.iload_n dX12_rowsOf_61 rfl ?_
    refine Ok.iadd dX12_rowsOf_62 ?_
    refine X.rnn e2 (fun p2 q e3 => ?_)
    clear e2
    subst q
    refine X.iald dX12_rowsOf_63 e3 (fun v3 e4 => ?_)
    clear e3
    refine Ok.goto (tgt := 68) dX12_rowsOf_64 (by decide) ?_
    exact Ok.weakL (k_X12_rowsOf_68 (d := d) K7 e4) ⟨rfl, ⟨rfl, ⟨rfl, ⟨rfl, trivial⟩⟩⟩⟩
noncomputable def F_X12_rowsOf_43 (G : Gx) (k7 : Hp → Nat → Nat → Int32 → Int32 → Rz Unit) (h : Hp) (nx : Nat) (l0 : Nat) (l1 : Int32) (l2 : Int32) : Rz Unit :=
(F_X12_rowsOf_49 G k7 h nx (nI 1000000) l0 l1 l2)
set_option maxRecDepth 100000 in
set_option maxHeartbeats 4000000 in
theorem k_X12_rowsOf_43 {G : Gx} {d : Nat} {v' : Unit} {h' : Hp} {n' : Nat} {k7 : Hp → Nat → Nat → Int32 → Int32 → Rz Unit} (K7 : ∀ {h : Hp} {nx : Nat} {l0 : Nat} {l1 : Int32} {l2 : Int32}, k7 h nx l0 l1 l2 = some (v', h', n') → Ok G mX12_rowsOf (d + 3) (Same none h' n') 7 [some (.ref l0), some (.int l1), some (.int l2), none, none, none] [] h nx 0 0) {h : Hp} {nx : Nat} {l0 : Nat} {l1 : Int32} {l2 : Int32} (e : F_X12_rowsOf_43 G k7 h nx l0 l1 l2 = some (v', h', n')) : Ok G mX12_rowsOf (d + 3) (Same none h' n') 43 [some (.ref l0), some (.int l1), some (.int l2), none, none, none] [] h nx 0 0 := by
  unfold F_X12_rowsOf_43 at e
  refine Ok.ldc (v := (nI 1000000)) dX12_rowsOf_43 wd1270 ?_
  refine Ok.goto (tgt := 49) dX12_rowsOf_45 (by decide) ?_
  exact Ok.weakL (k_X12_rowsOf_49 (d := d) K7 e) ⟨rfl, ⟨rfl, ⟨rfl, trivial⟩⟩⟩
noncomputable def F_X12_rowsOf_7 (G : Gx) : Nat → Hp → Nat → Nat → Int32 → Int32 → Rz Unit := fun n => Nat.rec (motive := fun _ => Hp → Nat → Nat → Int32 → Int32 → Rz Unit) (fun _ _ _ _ _ => none) (fun _ k7 => fun h nx l0 l1 l2 =>
if (nI 3) ≤ l2 then
some ((), h, nx)
else
if l2 = 0 then
gfR h l0 [12] 1 (fun v4 =>
nn v4 (fun p5 =>
alI (g_c G 0) h p5 (((nI 1034) + l1)) (fun v6 =>
(F_X12_rowsOf_49 G k7 h nx v6 l0 l1 l2))))
else
if l2 = (nI 1) then
(F_X12_rowsOf_43 G k7 h nx l0 l1 l2)
else
ck h l0 [12] (fun _ =>
cl (F_X12_value G h nx l0 l1 (nI 3)) (fun r1 h2 n3 =>
if r1 ≤ 0 then
(F_X12_rowsOf_49 G k7 h2 n3 (nI 0) l0 l1 l2)
else
(F_X12_rowsOf_43 G k7 h2 n3 l0 l1 l2)))) n
theorem F_X12_rowsOf_7_0 {G : Gx} {h : Hp} {nx : Nat} {l0 : Nat} {l1 : Int32} {l2 : Int32} : F_X12_rowsOf_7 G 0 h nx l0 l1 l2 = none := rfl
theorem F_X12_rowsOf_7_s {G : Gx} {n : Nat} {h : Hp} {nx : Nat} {l0 : Nat} {l1 : Int32} {l2 : Int32} : F_X12_rowsOf_7 G (n + 1) h nx l0 l1 l2 = (
if (nI 3) ≤ l2 then
some ((), h, nx)
else
if l2 = 0 then
gfR h l0 [12] 1 (fun v4 =>
nn v4 (fun p5 =>
alI (g_c G 0) h p5 (((nI 1034) + l1)) (fun v6 =>
(F_X12_rowsOf_49 G (F_X12_rowsOf_7 G n) h nx v6 l0 l1 l2))))
else
if l2 = (nI 1) then
(F_X12_rowsOf_43 G (F_X12_rowsOf_7 G n) h nx l0 l1 l2)
else
ck h l0 [12] (fun _ =>
cl (F_X12_value G h nx l0 l1 (nI 3)) (fun r1 h2 n3 =>
if r1 ≤ 0 then
(F_X12_rowsOf_49 G (F_X12_rowsOf_7 G n) h2 n3 (nI 0) l0 l1 l2)
else
(F_X12_rowsOf_43 G (F_X12_rowsOf_7 G n) h2 n3 l0 l1 l2)))) := rfl
set_option maxRecDepth 100000 in
set_option maxHeartbeats 4000000 in
theorem k_X12_rowsOf_7 {G : Gx} {d : Nat} {v' : Unit} {h' : Hp} {n' : Nat} : ∀ (n : Nat) {h : Hp} {nx : Nat} {l0 : Nat} {l1 : Int32} {l2 : Int32}, F_X12_rowsOf_7 G n h nx l0 l1 l2 = some (v', h', n') → Ok G mX12_rowsOf (d + 3) (Same none h' n') 7 [some (.ref l0), some (.int l1), some (.int l2), none, none, none] [] h nx 0 0 := by
  intro n
  induction n with
  | zero =>
    intro h nx l0 l1 l2 e
    rw [F_X12_rowsOf_7_0] at e
    cases e
  | succ n K7 =>
    intro h nx l0 l1 l2 e
    rw [F_X12_rowsOf_7_s] at e
    refine Ok.iload_n dX12_rowsOf_7 rfl ?_
    refine Ok.iconstV (v := (nI 3)) dX12_rowsOf_8 (by decide +kernel) ?_
    refine X.icmp_ge (tgt := 155) dX12_rowsOf_9 (by decide) e (fun e1 => ?_) (fun e1 => ?_)
    · clear e
      exact X.vret dX12_rowsOf_155 rfl (Nat.le_of_ble_eq_true rfl) (Nat.le_of_ble_eq_true rfl) e1
    · clear e
      refine Ok.iload_n dX12_rowsOf_12 rfl ?_
      refine X.if_ne (tgt := 29) dX12_rowsOf_13 (by decide) e1 (fun e2 => ?_) (fun e2 => ?_)
      · clear e1
        refine Ok.iload_n dX12_rowsOf_29 rfl ?_
        refine Ok.iconstV (v := (nI 1)) dX12_rowsOf_30 (by decide +kernel) ?_
        refine X.icmp_eq (tgt := 43) dX12_rowsOf_31 (by decide) e2 (fun e3 => ?_) (fun e3 => ?_)
        · clear e2
          exact Ok.weakL (k_X12_rowsOf_43 (d := d) K7 e3) ⟨rfl, ⟨rfl, ⟨rfl, trivial⟩⟩⟩
        · clear e2
          refine Ok.aload_n dX12_rowsOf_34 rfl ?_
          refine Ok.iload_n dX12_rowsOf_35 rfl ?_
          refine Ok.iconstV (v := (nI 3)) dX12_rowsOf_36 (by decide +kernel) ?_
          refine X.rck e3 (fun c fs hb hc e4 => ?_)
          clear e3
          obtain rfl := List.mem_singleton.mp hc
          refine X.callV (My := mX12_value) (n := 2) (As := [.int l1, .int (nI 3)]) (T := (fun v => (some (.int v)))) (stk' := (fun v => [.int v])) (rest := []) (kc' := 0) (ks' := 0) dX12_rowsOf_37 e4 (fun v h n e => k_X12_value (d := d + 2) e) hb rfl wd1319 wd80 wd1318 wd44 wd1316 (by decide +kernel) rfl (by decide) rfl rfl (Nat.le_of_ble_eq_true rfl) (Nat.le_of_ble_eq_true rfl) (Nat.le_of_ble_eq_true rfl) rfl rfl (fun _ => rfl) (fun r1 h2 n3 e5 => ?_)
          clear e4
          refine X.if_le (tgt := 48) dX12_rowsOf_40 (by decide) e5 (fun e6 => ?_) (fun e6 => ?_)
          · clear e5
            refine Ok.iconstV (v := (nI 0)) dX12_rowsOf_48 (by decide +kernel) ?_
            exact Ok.weakL (k_X12_rowsOf_49 (d := d) K7 e6) ⟨rfl, ⟨rfl, ⟨rfl, trivial⟩⟩⟩
          · clear e5
            exact Ok.weakL (k_X12_rowsOf_43 (d := d) K7 e6) ⟨rfl, ⟨rfl, ⟨rfl, trivial⟩⟩⟩
      · clear e1
        refine Ok.aload_n dX12_rowsOf_16 rfl ?_
        refine X.rgfR fl_RX12_9 dX12_rowsOf_17 e2 (fun v4 e3 => ?_)
        clear e2
        refine Ok.sipushV (v := (nI 1034)) dX12_rowsOf_20 (by decide +kernel) ?_
        refine Ok.iload_n dX12_rowsOf_23 rfl ?_
        refine Ok.iadd dX12_rowsOf_24 ?_
        refine X.rnn e3 (fun p5 q e4 => ?_)
        clear e3
        subst q
        refine X.iald dX12_rowsOf_25 e4 (fun v6 e5 => ?_)
        clear e4
        refine Ok.goto (tgt := 49) dX12_rowsOf_26 (by decide) ?_
        exact Ok.weakL (k_X12_rowsOf_49 (d := d) K7 e5) ⟨rfl, ⟨rfl, ⟨rfl, trivial⟩⟩⟩
noncomputable def F_X12_rowsOf (G : Gx) (h : Hp) (nx : Nat) (a0 : Nat) (a1 : Int32) : Rz Unit :=
pfV h a0 [12] 19 (.int a1) (fun h1 =>
(F_X12_rowsOf_7 G fuelL h1 nx a0 a1 (nI 0)))
set_option maxRecDepth 100000 in
set_option maxHeartbeats 4000000 in
theorem k_X12_rowsOf {G : Gx} {d : Nat} {h : Hp} {nx : Nat} {a0 : Nat} {a1 : Int32} {v' : Unit} {h' : Hp} {n' : Nat} (e : F_X12_rowsOf G h nx a0 a1 = some (v', h', n')) : Ct G mX12_rowsOf (d + 3) (Same none h' n') [.ref a0, .int a1] h nx := by
  unfold F_X12_rowsOf at e
  refine Ct.of (ls := [some (.ref a0), some (.int a1), none, none, none, none]) (by decide +kernel) rfl (Nat.le_of_ble_eq_true rfl) rfl ?_
  refine Ok.aload_n dX12_rowsOf_0 rfl ?_
  refine Ok.iload_n dX12_rowsOf_1 rfl ?_
  refine X.rpfV (v := (.int a1)) fp_RX12_187 rfl rfl dX12_rowsOf_2 e (fun h1 e1 => ?_)
  clear e
  refine Ok.iconstV (v := (nI 0)) dX12_rowsOf_5 (by decide +kernel) ?_
  refine XL.istore_n dX12_rowsOf_6 (by decide) (L := [some (.ref a0), some (.int a1), some (.int (nI 0)), none, none, none]) rfl ?_
  exact Ok.weakL (k_X12_rowsOf_7 (d := d) fuelL e1) ⟨rfl, ⟨rfl, ⟨rfl, trivial⟩⟩⟩
noncomputable def F_X12_bestOf_195 (G : Gx) (c_X12_bestOf : Hp → Nat → Nat → Int32 → Int32 → Rz Int64) (h : Hp) (nx : Nat) (l0 : Nat) (l3 : Int32) : Rz Int64 :=
gfR h l0 [12] 14 (fun v1 =>
nn v1 (fun p2 =>
alJ (g_c G 1) h p2 l3 (fun v3 =>
some (v3, h, nx))))
set_option maxRecDepth 100000 in
set_option maxHeartbeats 4000000 in
theorem k_X12_bestOf_195 {G : Gx} {d : Nat} {v' : Int64} {h' : Hp} {n' : Nat} {c_X12_bestOf : Hp → Nat → Nat → Int32 → Int32 → Rz Int64} (C_X12_bestOf : ∀ {h : Hp} {nx : Nat} {b0 : Nat} {b1 : Int32} {b2 : Int32} {v : Int64} {h1 : Hp} {n1 : Nat}, c_X12_bestOf h nx b0 b1 b2 = some (v, h1, n1) → Ct G mX12_bestOf (d + 2) (Same (some (.long v)) h1 n1) [.ref b0, .int b1, .int b2] h nx) {h : Hp} {nx : Nat} {l0 : Nat} {l3 : Int32} (e : F_X12_bestOf_195 G c_X12_bestOf h nx l0 l3 = some (v', h', n')) : Ok G mX12_bestOf (d + 3) (Same (some (.long v')) h' n') 195 [some (.ref l0), none, none, some (.int l3), none, none, none, none, none, none, none, none, none, none, none] [] h nx 0 0 := by
  unfold F_X12_bestOf_195 at e
  refine Ok.aload_n dX12_bestOf_195 rfl ?_
  refine X.rgfR fl_RX12_32 dX12_bestOf_196 e (fun v1 e1 => ?_)
  clear e
  refine Ok.iload_n dX12_bestOf_199 rfl ?_
  refine X.rnn e1 (fun p2 q e2 => ?_)
  clear e1
  subst q
  refine X.lald dX12_bestOf_200 e2 (fun v3 e3 => ?_)
  clear e2
  exact X.lret dX12_bestOf_201 rfl (Nat.le_of_ble_eq_true rfl) (Nat.le_of_ble_eq_true rfl) e3
noncomputable def F_X12_bestOf_194 (G : Gx) (c_X12_bestOf : Hp → Nat → Nat → Int32 → Int32 → Rz Int64) (h : Hp) (nx : Nat) (s0 : Option Nat) (s1 : Int32) (s2 : Int64) (l0 : Nat) (l3 : Int32) : Rz Int64 :=
nn s0 (fun p1 =>
asJ (g_c G 1) h p1 s1 s2 (fun h2 =>
(F_X12_bestOf_195 G c_X12_bestOf h2 nx l0 l3)))
set_option maxRecDepth 100000 in
set_option maxHeartbeats 4000000 in
theorem k_X12_bestOf_194 {G : Gx} {d : Nat} {v' : Int64} {h' : Hp} {n' : Nat} {c_X12_bestOf : Hp → Nat → Nat → Int32 → Int32 → Rz Int64} (C_X12_bestOf : ∀ {h : Hp} {nx : Nat} {b0 : Nat} {b1 : Int32} {b2 : Int32} {v : Int64} {h1 : Hp} {n1 : Nat}, c_X12_bestOf h nx b0 b1 b2 = some (v, h1, n1) → Ct G mX12_bestOf (d + 2) (Same (some (.long v)) h1 n1) [.ref b0, .int b1, .int b2] h nx) {h : Hp} {nx : Nat} {s0 : Option Nat} {s1 : Int32} {s2 : Int64} {l0 : Nat} {l3 : Int32} (e : F_X12_bestOf_194 G c_X12_bestOf h nx s0 s1 s2 l0 l3 = some (v', h', n')) : Ok G mX12_bestOf (d + 3) (Same (some (.long v')) h' n') 194 [some (.ref l0), none, none, some (.int l3), none, none, none, none, none, none, none, none, none, none, none] [.long s2, .int s1, va_rf s0] h nx 0 0 := by
  unfold F_X12_bestOf_194 at e
  refine X.rnn e (fun p1 q e1 => ?_)
  clear e
  subst q
  refine X.last dX12_bestOf_194 e1 (fun h2 e2 => ?_)
  clear e1
  exact Ok.weakL (k_X12_bestOf_195 (d := d) C_X12_bestOf e2) ⟨rfl, ⟨rfl, trivial⟩⟩
noncomputable def B_X12_bestOf (G : Gx) (c_X12_bestOf : Hp → Nat → Nat → Int32 → Int32 → Rz Int64) (h : Hp) (nx : Nat) (a0 : Nat) (a1 : Int32) (a2 : Int32) : Rz Int64 :=
if a2 = 0 then
some ((0 : Int64), h, nx)
else
nm (((((nI 9) * a1)) + a2)) (fun v1 =>
gfR h a0 [12] 17 (fun v2 =>
nn v2 (fun p3 =>
alI (g_c G 0) h p3 v1 (fun v4 =>
gfI h a0 [12] 18 (fun v5 =>
if v4 = v5 then
(F_X12_bestOf_195 G c_X12_bestOf h nx a0 v1)
else
gfR h a0 [12] 12 (fun v6 =>
nn v6 (fun p7 =>
alI (g_c G 0) h p7 a1 (fun v8 =>
gfI h a0 [12] 19 (fun v9 =>
ck h a0 [12] (fun _ =>
cl (F_X12_brings G h nx a0 v9 v8) (fun r10 h11 n12 =>
gfI h11 a0 [12] 20 (fun v13 =>
ck h11 a0 [12] (fun _ =>
cl (c_X12_bestOf h11 n12 a0 ((a1 + (nI 1))) ((a2 - (nI 1)))) (fun r14 h15 n16 =>
nm (((((((1000 : Int64) * (v13.toInt64))) + r10)) + r14)) (fun v17 =>
ck h15 a0 [12] (fun _ =>
cl (c_X12_bestOf h15 n16 a0 (nI 9) ((a2 - (nI 1)))) (fun r18 h19 n20 =>
ck h19 a0 [12] (fun _ =>
cl (c_X12_bestOf h19 n20 a0 (nI 18) ((a2 - (nI 1)))) (fun r21 h22 n23 =>
gfI h22 a0 [12] 19 (fun v24 =>
ck h22 a0 [12] (fun _ =>
cl (F_X12_value G h22 n23 a0 v24 (nI 3)) (fun r25 h26 n27 =>
nm ((r21 - (((1000 : Int64) * (r25.toInt64))))) (fun v28 =>
gfI h26 a0 [12] 19 (fun v29 =>
ck h26 a0 [12] (fun _ =>
cl (F_X12_value G h26 n27 a0 v29 (nI 2)) (fun r30 h31 n32 =>
nm ((((r10 - (((1000 : Int64) * (r30.toInt64))))) + (((((((v8.toInt64) * r18)) + ((((((nI 1000000) - v8)).toInt64) * v28)))) / (1000000 : Int64))))) (fun v33 =>
gfR h31 a0 [12] 17 (fun v34 =>
gfI h31 a0 [12] 18 (fun v35 =>
nn v34 (fun p36 =>
asI (g_c G 0) id h31 p36 v1 v35 (fun h37 =>
gfR h37 a0 [12] 15 (fun v38 =>
nn v38 (fun p39 =>
asJ (g_c G 1) h37 p39 v1 v17 (fun h40 =>
gfR h40 a0 [12] 16 (fun v41 =>
nn v41 (fun p42 =>
asJ (g_c G 1) h40 p42 v1 v33 (fun h43 =>
gfR h43 a0 [12] 14 (fun v44 =>
if ((lg_cmp v17 v33)) ≤ 0 then
(F_X12_bestOf_194 G c_X12_bestOf h43 n32 v44 v1 v33 a0 v1)
else
(F_X12_bestOf_194 G c_X12_bestOf h43 n32 v44 v1 v17 a0 v1)))))))))))))))))))))))))))))))))))))))
set_option maxRecDepth 100000 in
set_option maxHeartbeats 4000000 in
theorem b_X12_bestOf {G : Gx} {d : Nat} {c_X12_bestOf : Hp → Nat → Nat → Int32 → Int32 → Rz Int64} (C_X12_bestOf : ∀ {h : Hp} {nx : Nat} {b0 : Nat} {b1 : Int32} {b2 : Int32} {v : Int64} {h1 : Hp} {n1 : Nat}, c_X12_bestOf h nx b0 b1 b2 = some (v, h1, n1) → Ct G mX12_bestOf (d + 2) (Same (some (.long v)) h1 n1) [.ref b0, .int b1, .int b2] h nx) {h : Hp} {nx : Nat} {a0 : Nat} {a1 : Int32} {a2 : Int32} {v' : Int64} {h' : Hp} {n' : Nat} (e : B_X12_bestOf G c_X12_bestOf h nx a0 a1 a2 = some (v', h', n')) : Ct G mX12_bestOf (d + 3) (Same (some (.long v')) h' n') [.ref a0, .int a1, .int a2] h nx := by
  unfold B_X12_bestOf at e
  refine Ct.of (ls := [some (.ref a0), some (.int a1), some (.int a2), none, none, none, none, none, none, none, none, none, none, none, none]) (by decide +kernel) rfl (Nat.le_of_ble_eq_true rfl) rfl ?_
  refine Ok.iload_n dX12_bestOf_0 rfl ?_
  refine X.if_ne (tgt := 6) dX12_bestOf_1 (by decide) e (fun e1 => ?_) (fun e1 => ?_)
  · clear e
    refine Ok.bipushV (v := (nI 9)) dX12_bestOf_6 (by decide +kernel) ?_
    refine Ok.iload_n dX12_bestOf_8 rfl ?_
    refine Ok.imul dX12_bestOf_9 ?_
    refine Ok.iload_n dX12_bestOf_10 rfl ?_
    refine Ok.iadd dX12_bestOf_11 ?_
    refine X.istore_n dX12_bestOf_12 (by decide) e1 (L := fun v1 => [some (.ref a0), some (.int a1), some (.int a2), some (.int v1), none, none, none, none, none, none, none, none, none, none, none]) (fun _ => rfl) (fun v1 e2 => ?_)
    clear e1
    refine Ok.aload_n dX12_bestOf_13 rfl ?_
    refine X.rgfR fl_RX12_42 dX12_bestOf_14 e2 (fun v2 e3 => ?_)
    clear e2
    refine Ok.iload_n dX12_bestOf_17 rfl ?_
    refine X.rnn e3 (fun p3 q e4 => ?_)
    clear e3
    subst q
    refine X.iald dX12_bestOf_18 e4 (fun v4 e5 => ?_)
    clear e4
    refine Ok.aload_n dX12_bestOf_19 rfl ?_
    refine X.rgfI fl_RX12_190 dX12_bestOf_20 e5 (fun v5 e6 => ?_)
    clear e5
    refine X.icmp_eq (tgt := 195) dX12_bestOf_23 (by decide) e6 (fun e7 => ?_) (fun e7 => ?_)
    · clear e6
      exact Ok.weakL (k_X12_bestOf_195 (d := d) C_X12_bestOf e7) ⟨rfl, ⟨rfl, trivial⟩⟩
    · clear e6
      refine Ok.aload_n dX12_bestOf_26 rfl ?_
      refine X.rgfR fl_RX12_26 dX12_bestOf_27 e7 (fun v6 e8 => ?_)
      clear e7
      refine Ok.iload_n dX12_bestOf_30 rfl ?_
      refine X.rnn e8 (fun p7 q e9 => ?_)
      clear e8
      subst q
      refine X.iald dX12_bestOf_31 e9 (fun v8 e10 => ?_)
      clear e9
      refine XL.istore dX12_bestOf_32 (by decide) (L := [some (.ref a0), some (.int a1), some (.int a2), some (.int v1), some (.int v8), none, none, none, none, none, none, none, none, none, none]) rfl ?_
      refine Ok.aload_n dX12_bestOf_34 rfl ?_
      refine Ok.aload_n dX12_bestOf_35 rfl ?_
      refine X.rgfI fl_RX12_187 dX12_bestOf_36 e10 (fun v9 e11 => ?_)
      clear e10
      refine Ok.iload dX12_bestOf_39 rfl ?_
      refine X.rck e11 (fun c fs hb hc e12 => ?_)
      clear e11
      obtain rfl := List.mem_singleton.mp hc
      refine X.callV (My := mX12_brings) (n := 2) (As := [.int v9, .int v8]) (T := (fun v => (some (.long v)))) (stk' := (fun v => [.long v])) (rest := []) (kc' := 0) (ks' := 0) dX12_bestOf_41 e12 (fun v h n e => k_X12_brings (d := d + 1) e) hb rfl wd1331 wd80 wd1330 wd47 wd1328 (by decide +kernel) rfl (by decide) rfl rfl (Nat.le_of_ble_eq_true rfl) (Nat.le_of_ble_eq_true rfl) (Nat.le_of_ble_eq_true rfl) rfl rfl (fun _ => rfl) (fun r10 h11 n12 e13 => ?_)
      clear e12
      refine XL.lstore dX12_bestOf_44 (by decide) (L := [some (.ref a0), some (.int a1), some (.int a2), some (.int v1), some (.int v8), some (.long r10), none, none, none, none, none, none, none, none, none]) rfl ?_
      refine Ok.ldc2_w (v := 1000) dX12_bestOf_46 wd1295 ?_
      refine Ok.aload_n dX12_bestOf_49 rfl ?_
      refine X.rgfI fl_RX12_197 dX12_bestOf_50 e13 (fun v13 e14 => ?_)
      clear e13
      refine Ok.i2l dX12_bestOf_53 ?_
      refine Ok.lmul dX12_bestOf_54 ?_
      refine Ok.lload dX12_bestOf_55 rfl ?_
      refine Ok.ladd dX12_bestOf_57 ?_
      refine Ok.aload_n dX12_bestOf_58 rfl ?_
      refine Ok.iload_n dX12_bestOf_59 rfl ?_
      refine Ok.iconstV (v := (nI 1)) dX12_bestOf_60 (by decide +kernel) ?_
      refine Ok.iadd dX12_bestOf_61 ?_
      refine Ok.iload_n dX12_bestOf_62 rfl ?_
      refine Ok.iconstV (v := (nI 1)) dX12_bestOf_63 (by decide +kernel) ?_
      refine Ok.isub dX12_bestOf_64 ?_
      refine X.rck e14 (fun c fs hb hc e15 => ?_)
      clear e14
      obtain rfl := List.mem_singleton.mp hc
      refine X.callV (My := mX12_bestOf) (n := 2) (As := [.int ((a1 + (nI 1))), .int ((a2 - (nI 1)))]) (T := (fun v => (some (.long v)))) (stk' := (fun v => [.long v, .long (((((1000 : Int64) * (v13.toInt64))) + r10))])) (rest := [.long (((((1000 : Int64) * (v13.toInt64))) + r10))]) (kc' := 0) (ks' := 0) dX12_bestOf_65 e15 (fun v h n e => C_X12_bestOf e) hb rfl wd1327 wd80 wd1326 wd46 wd1324 (by decide +kernel) rfl (by decide) rfl rfl (Nat.le_of_ble_eq_true rfl) (Nat.le_of_ble_eq_true rfl) (Nat.le_of_ble_eq_true rfl) rfl rfl (fun _ => rfl) (fun r14 h15 n16 e16 => ?_)
      clear e15
      refine Ok.ladd dX12_bestOf_68 ?_
      refine X.lstore dX12_bestOf_69 (by decide) e16 (L := fun v17 => [some (.ref a0), some (.int a1), some (.int a2), some (.int v1), some (.int v8), some (.long r10), none, some (.long v17), none, none, none, none, none, none, none]) (fun _ => rfl) (fun v17 e17 => ?_)
      clear e16
      refine Ok.aload_n dX12_bestOf_71 rfl ?_
      refine Ok.bipushV (v := (nI 9)) dX12_bestOf_72 (by decide +kernel) ?_
      refine Ok.iload_n dX12_bestOf_74 rfl ?_
      refine Ok.iconstV (v := (nI 1)) dX12_bestOf_75 (by decide +kernel) ?_
      refine Ok.isub dX12_bestOf_76 ?_
      refine X.rck e17 (fun c fs hb hc e18 => ?_)
      clear e17
      obtain rfl := List.mem_singleton.mp hc
      refine X.callV (My := mX12_bestOf) (n := 2) (As := [.int (nI 9), .int ((a2 - (nI 1)))]) (T := (fun v => (some (.long v)))) (stk' := (fun v => [.long v])) (rest := []) (kc' := 0) (ks' := 0) dX12_bestOf_77 e18 (fun v h n e => C_X12_bestOf e) hb rfl wd1327 wd80 wd1326 wd46 wd1324 (by decide +kernel) rfl (by decide) rfl rfl (Nat.le_of_ble_eq_true rfl) (Nat.le_of_ble_eq_true rfl) (Nat.le_of_ble_eq_true rfl) rfl rfl (fun _ => rfl) (fun r18 h19 n20 e19 => ?_)
      clear e18
      refine XL.lstore dX12_bestOf_80 (by decide) (L := [some (.ref a0), some (.int a1), some (.int a2), some (.int v1), some (.int v8), some (.long r10), none, some (.long v17), none, some (.long r18), none, none, none, none, none]) rfl ?_
      refine Ok.aload_n dX12_bestOf_82 rfl ?_
      refine Ok.bipushV (v := (nI 18)) dX12_bestOf_83 (by decide +kernel) ?_
      refine Ok.iload_n dX12_bestOf_85 rfl ?_
      refine Ok.iconstV (v := (nI 1)) dX12_bestOf_86 (by decide +kernel) ?_
      refine Ok.isub dX12_bestOf_87 ?_
      refine X.rck e19 (fun c fs hb hc e20 => ?_)
      clear e19
      obtain rfl := List.mem_singleton.mp hc
      refine X.callV (My := mX12_bestOf) (n := 2) (As := [.int (nI 18), .int ((a2 - (nI 1)))]) (T := (fun v => (some (.long v)))) (stk' := (fun v => [.long v])) (rest := []) (kc' := 0) (ks' := 0) dX12_bestOf_88 e20 (fun v h n e => C_X12_bestOf e) hb rfl wd1327 wd80 wd1326 wd46 wd1324 (by decide +kernel) rfl (by decide) rfl rfl (Nat.le_of_ble_eq_true rfl) (Nat.le_of_ble_eq_true rfl) (Nat.le_of_ble_eq_true rfl) rfl rfl (fun _ => rfl) (fun r21 h22 n23 e21 => ?_)
      clear e20
      refine Ok.ldc2_w (v := 1000) dX12_bestOf_91 wd1295 ?_
      refine Ok.aload_n dX12_bestOf_94 rfl ?_
      refine Ok.aload_n dX12_bestOf_95 rfl ?_
      refine X.rgfI fl_RX12_187 dX12_bestOf_96 e21 (fun v24 e22 => ?_)
      clear e21
      refine Ok.iconstV (v := (nI 3)) dX12_bestOf_99 (by decide +kernel) ?_
      refine X.rck e22 (fun c fs hb hc e23 => ?_)
      clear e22
      obtain rfl := List.mem_singleton.mp hc
      refine X.callV (My := mX12_value) (n := 2) (As := [.int v24, .int (nI 3)]) (T := (fun v => (some (.int v)))) (stk' := (fun v => [.int v, .long (1000 : Int64), .long r21])) (rest := [.long (1000 : Int64), .long r21]) (kc' := 0) (ks' := 0) dX12_bestOf_100 e23 (fun v h n e => k_X12_value (d := d + 2) e) hb rfl wd1319 wd80 wd1318 wd44 wd1316 (by decide +kernel) rfl (by decide) rfl rfl (Nat.le_of_ble_eq_true rfl) (Nat.le_of_ble_eq_true rfl) (Nat.le_of_ble_eq_true rfl) rfl rfl (fun _ => rfl) (fun r25 h26 n27 e24 => ?_)
      clear e23
      refine Ok.i2l dX12_bestOf_103 ?_
      refine Ok.lmul dX12_bestOf_104 ?_
      refine Ok.lsub dX12_bestOf_105 ?_
      refine X.lstore dX12_bestOf_106 (by decide) e24 (L := fun v28 => [some (.ref a0), some (.int a1), some (.int a2), some (.int v1), some (.int v8), some (.long r10), none, some (.long v17), none, some (.long r18), none, some (.long v28), none, none, none]) (fun _ => rfl) (fun v28 e25 => ?_)
      clear e24
      refine Ok.lload dX12_bestOf_108 rfl ?_
      refine Ok.ldc2_w (v := 1000) dX12_bestOf_110 wd1295 ?_
      refine Ok.aload_n dX12_bestOf_113 rfl ?_
      refine Ok.aload_n dX12_bestOf_114 rfl ?_
      refine X.rgfI fl_RX12_187 dX12_bestOf_115 e25 (fun v29 e26 => ?_)
      clear e25
      refine Ok.iconstV (v := (nI 2)) dX12_bestOf_118 (by decide +kernel) ?_
      refine X.rck e26 (fun c fs hb hc e27 => ?_)
      clear e26
      obtain rfl := List.mem_singleton.mp hc
      refine X.callV (My := mX12_value) (n := 2) (As := [.int v29, .int (nI 2)]) (T := (fun v => (some (.int v)))) (stk' := (fun v => [.int v, .long (1000 : Int64), .long r10])) (rest := [.long (1000 : Int64), .long r10]) (kc' := 0) (ks' := 0) dX12_bestOf_119 e27 (fun v h n e => k_X12_value (d := d + 2) e) hb rfl wd1319 wd80 wd1318 wd44 wd1316 (by decide +kernel) rfl (by decide) rfl rfl (Nat.le_of_ble_eq_true rfl) (Nat.le_of_ble_eq_true rfl) (Nat.le_of_ble_eq_true rfl) rfl rfl (fun _ => rfl) (fun r30 h31 n32 e28 => ?_)
      clear e27
      refine Ok.i2l dX12_bestOf_122 ?_
      refine Ok.lmul dX12_bestOf_123 ?_
      refine Ok.lsub dX12_bestOf_124 ?_
      refine Ok.iload dX12_bestOf_125 rfl ?_
      refine Ok.i2l dX12_bestOf_127 ?_
      refine Ok.lload dX12_bestOf_128 rfl ?_
      refine Ok.lmul dX12_bestOf_130 ?_
      refine Ok.ldc (v := (nI 1000000)) dX12_bestOf_131 wd1270 ?_
      refine Ok.iload dX12_bestOf_133 rfl ?_
      refine Ok.isub dX12_bestOf_135 ?_
      refine Ok.i2l dX12_bestOf_136 ?_
      refine Ok.lload dX12_bestOf_137 rfl ?_
      refine Ok.lmul dX12_bestOf_139 ?_
      refine Ok.ladd dX12_bestOf_140 ?_
      refine Ok.ldc2_w (v := 1000000) dX12_bestOf_141 wd1332 ?_
      refine Ok.ldiv dX12_bestOf_144 (by decide +kernel) ?_
      refine Ok.ladd dX12_bestOf_145 ?_
      refine X.lstore dX12_bestOf_146 (by decide) e28 (L := fun v33 => [some (.ref a0), some (.int a1), some (.int a2), some (.int v1), some (.int v8), some (.long r10), none, some (.long v17), none, some (.long r18), none, some (.long v28), none, some (.long v33), none]) (fun _ => rfl) (fun v33 e29 => ?_)
      clear e28
      refine Ok.aload_n dX12_bestOf_148 rfl ?_
      refine X.rgfR fl_RX12_42 dX12_bestOf_149 e29 (fun v34 e30 => ?_)
      clear e29
      refine Ok.iload_n dX12_bestOf_152 rfl ?_
      refine Ok.aload_n dX12_bestOf_153 rfl ?_
      refine X.rgfI fl_RX12_190 dX12_bestOf_154 e30 (fun v35 e31 => ?_)
      clear e30
      refine X.rnn e31 (fun p36 q e32 => ?_)
      clear e31
      subst q
      refine X.iast dX12_bestOf_157 e32 (fun h37 e33 => ?_)
      clear e32
      refine Ok.aload_n dX12_bestOf_158 rfl ?_
      refine X.rgfR fl_RX12_36 dX12_bestOf_159 e33 (fun v38 e34 => ?_)
      clear e33
      refine Ok.iload_n dX12_bestOf_162 rfl ?_
      refine Ok.lload dX12_bestOf_163 rfl ?_
      refine X.rnn e34 (fun p39 q e35 => ?_)
      clear e34
      subst q
      refine X.last dX12_bestOf_165 e35 (fun h40 e36 => ?_)
      clear e35
      refine Ok.aload_n dX12_bestOf_166 rfl ?_
      refine X.rgfR fl_RX12_39 dX12_bestOf_167 e36 (fun v41 e37 => ?_)
      clear e36
      refine Ok.iload_n dX12_bestOf_170 rfl ?_
      refine Ok.lload dX12_bestOf_171 rfl ?_
      refine X.rnn e37 (fun p42 q e38 => ?_)
      clear e37
      subst q
      refine X.last dX12_bestOf_173 e38 (fun h43 e39 => ?_)
      clear e38
      refine Ok.aload_n dX12_bestOf_174 rfl ?_
      refine X.rgfR fl_RX12_32 dX12_bestOf_175 e39 (fun v44 e40 => ?_)
      clear e39
      refine Ok.iload_n dX12_bestOf_178 rfl ?_
      refine Ok.lload dX12_bestOf_179 rfl ?_
      refine Ok.lload dX12_bestOf_181 rfl ?_
      refine Ok.lcmp dX12_bestOf_183 ?_
      refine X.if_le (tgt := 192) dX12_bestOf_184 (by decide) e40 (fun e41 => ?_) (fun e41 => ?_)
      · clear e40
        refine Ok.lload dX12_bestOf_192 rfl ?_
        exact Ok.weakL (k_X12_bestOf_194 (d := d) C_X12_bestOf e41) ⟨rfl, ⟨rfl, trivial⟩⟩
      · clear e40
        refine Ok.lload dX12_bestOf_187 rfl ?_
        refine Ok.goto (tgt := 194) dX12_bestOf_189 (by decide) ?_
        exact Ok.weakL (k_X12_bestOf_194 (d := d) C_X12_bestOf e41) ⟨rfl, ⟨rfl, trivial⟩⟩
  · clear e
    refine XL.lconst (v := 0) dX12_bestOf_4 (by decide +kernel) ?_
    exact X.lret dX12_bestOf_5 rfl (Nat.le_of_ble_eq_true rfl) (Nat.le_of_ble_eq_true rfl) e1
noncomputable def R_X12_bestOf (G : Gx) : Nat → ((Hp → Nat → Nat → Int32 → Int32 → Rz Int64)) := fun n => Nat.rec (motive := fun _ => ((Hp → Nat → Nat → Int32 → Int32 → Rz Int64))) ((fun _ _ _ _ _ => none)) (fun _ p => (B_X12_bestOf G p)) n
noncomputable def F_X12_bestOf (G : Gx) (n : Nat) : Hp → Nat → Nat → Int32 → Int32 → Rz Int64 := (R_X12_bestOf G n)
set_option maxRecDepth 100000 in
theorem R_X12_bestOf_s {G : Gx} {n : Nat} : R_X12_bestOf G (n + 1) = (B_X12_bestOf G (F_X12_bestOf G n)) := rfl
set_option maxRecDepth 100000 in
theorem F_X12_bestOf_s {G : Gx} {n : Nat} : F_X12_bestOf G (n + 1) = B_X12_bestOf G (F_X12_bestOf G n) := R_X12_bestOf_s
theorem F_X12_bestOf_0 {G : Gx} : F_X12_bestOf G 0 = (fun _ _ _ _ _ => none) := rfl
set_option maxRecDepth 100000 in
set_option maxHeartbeats 4000000 in
theorem kk_X12_bestOf {G : Gx} {d : Nat} : ∀ n : Nat, (∀ {h : Hp} {nx : Nat} {a0 : Nat} {a1 : Int32} {a2 : Int32} {v : Int64} {h1 : Hp} {n1 : Nat}, F_X12_bestOf G n h nx a0 a1 a2 = some (v, h1, n1) → Ct G mX12_bestOf (d + (n + 2)) (Same (some (.long v)) h1 n1) [.ref a0, .int a1, .int a2] h nx) := by
  intro n
  induction n with
  | zero => exact (fun e => (by have e9 : (none : Rz Int64) = some _ := e; cases e9))
  | succ n ih =>
    have i0 := @ih
    exact (by
      intro h nx a0 a1 a2 v h1 n1 e
      rw [F_X12_bestOf_s] at e
      rw [show d + (n + 1 + 2) = (d + n) + 3 by omega]
      exact b_X12_bestOf (d := d + n) (fun e => by rw [show d + n + 2 = d + (n + 2) by omega]; exact i0 e) e)
theorem k_X12_bestOf {G : Gx} {d : Nat} (n : Nat) : ∀ {h : Hp} {nx : Nat} {a0 : Nat} {a1 : Int32} {a2 : Int32} {v : Int64} {h1 : Hp} {n1 : Nat}, F_X12_bestOf G n h nx a0 a1 a2 = some (v, h1, n1) → Ct G mX12_bestOf (d + (n + 2)) (Same (some (.long v)) h1 n1) [.ref a0, .int a1, .int a2] h nx := (@kk_X12_bestOf G d n)
noncomputable def F_X12_bestBy (G : Gx) (h : Hp) (nx : Nat) (a0 : Nat) (a1 : Int32) (a2 : Int32) : Rz Int64 :=
pfV h a0 [12] 20 (.int a1) (fun h1 =>
gfI h1 a0 [12] 18 (fun v2 =>
pfV h1 a0 [12] 18 (.int ((v2 + (nI 1)))) (fun h3 =>
ck h3 a0 [12] (fun _ =>
cl (F_X12_bestOf G 64 h3 nx a0 (nI 0) a2) (fun r4 h5 n6 =>
some (r4, h5, n6))))))
set_option maxRecDepth 100000 in
set_option maxHeartbeats 4000000 in
theorem k_X12_bestBy {G : Gx} {d : Nat} {h : Hp} {nx : Nat} {a0 : Nat} {a1 : Int32} {a2 : Int32} {v' : Int64} {h' : Hp} {n' : Nat} (e : F_X12_bestBy G h nx a0 a1 a2 = some (v', h', n')) : Ct G mX12_bestBy (d + 67) (Same (some (.long v')) h' n') [.ref a0, .int a1, .int a2] h nx := by
  unfold F_X12_bestBy at e
  refine Ct.of (ls := [some (.ref a0), some (.int a1), some (.int a2)]) (by decide +kernel) rfl (Nat.le_of_ble_eq_true rfl) rfl ?_
  refine Ok.aload_n dX12_bestBy_0 rfl ?_
  refine Ok.iload_n dX12_bestBy_1 rfl ?_
  refine X.rpfV (v := (.int a1)) fp_RX12_197 rfl rfl dX12_bestBy_2 e (fun h1 e1 => ?_)
  clear e
  refine Ok.aload_n dX12_bestBy_5 rfl ?_
  refine Ok.dup dX12_bestBy_6 rfl ?_
  refine X.rgfI fl_RX12_190 dX12_bestBy_7 e1 (fun v2 e2 => ?_)
  clear e1
  refine Ok.iconstV (v := (nI 1)) dX12_bestBy_10 (by decide +kernel) ?_
  refine Ok.iadd dX12_bestBy_11 ?_
  refine X.rpfV (v := (.int ((v2 + (nI 1))))) fp_RX12_190 rfl rfl dX12_bestBy_12 e2 (fun h3 e3 => ?_)
  clear e2
  refine Ok.aload_n dX12_bestBy_15 rfl ?_
  refine Ok.iconstV (v := (nI 0)) dX12_bestBy_16 (by decide +kernel) ?_
  refine Ok.iload_n dX12_bestBy_17 rfl ?_
  refine X.rck e3 (fun c fs hb hc e4 => ?_)
  clear e3
  obtain rfl := List.mem_singleton.mp hc
  refine X.callV (My := mX12_bestOf) (n := 2) (As := [.int (nI 0), .int a2]) (T := (fun v => (some (.long v)))) (stk' := (fun v => [.long v])) (rest := []) (kc' := 0) (ks' := 0) dX12_bestBy_18 e4 (fun v h n e => k_X12_bestOf 64 (d := d + 0) e) hb rfl wd1327 wd80 wd1326 wd46 wd1324 (by decide +kernel) rfl (by decide) rfl rfl (Nat.le_of_ble_eq_true rfl) (Nat.le_of_ble_eq_true rfl) (Nat.le_of_ble_eq_true rfl) rfl rfl (fun _ => rfl) (fun r4 h5 n6 e5 => ?_)
  clear e4
  exact X.lret dX12_bestBy_21 rfl (Nat.le_of_ble_eq_true rfl) (Nat.le_of_ble_eq_true rfl) e5
