noncomputable def F_X12_weight_20 (G : Gx) (h : Hp) (nx : Nat) (s0 : Int32) : Rz Int32 :=
some (s0, h, nx)
set_option maxRecDepth 100000 in
set_option maxHeartbeats 4000000 in
theorem k_X12_weight_20 {G : Gx} {d : Nat} {v' : Int32} {h' : Hp} {n' : Nat} {h : Hp} {nx : Nat} {s0 : Int32} (e : F_X12_weight_20 G h nx s0 = some (v', h', n')) : Ok G mX12_weight (d + 70) (Same (some (.int v')) h' n') 20 [none, none, none, none] [.int s0] h nx 0 0 := by
  unfold F_X12_weight_20 at e
  exact X.iret dX12_weight_20 rfl (Nat.le_of_ble_eq_true rfl) (Nat.le_of_ble_eq_true rfl) e
noncomputable def F_X12_weight (G : Gx) (h : Hp) (nx : Nat) (a0 : Nat) (a1 : Int32) (a2 : Int32) : Rz Int32 :=
ck h a0 [12] (fun _ =>
cl (F_X12_numberOf G h nx a0 a1 a2) (fun r1 h2 n3 =>
if r1 = (-5 : Int32) then
(F_X12_weight_20 G h2 n3 (nI 201))
else
(F_X12_weight_20 G h2 n3 r1)))
set_option maxRecDepth 100000 in
set_option maxHeartbeats 4000000 in
theorem k_X12_weight {G : Gx} {d : Nat} {h : Hp} {nx : Nat} {a0 : Nat} {a1 : Int32} {a2 : Int32} {v' : Int32} {h' : Hp} {n' : Nat} (e : F_X12_weight G h nx a0 a1 a2 = some (v', h', n')) : Ct G mX12_weight (d + 70) (Same (some (.int v')) h' n') [.ref a0, .int a1, .int a2] h nx := by
  unfold F_X12_weight at e
  refine Ct.of (ls := [some (.ref a0), some (.int a1), some (.int a2), none]) (by decide +kernel) rfl (Nat.le_of_ble_eq_true rfl) rfl ?_
  refine Ok.aload_n dX12_weight_0 rfl ?_
  refine Ok.iload_n dX12_weight_1 rfl ?_
  refine Ok.iload_n dX12_weight_2 rfl ?_
  refine X.rck e (fun c fs hb hc e1 => ?_)
  clear e
  obtain rfl := List.mem_singleton.mp hc
  refine X.callV (My := mX12_numberOf) (n := 2) (As := [.int a1, .int a2]) (T := (fun v => (some (.int v)))) (stk' := (fun v => [.int v])) (rest := []) (kc' := 0) (ks' := 0) dX12_weight_3 e1 (fun v h n e => k_X12_numberOf (d := d + 0) e) hb rfl wd1340 wd80 wd1339 wd48 wd1337 (by decide +kernel) rfl (by decide) rfl rfl (Nat.le_of_ble_eq_true rfl) (Nat.le_of_ble_eq_true rfl) (Nat.le_of_ble_eq_true rfl) rfl rfl (fun _ => rfl) (fun r1 h2 n3 e2 => ?_)
  clear e1
  refine XL.istore_n dX12_weight_6 (by decide) (L := [some (.ref a0), some (.int a1), some (.int a2), some (.int r1)]) rfl ?_
  refine Ok.iload_n dX12_weight_7 rfl ?_
  refine Ok.bipushV (v := (-5 : Int32)) dX12_weight_8 (by decide +kernel) ?_
  refine X.icmp_ne (tgt := 19) dX12_weight_10 (by decide) e2 (fun e3 => ?_) (fun e3 => ?_)
  · clear e2
    refine Ok.iload_n dX12_weight_19 rfl ?_
    exact Ok.weakL (k_X12_weight_20 (d := d) e3) trivial
  · clear e2
    refine Ok.sipushV (v := (nI 201)) dX12_weight_13 (by decide +kernel) ?_
    refine Ok.goto (tgt := 20) dX12_weight_16 (by decide) ?_
    exact Ok.weakL (k_X12_weight_20 (d := d) e3) trivial
noncomputable def F_X12_tour_21 (G : Gx) (h : Hp) (nx : Nat) : Rz Int32 :=
some ((-2 : Int32), h, nx)
set_option maxRecDepth 100000 in
set_option maxHeartbeats 4000000 in
theorem k_X12_tour_21 {G : Gx} {d : Nat} {v' : Int32} {h' : Hp} {n' : Nat} {h : Hp} {nx : Nat} (e : F_X12_tour_21 G h nx = some (v', h', n')) : Ok G mX12_tour (d + 71) (Same (some (.int v')) h' n') 21 [none, none, none, none, none, none, none, none, none, none] [] h nx 0 0 := by
  unfold F_X12_tour_21 at e
  refine Ok.bipushV (v := (-2 : Int32)) dX12_tour_21 (by decide +kernel) ?_
  exact X.iret dX12_tour_23 rfl (Nat.le_of_ble_eq_true rfl) (Nat.le_of_ble_eq_true rfl) e
noncomputable def F_X12_tour_239 (G : Gx) (k62 : Hp → Nat → Nat → Int32 → Int32 → Int32 → Int32 → Rz Int32) (h : Hp) (nx : Nat) (s0 : Int32) (l0 : Nat) (l1 : Int32) (l3 : Int32) (l5 : Int32) : Rz Int32 :=
nm (l5 + (nI 1)) (fun v1 =>
(k62 h nx l0 l1 l3 s0 v1))
set_option maxRecDepth 100000 in
set_option maxHeartbeats 4000000 in
theorem k_X12_tour_239 {G : Gx} {d : Nat} {v' : Int32} {h' : Hp} {n' : Nat} {k62 : Hp → Nat → Nat → Int32 → Int32 → Int32 → Int32 → Rz Int32} (K62 : ∀ {h : Hp} {nx : Nat} {l0 : Nat} {l1 : Int32} {l3 : Int32} {l4 : Int32} {l5 : Int32}, k62 h nx l0 l1 l3 l4 l5 = some (v', h', n') → Ok G mX12_tour (d + 71) (Same (some (.int v')) h' n') 62 [some (.ref l0), some (.int l1), none, some (.int l3), some (.int l4), some (.int l5), none, none, none, none] [] h nx 0 0) {h : Hp} {nx : Nat} {s0 : Int32} {l0 : Nat} {l1 : Int32} {l3 : Int32} {l5 : Int32} (e : F_X12_tour_239 G k62 h nx s0 l0 l1 l3 l5 = some (v', h', n')) : Ok G mX12_tour (d + 71) (Same (some (.int v')) h' n') 239 [some (.ref l0), some (.int l1), none, some (.int l3), none, some (.int l5), none, none, none, none] [.int s0] h nx 0 0 := by
  unfold F_X12_tour_239 at e
  refine XL.istore dX12_tour_239 (by decide) (L := [some (.ref l0), some (.int l1), none, some (.int l3), some (.int s0), some (.int l5), none, none, none, none]) rfl ?_
  refine X.iinc dX12_tour_241 rfl (by decide) (by decide +kernel) e (L := fun v1 => [some (.ref l0), some (.int l1), none, some (.int l3), some (.int s0), some (.int v1), none, none, none, none]) (fun _ => rfl) (fun v1 e1 => ?_)
  clear e
  refine Ok.goto (tgt := 62) dX12_tour_244 (by decide) ?_
  exact Ok.weakL (K62 e1) ⟨rfl, ⟨rfl, ⟨rfl, ⟨rfl, ⟨rfl, trivial⟩⟩⟩⟩⟩
noncomputable def F_X12_tour_226 (G : Gx) (k62 : Hp → Nat → Nat → Int32 → Int32 → Int32 → Int32 → Rz Int32) (h : Hp) (nx : Nat) (s0 : Int32) (l0 : Nat) (l1 : Int32) (l4 : Int32) (l5 : Int32) (l6 : Int32) (l8 : Int32) : Rz Int32 :=
if l8 = 0 then
(F_X12_tour_239 G k62 h nx l4 l0 l1 s0 l5)
else
(F_X12_tour_239 G k62 h nx l6 l0 l1 s0 l5)
set_option maxRecDepth 100000 in
set_option maxHeartbeats 4000000 in
theorem k_X12_tour_226 {G : Gx} {d : Nat} {v' : Int32} {h' : Hp} {n' : Nat} {k62 : Hp → Nat → Nat → Int32 → Int32 → Int32 → Int32 → Rz Int32} (K62 : ∀ {h : Hp} {nx : Nat} {l0 : Nat} {l1 : Int32} {l3 : Int32} {l4 : Int32} {l5 : Int32}, k62 h nx l0 l1 l3 l4 l5 = some (v', h', n') → Ok G mX12_tour (d + 71) (Same (some (.int v')) h' n') 62 [some (.ref l0), some (.int l1), none, some (.int l3), some (.int l4), some (.int l5), none, none, none, none] [] h nx 0 0) {h : Hp} {nx : Nat} {s0 : Int32} {l0 : Nat} {l1 : Int32} {l4 : Int32} {l5 : Int32} {l6 : Int32} {l8 : Int32} (e : F_X12_tour_226 G k62 h nx s0 l0 l1 l4 l5 l6 l8 = some (v', h', n')) : Ok G mX12_tour (d + 71) (Same (some (.int v')) h' n') 226 [some (.ref l0), some (.int l1), none, none, some (.int l4), some (.int l5), some (.int l6), none, some (.int l8), none] [.int s0] h nx 0 0 := by
  unfold F_X12_tour_226 at e
  refine XL.istore_n dX12_tour_226 (by decide) (L := [some (.ref l0), some (.int l1), none, some (.int s0), some (.int l4), some (.int l5), some (.int l6), none, some (.int l8), none]) rfl ?_
  refine Ok.iload dX12_tour_227 rfl ?_
  refine X.if_eq (tgt := 237) dX12_tour_229 (by decide) e (fun e1 => ?_) (fun e1 => ?_)
  · clear e
    refine Ok.iload dX12_tour_237 rfl ?_
    exact Ok.weakL (k_X12_tour_239 (d := d) K62 e1) ⟨rfl, ⟨rfl, ⟨rfl, ⟨rfl, trivial⟩⟩⟩⟩
  · clear e
    refine Ok.iload dX12_tour_232 rfl ?_
    refine Ok.goto (tgt := 239) dX12_tour_234 (by decide) ?_
    exact Ok.weakL (k_X12_tour_239 (d := d) K62 e1) ⟨rfl, ⟨rfl, ⟨rfl, ⟨rfl, trivial⟩⟩⟩⟩
noncomputable def F_X12_tour_213 (G : Gx) (k62 : Hp → Nat → Nat → Int32 → Int32 → Int32 → Int32 → Rz Int32) (h : Hp) (nx : Nat) (s0 : Int32) (l0 : Nat) (l1 : Int32) (l3 : Int32) (l4 : Int32) (l5 : Int32) (l6 : Int32) : Rz Int32 :=
if s0 = 0 then
(F_X12_tour_226 G k62 h nx l3 l0 l1 l4 l5 l6 s0)
else
(F_X12_tour_226 G k62 h nx l5 l0 l1 l4 l5 l6 s0)
set_option maxRecDepth 100000 in
set_option maxHeartbeats 4000000 in
theorem k_X12_tour_213 {G : Gx} {d : Nat} {v' : Int32} {h' : Hp} {n' : Nat} {k62 : Hp → Nat → Nat → Int32 → Int32 → Int32 → Int32 → Rz Int32} (K62 : ∀ {h : Hp} {nx : Nat} {l0 : Nat} {l1 : Int32} {l3 : Int32} {l4 : Int32} {l5 : Int32}, k62 h nx l0 l1 l3 l4 l5 = some (v', h', n') → Ok G mX12_tour (d + 71) (Same (some (.int v')) h' n') 62 [some (.ref l0), some (.int l1), none, some (.int l3), some (.int l4), some (.int l5), none, none, none, none] [] h nx 0 0) {h : Hp} {nx : Nat} {s0 : Int32} {l0 : Nat} {l1 : Int32} {l3 : Int32} {l4 : Int32} {l5 : Int32} {l6 : Int32} (e : F_X12_tour_213 G k62 h nx s0 l0 l1 l3 l4 l5 l6 = some (v', h', n')) : Ok G mX12_tour (d + 71) (Same (some (.int v')) h' n') 213 [some (.ref l0), some (.int l1), none, some (.int l3), some (.int l4), some (.int l5), some (.int l6), none, none, none] [.int s0] h nx 0 0 := by
  unfold F_X12_tour_213 at e
  refine XL.istore dX12_tour_213 (by decide) (L := [some (.ref l0), some (.int l1), none, some (.int l3), some (.int l4), some (.int l5), some (.int l6), none, some (.int s0), none]) rfl ?_
  refine Ok.iload dX12_tour_215 rfl ?_
  refine X.if_eq (tgt := 225) dX12_tour_217 (by decide) e (fun e1 => ?_) (fun e1 => ?_)
  · clear e
    refine Ok.iload_n dX12_tour_225 rfl ?_
    exact Ok.weakL (k_X12_tour_226 (d := d) K62 e1) ⟨rfl, ⟨rfl, ⟨rfl, ⟨rfl, ⟨rfl, ⟨rfl, trivial⟩⟩⟩⟩⟩⟩
  · clear e
    refine Ok.iload dX12_tour_220 rfl ?_
    refine Ok.goto (tgt := 226) dX12_tour_222 (by decide) ?_
    exact Ok.weakL (k_X12_tour_226 (d := d) K62 e1) ⟨rfl, ⟨rfl, ⟨rfl, ⟨rfl, ⟨rfl, ⟨rfl, trivial⟩⟩⟩⟩⟩⟩
noncomputable def F_X12_tour_212 (G : Gx) (k62 : Hp → Nat → Nat → Int32 → Int32 → Int32 → Int32 → Rz Int32) (h : Hp) (nx : Nat) (l0 : Nat) (l1 : Int32) (l3 : Int32) (l4 : Int32) (l5 : Int32) (l6 : Int32) : Rz Int32 :=
(F_X12_tour_213 G k62 h nx (nI 0) l0 l1 l3 l4 l5 l6)
set_option maxRecDepth 100000 in
set_option maxHeartbeats 4000000 in
theorem k_X12_tour_212 {G : Gx} {d : Nat} {v' : Int32} {h' : Hp} {n' : Nat} {k62 : Hp → Nat → Nat → Int32 → Int32 → Int32 → Int32 → Rz Int32} (K62 : ∀ {h : Hp} {nx : Nat} {l0 : Nat} {l1 : Int32} {l3 : Int32} {l4 : Int32} {l5 : Int32}, k62 h nx l0 l1 l3 l4 l5 = some (v', h', n') → Ok G mX12_tour (d + 71) (Same (some (.int v')) h' n') 62 [some (.ref l0), some (.int l1), none, some (.int l3), some (.int l4), some (.int l5), none, none, none, none] [] h nx 0 0) {h : Hp} {nx : Nat} {l0 : Nat} {l1 : Int32} {l3 : Int32} {l4 : Int32} {l5 : Int32} {l6 : Int32} (e : F_X12_tour_212 G k62 h nx l0 l1 l3 l4 l5 l6 = some (v', h', n')) : Ok G mX12_tour (d + 71) (Same (some (.int v')) h' n') 212 [some (.ref l0), some (.int l1), none, some (.int l3), some (.int l4), some (.int l5), some (.int l6), none, none, none] [] h nx 0 0 := by
  unfold F_X12_tour_212 at e
  refine Ok.iconstV (v := (nI 0)) dX12_tour_212 (by decide +kernel) ?_
  exact Ok.weakL (k_X12_tour_213 (d := d) K62 e) ⟨rfl, ⟨rfl, ⟨rfl, ⟨rfl, ⟨rfl, ⟨rfl, trivial⟩⟩⟩⟩⟩⟩
noncomputable def F_X12_tour_171 (G : Gx) (k62 : Hp → Nat → Nat → Int32 → Int32 → Int32 → Int32 → Rz Int32) (k84 : Hp → Nat → Nat → Int32 → Int32 → Int32 → Int32 → Int32 → Int32 → Int32 → Rz Int32) (h : Hp) (nx : Nat) (s0 : Int32) (l0 : Nat) (l1 : Int32) (l3 : Int32) (l4 : Int32) (l5 : Int32) (l6 : Int32) (l8 : Int32) : Rz Int32 :=
nm (l8 + (nI 1)) (fun v1 =>
(k84 h nx l0 l1 l3 l4 l5 l6 s0 v1))
set_option maxRecDepth 100000 in
set_option maxHeartbeats 4000000 in
theorem k_X12_tour_171 {G : Gx} {d : Nat} {v' : Int32} {h' : Hp} {n' : Nat} {k62 : Hp → Nat → Nat → Int32 → Int32 → Int32 → Int32 → Rz Int32} (K62 : ∀ {h : Hp} {nx : Nat} {l0 : Nat} {l1 : Int32} {l3 : Int32} {l4 : Int32} {l5 : Int32}, k62 h nx l0 l1 l3 l4 l5 = some (v', h', n') → Ok G mX12_tour (d + 71) (Same (some (.int v')) h' n') 62 [some (.ref l0), some (.int l1), none, some (.int l3), some (.int l4), some (.int l5), none, none, none, none] [] h nx 0 0) {k84 : Hp → Nat → Nat → Int32 → Int32 → Int32 → Int32 → Int32 → Int32 → Int32 → Rz Int32} (K84 : ∀ {h : Hp} {nx : Nat} {l0 : Nat} {l1 : Int32} {l3 : Int32} {l4 : Int32} {l5 : Int32} {l6 : Int32} {l7 : Int32} {l8 : Int32}, k84 h nx l0 l1 l3 l4 l5 l6 l7 l8 = some (v', h', n') → Ok G mX12_tour (d + 71) (Same (some (.int v')) h' n') 84 [some (.ref l0), some (.int l1), none, some (.int l3), some (.int l4), some (.int l5), some (.int l6), some (.int l7), some (.int l8), none] [] h nx 0 0) {h : Hp} {nx : Nat} {s0 : Int32} {l0 : Nat} {l1 : Int32} {l3 : Int32} {l4 : Int32} {l5 : Int32} {l6 : Int32} {l8 : Int32} (e : F_X12_tour_171 G k62 k84 h nx s0 l0 l1 l3 l4 l5 l6 l8 = some (v', h', n')) : Ok G mX12_tour (d + 71) (Same (some (.int v')) h' n') 171 [some (.ref l0), some (.int l1), none, some (.int l3), some (.int l4), some (.int l5), some (.int l6), none, some (.int l8), none] [.int s0] h nx 0 0 := by
  unfold F_X12_tour_171 at e
  refine XL.istore dX12_tour_171 (by decide) (L := [some (.ref l0), some (.int l1), none, some (.int l3), some (.int l4), some (.int l5), some (.int l6), some (.int s0), some (.int l8), none]) rfl ?_
  refine X.iinc dX12_tour_173 rfl (by decide) (by decide +kernel) e (L := fun v1 => [some (.ref l0), some (.int l1), none, some (.int l3), some (.int l4), some (.int l5), some (.int l6), some (.int s0), some (.int v1), none]) (fun _ => rfl) (fun v1 e1 => ?_)
  clear e
  refine Ok.goto (tgt := 84) dX12_tour_176 (by decide) ?_
  exact Ok.weakL (K84 e1) ⟨rfl, ⟨rfl, ⟨rfl, ⟨rfl, ⟨rfl, ⟨rfl, ⟨rfl, ⟨rfl, trivial⟩⟩⟩⟩⟩⟩⟩⟩
noncomputable def F_X12_tour_169 (G : Gx) (k62 : Hp → Nat → Nat → Int32 → Int32 → Int32 → Int32 → Rz Int32) (k84 : Hp → Nat → Nat → Int32 → Int32 → Int32 → Int32 → Int32 → Int32 → Int32 → Rz Int32) (h : Hp) (nx : Nat) (l0 : Nat) (l1 : Int32) (l3 : Int32) (l4 : Int32) (l5 : Int32) (l6 : Int32) (l7 : Int32) (l8 : Int32) : Rz Int32 :=
(F_X12_tour_171 G k62 k84 h nx l7 l0 l1 l3 l4 l5 l6 l8)
set_option maxRecDepth 100000 in
set_option maxHeartbeats 4000000 in
theorem k_X12_tour_169 {G : Gx} {d : Nat} {v' : Int32} {h' : Hp} {n' : Nat} {k62 : Hp → Nat → Nat → Int32 → Int32 → Int32 → Int32 → Rz Int32} (K62 : ∀ {h : Hp} {nx : Nat} {l0 : Nat} {l1 : Int32} {l3 : Int32} {l4 : Int32} {l5 : Int32}, k62 h nx l0 l1 l3 l4 l5 = some (v', h', n') → Ok G mX12_tour (d + 71) (Same (some (.int v')) h' n') 62 [some (.ref l0), some (.int l1), none, some (.int l3), some (.int l4), some (.int l5), none, none, none, none] [] h nx 0 0) {k84 : Hp → Nat → Nat → Int32 → Int32 → Int32 → Int32 → Int32 → Int32 → Int32 → Rz Int32} (K84 : ∀ {h : Hp} {nx : Nat} {l0 : Nat} {l1 : Int32} {l3 : Int32} {l4 : Int32} {l5 : Int32} {l6 : Int32} {l7 : Int32} {l8 : Int32}, k84 h nx l0 l1 l3 l4 l5 l6 l7 l8 = some (v', h', n') → Ok G mX12_tour (d + 71) (Same (some (.int v')) h' n') 84 [some (.ref l0), some (.int l1), none, some (.int l3), some (.int l4), some (.int l5), some (.int l6), some (.int l7), some (.int l8), none] [] h nx 0 0) {h : Hp} {nx : Nat} {l0 : Nat} {l1 : Int32} {l3 : Int32} {l4 : Int32} {l5 : Int32} {l6 : Int32} {l7 : Int32} {l8 : Int32} (e : F_X12_tour_169 G k62 k84 h nx l0 l1 l3 l4 l5 l6 l7 l8 = some (v', h', n')) : Ok G mX12_tour (d + 71) (Same (some (.int v')) h' n') 169 [some (.ref l0), some (.int l1), none, some (.int l3), some (.int l4), some (.int l5), some (.int l6), some (.int l7), some (.int l8), none] [] h nx 0 0 := by
  unfold F_X12_tour_169 at e
  refine Ok.iload dX12_tour_169 rfl ?_
  exact Ok.weakL (k_X12_tour_171 (d := d) K62 K84 e) ⟨rfl, ⟨rfl, ⟨rfl, ⟨rfl, ⟨rfl, ⟨rfl, ⟨rfl, trivial⟩⟩⟩⟩⟩⟩⟩
noncomputable def F_X12_tour_131 (G : Gx) (k62 : Hp → Nat → Nat → Int32 → Int32 → Int32 → Int32 → Rz Int32) (k84 : Hp → Nat → Nat → Int32 → Int32 → Int32 → Int32 → Int32 → Int32 → Int32 → Rz Int32) (h : Hp) (nx : Nat) (s0 : Int32) (s1 : Int32) (l0 : Nat) (l1 : Int32) (l3 : Int32) (l4 : Int32) (l5 : Int32) (l7 : Int32) (l8 : Int32) (l9 : Int32) : Rz Int32 :=
nm ((s0 + s1)) (fun v1 =>
if l9 = 0 then
(F_X12_tour_169 G k62 k84 h nx l0 l1 l3 l4 l5 v1 l7 l8)
else
gfR h l0 [12] 1 (fun v2 =>
nn v2 (fun p3 =>
alI (g_c G 0) h p3 (((nI 1018) + l8)) (fun v4 =>
if v4 ≤ l7 then
(F_X12_tour_169 G k62 k84 h nx l0 l1 l3 l4 l5 v1 l7 l8)
else
gfR h l0 [12] 1 (fun v5 =>
nn v5 (fun p6 =>
alI (g_c G 0) h p6 (((nI 1018) + l8)) (fun v7 =>
(F_X12_tour_171 G k62 k84 h nx v7 l0 l1 l3 l4 l5 v1 l8))))))))
set_option maxRecDepth 100000 in
set_option maxHeartbeats 4000000 in
theorem k_X12_tour_131 {G : Gx} {d : Nat} {v' : Int32} {h' : Hp} {n' : Nat} {k62 : Hp → Nat → Nat → Int32 → Int32 → Int32 → Int32 → Rz Int32} (K62 : ∀ {h : Hp} {nx : Nat} {l0 : Nat} {l1 : Int32} {l3 : Int32} {l4 : Int32} {l5 : Int32}, k62 h nx l0 l1 l3 l4 l5 = some (v', h', n') → Ok G mX12_tour (d + 71) (Same (some (.int v')) h' n') 62 [some (.ref l0), some (.int l1), none, some (.int l3), some (.int l4), some (.int l5), none, none, none, none] [] h nx 0 0) {k84 : Hp → Nat → Nat → Int32 → Int32 → Int32 → Int32 → Int32 → Int32 → Int32 → Rz Int32} (K84 : ∀ {h : Hp} {nx : Nat} {l0 : Nat} {l1 : Int32} {l3 : Int32} {l4 : Int32} {l5 : Int32} {l6 : Int32} {l7 : Int32} {l8 : Int32}, k84 h nx l0 l1 l3 l4 l5 l6 l7 l8 = some (v', h', n') → Ok G mX12_tour (d + 71) (Same (some (.int v')) h' n') 84 [some (.ref l0), some (.int l1), none, some (.int l3), some (.int l4), some (.int l5), some (.int l6), some (.int l7), some (.int l8), none] [] h nx 0 0) {h : Hp} {nx : Nat} {s0 : Int32} {s1 : Int32} {l0 : Nat} {l1 : Int32} {l3 : Int32} {l4 : Int32} {l5 : Int32} {l7 : Int32} {l8 : Int32} {l9 : Int32} (e : F_X12_tour_131 G k62 k84 h nx s0 s1 l0 l1 l3 l4 l5 l7 l8 l9 = some (v', h', n')) : Ok G mX12_tour (d + 71) (Same (some (.int v')) h' n') 131 [some (.ref l0), some (.int l1), none, some (.int l3), some (.int l4), some (.int l5), none, some (.int l7), some (.int l8), some (.int l9)] [.int s1, .int s0] h nx 0 0 := by
  unfold F_X12_tour_131 at e
  refine Ok.iadd dX12_tour_131 ?_
  refine X.istore dX12_tour_132 (by decide) e (L := fun v1 => [some (.ref l0), some (.int l1), none, some (.int l3), some (.int l4), some (.int l5), some (.int v1), some (.int l7), some (.int l8), some (.int l9)]) (fun _ => rfl) (fun v1 e1 => ?_)
  clear e
  refine Ok.iload dX12_tour_134 rfl ?_
  refine X.if_eq (tgt := 169) dX12_tour_136 (by decide) e1 (fun e2 => ?_) (fun e2 => ?_)
  · clear e1
    exact Ok.weakL (k_X12_tour_169 (d := d) K62 K84 e2) ⟨rfl, ⟨rfl, ⟨rfl, ⟨rfl, ⟨rfl, ⟨rfl, ⟨rfl, ⟨rfl, trivial⟩⟩⟩⟩⟩⟩⟩⟩
  · clear e1
    refine Ok.aload_n dX12_tour_139 rfl ?_
    refine X.rgfR fl_RX12_9 dX12_tour_140 e2 (fun v2 e3 => ?_)
    clear e2
    refine Ok.sipushV (v := (nI 1018)) dX12_tour_143 (by decide +kernel) ?_
    refine Ok.iload dX12_tour_146 rfl ?_
    refine Ok.iadd dX12_tour_148 ?_
    refine X.rnn e3 (fun p3 q e4 => ?_)
    clear e3
    subst q
    refine X.iald dX12_tour_149 e4 (fun v4 e5 => ?_)
    clear e4
    refine Ok.iload dX12_tour_150 rfl ?_
    refine X.icmp_le (tgt := 169) dX12_tour_152 (by decide) e5 (fun e6 => ?_) (fun e6 => ?_)
    · clear e5
      exact Ok.weakL (k_X12_tour_169 (d := d) K62 K84 e6) ⟨rfl, ⟨rfl, ⟨rfl, ⟨rfl, ⟨rfl, ⟨rfl, ⟨rfl, ⟨rfl, trivial⟩⟩⟩⟩⟩⟩⟩⟩
    · clear e5
      refine Ok.aload_n dX12_tour_155 rfl ?_
      refine X.rgfR fl_RX12_9 dX12_tour_156 e6 (fun v5 e7 => ?_)
      clear e6
      refine Ok.sipushV (v := (nI 1018)) dX12_tour_159 (by decide +kernel) ?_
      refine Ok.iload dX12_tour_162 rfl ?_
      refine Ok.iadd dX12_tour_164 ?_
      refine X.rnn e7 (fun p6 q e8 => ?_)
      clear e7
      subst q
      refine X.iald dX12_tour_165 e8 (fun v7 e9 => ?_)
      clear e8
      refine Ok.goto (tgt := 171) dX12_tour_166 (by decide) ?_
      exact Ok.weakL (k_X12_tour_171 (d := d) K62 K84 e9) ⟨rfl, ⟨rfl, ⟨rfl, ⟨rfl, ⟨rfl, ⟨rfl, ⟨rfl, trivial⟩⟩⟩⟩⟩⟩⟩
noncomputable def F_X12_tour_111 (G : Gx) (k62 : Hp → Nat → Nat → Int32 → Int32 → Int32 → Int32 → Rz Int32) (k84 : Hp → Nat → Nat → Int32 → Int32 → Int32 → Int32 → Int32 → Int32 → Int32 → Rz Int32) (h : Hp) (nx : Nat) (s0 : Int32) (l0 : Nat) (l1 : Int32) (l3 : Int32) (l4 : Int32) (l5 : Int32) (l6 : Int32) (l7 : Int32) (l8 : Int32) : Rz Int32 :=
if s0 = 0 then
(F_X12_tour_131 G k62 k84 h nx l6 (nI 0) l0 l1 l3 l4 l5 l7 l8 s0)
else
gfR h l0 [12] 21 (fun v1 =>
nn v1 (fun p2 =>
alI (g_c G 0) h p2 l8 (fun v3 =>
(F_X12_tour_131 G k62 k84 h nx l6 v3 l0 l1 l3 l4 l5 l7 l8 s0))))
set_option maxRecDepth 100000 in
set_option maxHeartbeats 4000000 in
theorem k_X12_tour_111 {G : Gx} {d : Nat} {v' : Int32} {h' : Hp} {n' : Nat} {k62 : Hp → Nat → Nat → Int32 → Int32 → Int32 → Int32 → Rz Int32} (K62 : ∀ {h : Hp} {nx : Nat} {l0 : Nat} {l1 : Int32} {l3 : Int32} {l4 : Int32} {l5 : Int32}, k62 h nx l0 l1 l3 l4 l5 = some (v', h', n') → Ok G mX12_tour (d + 71) (Same (some (.int v')) h' n') 62 [some (.ref l0), some (.int l1), none, some (.int l3), some (.int l4), some (.int l5), none, none, none, none] [] h nx 0 0) {k84 : Hp → Nat → Nat → Int32 → Int32 → Int32 → Int32 → Int32 → Int32 → Int32 → Rz Int32} (K84 : ∀ {h : Hp} {nx : Nat} {l0 : Nat} {l1 : Int32} {l3 : Int32} {l4 : Int32} {l5 : Int32} {l6 : Int32} {l7 : Int32} {l8 : Int32}, k84 h nx l0 l1 l3 l4 l5 l6 l7 l8 = some (v', h', n') → Ok G mX12_tour (d + 71) (Same (some (.int v')) h' n') 84 [some (.ref l0), some (.int l1), none, some (.int l3), some (.int l4), some (.int l5), some (.int l6), some (.int l7), some (.int l8), none] [] h nx 0 0) {h : Hp} {nx : Nat} {s0 : Int32} {l0 : Nat} {l1 : Int32} {l3 : Int32} {l4 : Int32} {l5 : Int32} {l6 : Int32} {l7 : Int32} {l8 : Int32} (e : F_X12_tour_111 G k62 k84 h nx s0 l0 l1 l3 l4 l5 l6 l7 l8 = some (v', h', n')) : Ok G mX12_tour (d + 71) (Same (some (.int v')) h' n') 111 [some (.ref l0), some (.int l1), none, some (.int l3), some (.int l4), some (.int l5), some (.int l6), some (.int l7), some (.int l8), none] [.int s0] h nx 0 0 := by
  unfold F_X12_tour_111 at e
  refine XL.istore dX12_tour_111 (by decide) (L := [some (.ref l0), some (.int l1), none, some (.int l3), some (.int l4), some (.int l5), some (.int l6), some (.int l7), some (.int l8), some (.int s0)]) rfl ?_
  refine Ok.iload dX12_tour_113 rfl ?_
  refine Ok.iload dX12_tour_115 rfl ?_
  refine X.if_eq (tgt := 130) dX12_tour_117 (by decide) e (fun e1 => ?_) (fun e1 => ?_)
  · clear e
    refine Ok.iconstV (v := (nI 0)) dX12_tour_130 (by decide +kernel) ?_
    exact Ok.weakL (k_X12_tour_131 (d := d) K62 K84 e1) ⟨rfl, ⟨rfl, ⟨rfl, ⟨rfl, ⟨rfl, ⟨rfl, ⟨rfl, ⟨rfl, trivial⟩⟩⟩⟩⟩⟩⟩⟩
  · clear e
    refine Ok.aload_n dX12_tour_120 rfl ?_
    refine X.rgfR fl_RX12_45 dX12_tour_121 e1 (fun v1 e2 => ?_)
    clear e1
    refine Ok.iload dX12_tour_124 rfl ?_
    refine X.rnn e2 (fun p2 q e3 => ?_)
    clear e2
    subst q
    refine X.iald dX12_tour_126 e3 (fun v3 e4 => ?_)
    clear e3
    refine Ok.goto (tgt := 131) dX12_tour_127 (by decide) ?_
    exact Ok.weakL (k_X12_tour_131 (d := d) K62 K84 e4) ⟨rfl, ⟨rfl, ⟨rfl, ⟨rfl, ⟨rfl, ⟨rfl, ⟨rfl, ⟨rfl, trivial⟩⟩⟩⟩⟩⟩⟩⟩
noncomputable def F_X12_tour_84 (G : Gx) (k62 : Hp → Nat → Nat → Int32 → Int32 → Int32 → Int32 → Rz Int32) : Nat → Hp → Nat → Nat → Int32 → Int32 → Int32 → Int32 → Int32 → Int32 → Int32 → Rz Int32 := fun n => Nat.rec (motive := fun _ => Hp → Nat → Nat → Int32 → Int32 → Int32 → Int32 → Int32 → Int32 → Int32 → Rz Int32) (fun _ _ _ _ _ _ _ _ _ _ => none) (fun _ k84 => fun h nx l0 l1 l3 l4 l5 l6 l7 l8 =>
gfR h l0 [12] 1 (fun v1 =>
nn v1 (fun p2 =>
alI (g_c G 0) h p2 (nI 1) (fun v3 =>
if v3 ≤ l8 then
cl (F_X12_count1 G h nx l5) (fun r4 h5 n6 =>
gfR h5 l0 [12] 1 (fun v7 =>
nn v7 (fun p8 =>
alI (g_c G 0) h5 p8 (nI 4) (fun v9 =>
if v9 < r4 then
(F_X12_tour_212 G k62 h5 n6 l0 l1 l3 l4 l5 l6)
else
if l1 < (((nI 2) * l7)) then
(F_X12_tour_212 G k62 h5 n6 l0 l1 l3 l4 l5 l6)
else
if l6 ≤ l4 then
(F_X12_tour_212 G k62 h5 n6 l0 l1 l3 l4 l5 l6)
else
(F_X12_tour_213 G k62 h5 n6 (nI 1) l0 l1 l3 l4 l5 l6)))))
else
if ((((l5 >>> (l8 &&& 31))) &&& (nI 1))) = (nI 1) then
(F_X12_tour_111 G k62 k84 h nx (nI 1) l0 l1 l3 l4 l5 l6 l7 l8)
else
(F_X12_tour_111 G k62 k84 h nx (nI 0) l0 l1 l3 l4 l5 l6 l7 l8))))) n
theorem F_X12_tour_84_0 {G : Gx} (k62 : Hp → Nat → Nat → Int32 → Int32 → Int32 → Int32 → Rz Int32) {h : Hp} {nx : Nat} {l0 : Nat} {l1 : Int32} {l3 : Int32} {l4 : Int32} {l5 : Int32} {l6 : Int32} {l7 : Int32} {l8 : Int32} : F_X12_tour_84 G k62 0 h nx l0 l1 l3 l4 l5 l6 l7 l8 = none := rfl
theorem F_X12_tour_84_s {G : Gx} (k62 : Hp → Nat → Nat → Int32 → Int32 → Int32 → Int32 → Rz Int32) {n : Nat} {h : Hp} {nx : Nat} {l0 : Nat} {l1 : Int32} {l3 : Int32} {l4 : Int32} {l5 : Int32} {l6 : Int32} {l7 : Int32} {l8 : Int32} : F_X12_tour_84 G k62 (n + 1) h nx l0 l1 l3 l4 l5 l6 l7 l8 = (
gfR h l0 [12] 1 (fun v1 =>
nn v1 (fun p2 =>
alI (g_c G 0) h p2 (nI 1) (fun v3 =>
if v3 ≤ l8 then
cl (F_X12_count1 G h nx l5) (fun r4 h5 n6 =>
gfR h5 l0 [12] 1 (fun v7 =>
nn v7 (fun p8 =>
alI (g_c G 0) h5 p8 (nI 4) (fun v9 =>
if v9 < r4 then
(F_X12_tour_212 G k62 h5 n6 l0 l1 l3 l4 l5 l6)
else
if l1 < (((nI 2) * l7)) then
(F_X12_tour_212 G k62 h5 n6 l0 l1 l3 l4 l5 l6)
else
if l6 ≤ l4 then
(F_X12_tour_212 G k62 h5 n6 l0 l1 l3 l4 l5 l6)
else
(F_X12_tour_213 G k62 h5 n6 (nI 1) l0 l1 l3 l4 l5 l6)))))
else
if ((((l5 >>> (l8 &&& 31))) &&& (nI 1))) = (nI 1) then
(F_X12_tour_111 G k62 (F_X12_tour_84 G k62 n) h nx (nI 1) l0 l1 l3 l4 l5 l6 l7 l8)
else
(F_X12_tour_111 G k62 (F_X12_tour_84 G k62 n) h nx (nI 0) l0 l1 l3 l4 l5 l6 l7 l8))))) := rfl
set_option maxRecDepth 100000 in
set_option maxHeartbeats 4000000 in
theorem k_X12_tour_84 {G : Gx} {d : Nat} {v' : Int32} {h' : Hp} {n' : Nat} {k62 : Hp → Nat → Nat → Int32 → Int32 → Int32 → Int32 → Rz Int32} (K62 : ∀ {h : Hp} {nx : Nat} {l0 : Nat} {l1 : Int32} {l3 : Int32} {l4 : Int32} {l5 : Int32}, k62 h nx l0 l1 l3 l4 l5 = some (v', h', n') → Ok G mX12_tour (d + 71) (Same (some (.int v')) h' n') 62 [some (.ref l0), some (.int l1), none, some (.int l3), some (.int l4), some (.int l5), none, none, none, none] [] h nx 0 0) : ∀ (n : Nat) {h : Hp} {nx : Nat} {l0 : Nat} {l1 : Int32} {l3 : Int32} {l4 : Int32} {l5 : Int32} {l6 : Int32} {l7 : Int32} {l8 : Int32}, F_X12_tour_84 G k62 n h nx l0 l1 l3 l4 l5 l6 l7 l8 = some (v', h', n') → Ok G mX12_tour (d + 71) (Same (some (.int v')) h' n') 84 [some (.ref l0), some (.int l1), none, some (.int l3), some (.int l4), some (.int l5), some (.int l6), some (.int l7), some (.int l8), none] [] h nx 0 0 := by
  intro n
  induction n with
  | zero =>
    intro h nx l0 l1 l3 l4 l5 l6 l7 l8 e
    rw [F_X12_tour_84_0] at e
    cases e
  | succ n K84 =>
    intro h nx l0 l1 l3 l4 l5 l6 l7 l8 e
    rw [F_X12_tour_84_s] at e
    refine Ok.iload dX12_tour_84 rfl ?_
    refine Ok.aload_n dX12_tour_86 rfl ?_
    refine X.rgfR fl_RX12_9 dX12_tour_87 e (fun v1 e1 => ?_)
    clear e
    refine Ok.iconstV (v := (nI 1)) dX12_tour_90 (by decide +kernel) ?_
    refine X.rnn e1 (fun p2 q e2 => ?_)
    clear e1
    subst q
    refine X.iald dX12_tour_91 e2 (fun v3 e3 => ?_)
    clear e2
    refine X.icmp_ge (tgt := 179) dX12_tour_92 (by decide) e3 (fun e4 => ?_) (fun e4 => ?_)
    · clear e3
      refine Ok.iload dX12_tour_179 rfl ?_
      refine X.callS (My := mX12_count1) (n := 1) (As := [.int l5]) (T := (fun v => (some (.int v)))) (stk' := (fun v => [.int v])) (rest := []) (kc' := 0) (ks' := 0) dX12_tour_181 e4 (fun v h n e => k_X12_count1 (d := d + 70) e) wd1387 wd80 wd1386 wd1385 (by decide +kernel) rfl (by decide) rfl rfl (Nat.le_of_ble_eq_true rfl) (Nat.le_of_ble_eq_true rfl) (Nat.le_of_ble_eq_true rfl) rfl rfl (fun _ => rfl) (fun r4 h5 n6 e5 => ?_)
      clear e4
      refine Ok.aload_n dX12_tour_184 rfl ?_
      refine X.rgfR fl_RX12_9 dX12_tour_185 e5 (fun v7 e6 => ?_)
      clear e5
      refine Ok.iconstV (v := (nI 4)) dX12_tour_188 (by decide +kernel) ?_
      refine X.rnn e6 (fun p8 q e7 => ?_)
      clear e6
      subst q
      refine X.iald dX12_tour_189 e7 (fun v9 e8 => ?_)
      clear e7
      refine X.icmp_gt (tgt := 212) dX12_tour_190 (by decide) e8 (fun e9 => ?_) (fun e9 => ?_)
      · clear e8
        exact Ok.weakL (k_X12_tour_212 (d := d) K62 e9) ⟨rfl, ⟨rfl, ⟨rfl, ⟨rfl, ⟨rfl, ⟨rfl, trivial⟩⟩⟩⟩⟩⟩
      · clear e8
        refine Ok.iconstV (v := (nI 2)) dX12_tour_193 (by decide +kernel) ?_
        refine Ok.iload dX12_tour_194 rfl ?_
        refine Ok.imul dX12_tour_196 ?_
        refine Ok.iload_n dX12_tour_197 rfl ?_
        refine X.icmp_gt (tgt := 212) dX12_tour_198 (by decide) e9 (fun e10 => ?_) (fun e10 => ?_)
        · clear e9
          exact Ok.weakL (k_X12_tour_212 (d := d) K62 e10) ⟨rfl, ⟨rfl, ⟨rfl, ⟨rfl, ⟨rfl, ⟨rfl, trivial⟩⟩⟩⟩⟩⟩
        · clear e9
          refine Ok.iload dX12_tour_201 rfl ?_
          refine Ok.iload dX12_tour_203 rfl ?_
          refine X.icmp_le (tgt := 212) dX12_tour_205 (by decide) e10 (fun e11 => ?_) (fun e11 => ?_)
          · clear e10
            exact Ok.weakL (k_X12_tour_212 (d := d) K62 e11) ⟨rfl, ⟨rfl, ⟨rfl, ⟨rfl, ⟨rfl, ⟨rfl, trivial⟩⟩⟩⟩⟩⟩
          · clear e10
            refine Ok.iconstV (v := (nI 1)) dX12_tour_208 (by decide +kernel) ?_
            refine Ok.goto (tgt := 213) dX12_tour_209 (by decide) ?_
            exact Ok.weakL (k_X12_tour_213 (d := d) K62 e11) ⟨rfl, ⟨rfl, ⟨rfl, ⟨rfl, ⟨rfl, ⟨rfl, trivial⟩⟩⟩⟩⟩⟩
    · clear e3
      refine Ok.iload dX12_tour_95 rfl ?_
      refine Ok.iload dX12_tour_97 rfl ?_
      refine Ok.ishr dX12_tour_99 ?_
      refine Ok.iconstV (v := (nI 1)) dX12_tour_100 (by decide +kernel) ?_
      refine Ok.iand dX12_tour_101 ?_
      refine Ok.iconstV (v := (nI 1)) dX12_tour_102 (by decide +kernel) ?_
      refine X.icmp_ne (tgt := 110) dX12_tour_103 (by decide) e4 (fun e5 => ?_) (fun e5 => ?_)
      · clear e4
        refine Ok.iconstV (v := (nI 0)) dX12_tour_110 (by decide +kernel) ?_
        exact Ok.weakL (k_X12_tour_111 (d := d) K62 K84 e5) ⟨rfl, ⟨rfl, ⟨rfl, ⟨rfl, ⟨rfl, ⟨rfl, ⟨rfl, ⟨rfl, trivial⟩⟩⟩⟩⟩⟩⟩⟩
      · clear e4
        refine Ok.iconstV (v := (nI 1)) dX12_tour_106 (by decide +kernel) ?_
        refine Ok.goto (tgt := 111) dX12_tour_107 (by decide) ?_
        exact Ok.weakL (k_X12_tour_111 (d := d) K62 K84 e5) ⟨rfl, ⟨rfl, ⟨rfl, ⟨rfl, ⟨rfl, ⟨rfl, ⟨rfl, ⟨rfl, trivial⟩⟩⟩⟩⟩⟩⟩⟩
noncomputable def F_X12_tour_62 (G : Gx) : Nat → Hp → Nat → Nat → Int32 → Int32 → Int32 → Int32 → Rz Int32 := fun n => Nat.rec (motive := fun _ => Hp → Nat → Nat → Int32 → Int32 → Int32 → Int32 → Rz Int32) (fun _ _ _ _ _ _ _ => none) (fun _ k62 => fun h nx l0 l1 l3 l4 l5 =>
gfR h l0 [12] 1 (fun v1 =>
nn v1 (fun p2 =>
alI (g_c G 0) h p2 (nI 1) (fun v3 =>
if (((nI 1) <<< (v3 &&& 31))) ≤ l5 then
some (l3, h, nx)
else
(F_X12_tour_84 G k62 fuelL h nx l0 l1 l3 l4 l5 (nI 0) (nI 0) (nI 0)))))) n
theorem F_X12_tour_62_0 {G : Gx} {h : Hp} {nx : Nat} {l0 : Nat} {l1 : Int32} {l3 : Int32} {l4 : Int32} {l5 : Int32} : F_X12_tour_62 G 0 h nx l0 l1 l3 l4 l5 = none := rfl
theorem F_X12_tour_62_s {G : Gx} {n : Nat} {h : Hp} {nx : Nat} {l0 : Nat} {l1 : Int32} {l3 : Int32} {l4 : Int32} {l5 : Int32} : F_X12_tour_62 G (n + 1) h nx l0 l1 l3 l4 l5 = (
gfR h l0 [12] 1 (fun v1 =>
nn v1 (fun p2 =>
alI (g_c G 0) h p2 (nI 1) (fun v3 =>
if (((nI 1) <<< (v3 &&& 31))) ≤ l5 then
some (l3, h, nx)
else
(F_X12_tour_84 G (F_X12_tour_62 G n) fuelL h nx l0 l1 l3 l4 l5 (nI 0) (nI 0) (nI 0)))))) := rfl
set_option maxRecDepth 100000 in
set_option maxHeartbeats 4000000 in
theorem k_X12_tour_62 {G : Gx} {d : Nat} {v' : Int32} {h' : Hp} {n' : Nat} : ∀ (n : Nat) {h : Hp} {nx : Nat} {l0 : Nat} {l1 : Int32} {l3 : Int32} {l4 : Int32} {l5 : Int32}, F_X12_tour_62 G n h nx l0 l1 l3 l4 l5 = some (v', h', n') → Ok G mX12_tour (d + 71) (Same (some (.int v')) h' n') 62 [some (.ref l0), some (.int l1), none, some (.int l3), some (.int l4), some (.int l5), none, none, none, none] [] h nx 0 0 := by
  intro n
  induction n with
  | zero =>
    intro h nx l0 l1 l3 l4 l5 e
    rw [F_X12_tour_62_0] at e
    cases e
  | succ n K62 =>
    intro h nx l0 l1 l3 l4 l5 e
    rw [F_X12_tour_62_s] at e
    refine Ok.iload dX12_tour_62 rfl ?_
    refine Ok.iconstV (v := (nI 1)) dX12_tour_64 (by decide +kernel) ?_
    refine Ok.aload_n dX12_tour_65 rfl ?_
    refine X.rgfR fl_RX12_9 dX12_tour_66 e (fun v1 e1 => ?_)
    clear e
    refine Ok.iconstV (v := (nI 1)) dX12_tour_69 (by decide +kernel) ?_
    refine X.rnn e1 (fun p2 q e2 => ?_)
    clear e1
    subst q
    refine X.iald dX12_tour_70 e2 (fun v3 e3 => ?_)
    clear e2
    refine Ok.ishl dX12_tour_71 ?_
    refine X.icmp_ge (tgt := 247) dX12_tour_72 (by decide) e3 (fun e4 => ?_) (fun e4 => ?_)
    · clear e3
      refine Ok.iload_n dX12_tour_247 rfl ?_
      exact X.iret dX12_tour_248 rfl (Nat.le_of_ble_eq_true rfl) (Nat.le_of_ble_eq_true rfl) e4
    · clear e3
      refine Ok.iconstV (v := (nI 0)) dX12_tour_75 (by decide +kernel) ?_
      refine XL.istore dX12_tour_76 (by decide) (L := [some (.ref l0), some (.int l1), none, some (.int l3), some (.int l4), some (.int l5), some (.int (nI 0)), none, none, none]) rfl ?_
      refine Ok.iconstV (v := (nI 0)) dX12_tour_78 (by decide +kernel) ?_
      refine XL.istore dX12_tour_79 (by decide) (L := [some (.ref l0), some (.int l1), none, some (.int l3), some (.int l4), some (.int l5), some (.int (nI 0)), some (.int (nI 0)), none, none]) rfl ?_
      refine Ok.iconstV (v := (nI 0)) dX12_tour_81 (by decide +kernel) ?_
      refine XL.istore dX12_tour_82 (by decide) (L := [some (.ref l0), some (.int l1), none, some (.int l3), some (.int l4), some (.int l5), some (.int (nI 0)), some (.int (nI 0)), some (.int (nI 0)), none]) rfl ?_
      exact Ok.weakL (k_X12_tour_84 (d := d) K62 fuelL e4) ⟨rfl, ⟨rfl, ⟨rfl, ⟨rfl, ⟨rfl, ⟨rfl, ⟨rfl, ⟨rfl, trivial⟩⟩⟩⟩⟩⟩⟩⟩
noncomputable def F_X12_tour_26 (G : Gx) : Nat → Hp → Nat → Nat → Int32 → Int32 → Int32 → Rz Int32 := fun n => Nat.rec (motive := fun _ => Hp → Nat → Nat → Int32 → Int32 → Int32 → Rz Int32) (fun _ _ _ _ _ _ => none) (fun _ k26 => fun h nx l0 l1 l2 l3 =>
gfR h l0 [12] 1 (fun v1 =>
nn v1 (fun p2 =>
alI (g_c G 0) h p2 (nI 1) (fun v3 =>
if v3 ≤ l3 then
(F_X12_tour_62 G fuelL h nx l0 l1 (nI 0) (nI 0) (nI 1))
else
gfR h l0 [12] 21 (fun v4 =>
ck h l0 [12] (fun _ =>
cl (F_X12_weight G h nx l0 l3 l2) (fun r5 h6 n7 =>
nn v4 (fun p8 =>
asI (g_c G 0) id h6 p8 l3 r5 (fun h9 =>
nm (l3 + (nI 1)) (fun v10 =>
(k26 h9 n7 l0 l1 l2 v10))))))))))) n
theorem F_X12_tour_26_0 {G : Gx} {h : Hp} {nx : Nat} {l0 : Nat} {l1 : Int32} {l2 : Int32} {l3 : Int32} : F_X12_tour_26 G 0 h nx l0 l1 l2 l3 = none := rfl
theorem F_X12_tour_26_s {G : Gx} {n : Nat} {h : Hp} {nx : Nat} {l0 : Nat} {l1 : Int32} {l2 : Int32} {l3 : Int32} : F_X12_tour_26 G (n + 1) h nx l0 l1 l2 l3 = (
gfR h l0 [12] 1 (fun v1 =>
nn v1 (fun p2 =>
alI (g_c G 0) h p2 (nI 1) (fun v3 =>
if v3 ≤ l3 then
(F_X12_tour_62 G fuelL h nx l0 l1 (nI 0) (nI 0) (nI 1))
else
gfR h l0 [12] 21 (fun v4 =>
ck h l0 [12] (fun _ =>
cl (F_X12_weight G h nx l0 l3 l2) (fun r5 h6 n7 =>
nn v4 (fun p8 =>
asI (g_c G 0) id h6 p8 l3 r5 (fun h9 =>
nm (l3 + (nI 1)) (fun v10 =>
((F_X12_tour_26 G n) h9 n7 l0 l1 l2 v10))))))))))) := rfl
set_option maxRecDepth 100000 in
set_option maxHeartbeats 4000000 in
theorem k_X12_tour_26 {G : Gx} {d : Nat} {v' : Int32} {h' : Hp} {n' : Nat} : ∀ (n : Nat) {h : Hp} {nx : Nat} {l0 : Nat} {l1 : Int32} {l2 : Int32} {l3 : Int32}, F_X12_tour_26 G n h nx l0 l1 l2 l3 = some (v', h', n') → Ok G mX12_tour (d + 71) (Same (some (.int v')) h' n') 26 [some (.ref l0), some (.int l1), some (.int l2), some (.int l3), none, none, none, none, none, none] [] h nx 0 0 := by
  intro n
  induction n with
  | zero =>
    intro h nx l0 l1 l2 l3 e
    rw [F_X12_tour_26_0] at e
    cases e
  | succ n K26 =>
    intro h nx l0 l1 l2 l3 e
    rw [F_X12_tour_26_s] at e
    refine Ok.iload_n dX12_tour_26 rfl ?_
    refine Ok.aload_n dX12_tour_27 rfl ?_
    refine X.rgfR fl_RX12_9 dX12_tour_28 e (fun v1 e1 => ?_)
    clear e
    refine Ok.iconstV (v := (nI 1)) dX12_tour_31 (by decide +kernel) ?_
    refine X.rnn e1 (fun p2 q e2 => ?_)
    clear e1
    subst q
    refine X.iald dX12_tour_32 e2 (fun v3 e3 => ?_)
    clear e2
    refine X.icmp_ge (tgt := 54) dX12_tour_33 (by decide) e3 (fun e4 => ?_) (fun e4 => ?_)
    · clear e3
      refine Ok.iconstV (v := (nI 0)) dX12_tour_54 (by decide +kernel) ?_
      refine XL.istore_n dX12_tour_55 (by decide) (L := [some (.ref l0), some (.int l1), some (.int l2), some (.int (nI 0)), none, none, none, none, none, none]) rfl ?_
      refine Ok.iconstV (v := (nI 0)) dX12_tour_56 (by decide +kernel) ?_
      refine XL.istore dX12_tour_57 (by decide) (L := [some (.ref l0), some (.int l1), some (.int l2), some (.int (nI 0)), some (.int (nI 0)), none, none, none, none, none]) rfl ?_
      refine Ok.iconstV (v := (nI 1)) dX12_tour_59 (by decide +kernel) ?_
      refine XL.istore dX12_tour_60 (by decide) (L := [some (.ref l0), some (.int l1), some (.int l2), some (.int (nI 0)), some (.int (nI 0)), some (.int (nI 1)), none, none, none, none]) rfl ?_
      exact Ok.weakL (k_X12_tour_62 (d := d) fuelL e4) ⟨rfl, ⟨rfl, ⟨rfl, ⟨rfl, ⟨rfl, trivial⟩⟩⟩⟩⟩
    · clear e3
      refine Ok.aload_n dX12_tour_36 rfl ?_
      refine X.rgfR fl_RX12_45 dX12_tour_37 e4 (fun v4 e5 => ?_)
      clear e4
      refine Ok.iload_n dX12_tour_40 rfl ?_
      refine Ok.aload_n dX12_tour_41 rfl ?_
      refine Ok.iload_n dX12_tour_42 rfl ?_
      refine Ok.iload_n dX12_tour_43 rfl ?_
      refine X.rck e5 (fun c fs hb hc e6 => ?_)
      clear e5
      obtain rfl := List.mem_singleton.mp hc
      refine X.callV (My := mX12_weight) (n := 2) (As := [.int l3, .int l2]) (T := (fun v => (some (.int v)))) (stk' := (fun v => [.int v, .int l3, va_rf v4])) (rest := [.int l3, va_rf v4]) (kc' := 0) (ks' := 0) dX12_tour_44 e6 (fun v h n e => k_X12_weight (d := d + 0) e) hb rfl wd1470 wd80 wd1469 wd66 wd1467 (by decide +kernel) rfl (by decide) rfl rfl (cs_le (cs_c (a := 1) rfl (cs_c (a := 1) (va_rf_cat _) cs_n)) (by decide)) (Nat.le_of_ble_eq_true rfl) (Nat.le_of_ble_eq_true rfl) rfl rfl (fun _ => rfl) (fun r5 h6 n7 e7 => ?_)
      clear e6
      refine X.rnn e7 (fun p8 q e8 => ?_)
      clear e7
      subst q
      refine X.iast dX12_tour_47 e8 (fun h9 e9 => ?_)
      clear e8
      refine X.iinc dX12_tour_48 rfl (by decide) (by decide +kernel) e9 (L := fun v10 => [some (.ref l0), some (.int l1), some (.int l2), some (.int v10), none, none, none, none, none, none]) (fun _ => rfl) (fun v10 e10 => ?_)
      clear e9
      refine Ok.goto (tgt := 26) dX12_tour_51 (by decide) ?_
      exact Ok.weakL (K26 e10) ⟨rfl, ⟨rfl, ⟨rfl, ⟨rfl, trivial⟩⟩⟩⟩
noncomputable def F_X12_tour (G : Gx) (h : Hp) (nx : Nat) (a0 : Nat) (a1 : Int32) (a2 : Int32) : Rz Int32 :=
cl (F_X12_in G h nx a1 (nI 0) (nI 200)) (fun r1 h2 n3 =>
if r1 = 0 then
(F_X12_tour_21 G h2 n3)
else
cl (F_X12_in G h2 n3 a2 (nI 1) (nI 8)) (fun r4 h5 n6 =>
if r4 = 0 then
(F_X12_tour_21 G h5 n6)
else
(F_X12_tour_26 G fuelL h5 n6 a0 a1 a2 (nI 0))))
set_option maxRecDepth 100000 in
set_option maxHeartbeats 4000000 in
theorem k_X12_tour {G : Gx} {d : Nat} {h : Hp} {nx : Nat} {a0 : Nat} {a1 : Int32} {a2 : Int32} {v' : Int32} {h' : Hp} {n' : Nat} (e : F_X12_tour G h nx a0 a1 a2 = some (v', h', n')) : Ct G mX12_tour (d + 71) (Same (some (.int v')) h' n') [.ref a0, .int a1, .int a2] h nx := by
  unfold F_X12_tour at e
  refine Ct.of (ls := [some (.ref a0), some (.int a1), some (.int a2), none, none, none, none, none, none, none]) (by decide +kernel) rfl (Nat.le_of_ble_eq_true rfl) rfl ?_
  refine Ok.iload_n dX12_tour_0 rfl ?_
  refine Ok.iconstV (v := (nI 0)) dX12_tour_1 (by decide +kernel) ?_
  refine Ok.sipushV (v := (nI 200)) dX12_tour_2 (by decide +kernel) ?_
  refine X.callS (My := mX12_in) (n := 3) (As := [.int a1, .int (nI 0), .int (nI 200)]) (T := (fun v => (some (.int v)))) (stk' := (fun v => [.int v])) (rest := []) (kc' := 0) (ks' := 0) dX12_tour_5 e (fun v h n e => k_X12_in (d := d + 70) e) wd1196 wd80 wd1195 wd1194 (by decide +kernel) rfl (by decide) rfl rfl (Nat.le_of_ble_eq_true rfl) (Nat.le_of_ble_eq_true rfl) (Nat.le_of_ble_eq_true rfl) rfl rfl (fun _ => rfl) (fun r1 h2 n3 e1 => ?_)
  clear e
  refine X.if_eq (tgt := 21) dX12_tour_8 (by decide) e1 (fun e2 => ?_) (fun e2 => ?_)
  · clear e1
    exact Ok.weakL (k_X12_tour_21 (d := d) e2) trivial
  · clear e1
    refine Ok.iload_n dX12_tour_11 rfl ?_
    refine Ok.iconstV (v := (nI 1)) dX12_tour_12 (by decide +kernel) ?_
    refine Ok.bipushV (v := (nI 8)) dX12_tour_13 (by decide +kernel) ?_
    refine X.callS (My := mX12_in) (n := 3) (As := [.int a2, .int (nI 1), .int (nI 8)]) (T := (fun v => (some (.int v)))) (stk' := (fun v => [.int v])) (rest := []) (kc' := 0) (ks' := 0) dX12_tour_15 e2 (fun v h n e => k_X12_in (d := d + 70) e) wd1196 wd80 wd1195 wd1194 (by decide +kernel) rfl (by decide) rfl rfl (Nat.le_of_ble_eq_true rfl) (Nat.le_of_ble_eq_true rfl) (Nat.le_of_ble_eq_true rfl) rfl rfl (fun _ => rfl) (fun r4 h5 n6 e3 => ?_)
    clear e2
    refine X.if_ne (tgt := 24) dX12_tour_18 (by decide) e3 (fun e4 => ?_) (fun e4 => ?_)
    · clear e3
      refine Ok.iconstV (v := (nI 0)) dX12_tour_24 (by decide +kernel) ?_
      refine XL.istore_n dX12_tour_25 (by decide) (L := [some (.ref a0), some (.int a1), some (.int a2), some (.int (nI 0)), none, none, none, none, none, none]) rfl ?_
      exact Ok.weakL (k_X12_tour_26 (d := d) fuelL e4) ⟨rfl, ⟨rfl, ⟨rfl, ⟨rfl, trivial⟩⟩⟩⟩
    · clear e3
      exact Ok.weakL (k_X12_tour_21 (d := d) e4) trivial
noncomputable def F_X12_firstOf_65 (G : Gx) (k5 : Hp → Nat → Nat → Int32 → Int32 → Int32 → Int32 → Rz Int32) (h : Hp) (nx : Nat) (s0 : Int32) (l0 : Nat) (l1 : Int32) (l2 : Int32) (l4 : Int32) : Rz Int32 :=
nm (l4 + (nI 1)) (fun v1 =>
(k5 h nx l0 l1 l2 s0 v1))
set_option maxRecDepth 100000 in
set_option maxHeartbeats 4000000 in
theorem k_X12_firstOf_65 {G : Gx} {d : Nat} {v' : Int32} {h' : Hp} {n' : Nat} {k5 : Hp → Nat → Nat → Int32 → Int32 → Int32 → Int32 → Rz Int32} (K5 : ∀ {h : Hp} {nx : Nat} {l0 : Nat} {l1 : Int32} {l2 : Int32} {l3 : Int32} {l4 : Int32}, k5 h nx l0 l1 l2 l3 l4 = some (v', h', n') → Ok G mX12_firstOf (d + 0) (Same (some (.int v')) h' n') 5 [some (.ref l0), some (.int l1), some (.int l2), some (.int l3), some (.int l4), none, none] [] h nx 0 0) {h : Hp} {nx : Nat} {s0 : Int32} {l0 : Nat} {l1 : Int32} {l2 : Int32} {l4 : Int32} (e : F_X12_firstOf_65 G k5 h nx s0 l0 l1 l2 l4 = some (v', h', n')) : Ok G mX12_firstOf (d + 0) (Same (some (.int v')) h' n') 65 [some (.ref l0), some (.int l1), some (.int l2), none, some (.int l4), none, none] [.int s0] h nx 0 0 := by
  unfold F_X12_firstOf_65 at e
  refine XL.istore_n dX12_firstOf_65 (by decide) (L := [some (.ref l0), some (.int l1), some (.int l2), some (.int s0), some (.int l4), none, none]) rfl ?_
  refine X.iinc dX12_firstOf_66 rfl (by decide) (by decide +kernel) e (L := fun v1 => [some (.ref l0), some (.int l1), some (.int l2), some (.int s0), some (.int v1), none, none]) (fun _ => rfl) (fun v1 e1 => ?_)
  clear e
  refine Ok.goto (tgt := 5) dX12_firstOf_69 (by decide) ?_
  exact Ok.weakL (K5 e1) ⟨rfl, ⟨rfl, ⟨rfl, ⟨rfl, ⟨rfl, trivial⟩⟩⟩⟩⟩
noncomputable def F_X12_firstOf_50 (G : Gx) (k5 : Hp → Nat → Nat → Int32 → Int32 → Int32 → Int32 → Rz Int32) (h : Hp) (nx : Nat) (s0 : Int32) (l0 : Nat) (l1 : Int32) (l2 : Int32) (l3 : Int32) (l4 : Int32) (l5 : Int32) : Rz Int32 :=
if l5 ≤ s0 then
(F_X12_firstOf_65 G k5 h nx l3 l0 l1 l2 l4)
else
(F_X12_firstOf_65 G k5 h nx l4 l0 l1 l2 l4)
set_option maxRecDepth 100000 in
set_option maxHeartbeats 4000000 in
theorem k_X12_firstOf_50 {G : Gx} {d : Nat} {v' : Int32} {h' : Hp} {n' : Nat} {k5 : Hp → Nat → Nat → Int32 → Int32 → Int32 → Int32 → Rz Int32} (K5 : ∀ {h : Hp} {nx : Nat} {l0 : Nat} {l1 : Int32} {l2 : Int32} {l3 : Int32} {l4 : Int32}, k5 h nx l0 l1 l2 l3 l4 = some (v', h', n') → Ok G mX12_firstOf (d + 0) (Same (some (.int v')) h' n') 5 [some (.ref l0), some (.int l1), some (.int l2), some (.int l3), some (.int l4), none, none] [] h nx 0 0) {h : Hp} {nx : Nat} {s0 : Int32} {l0 : Nat} {l1 : Int32} {l2 : Int32} {l3 : Int32} {l4 : Int32} {l5 : Int32} (e : F_X12_firstOf_50 G k5 h nx s0 l0 l1 l2 l3 l4 l5 = some (v', h', n')) : Ok G mX12_firstOf (d + 0) (Same (some (.int v')) h' n') 50 [some (.ref l0), some (.int l1), some (.int l2), some (.int l3), some (.int l4), some (.int l5), none] [.int s0] h nx 0 0 := by
  unfold F_X12_firstOf_50 at e
  refine XL.istore dX12_firstOf_50 (by decide) (L := [some (.ref l0), some (.int l1), some (.int l2), some (.int l3), some (.int l4), some (.int l5), some (.int s0)]) rfl ?_
  refine Ok.iload dX12_firstOf_52 rfl ?_
  refine Ok.iload dX12_firstOf_54 rfl ?_
  refine X.icmp_le (tgt := 64) dX12_firstOf_56 (by decide) e (fun e1 => ?_) (fun e1 => ?_)
  · clear e
    refine Ok.iload_n dX12_firstOf_64 rfl ?_
    exact Ok.weakL (k_X12_firstOf_65 (d := d) K5 e1) ⟨rfl, ⟨rfl, ⟨rfl, ⟨rfl, trivial⟩⟩⟩⟩
  · clear e
    refine Ok.iload dX12_firstOf_59 rfl ?_
    refine Ok.goto (tgt := 65) dX12_firstOf_61 (by decide) ?_
    exact Ok.weakL (k_X12_firstOf_65 (d := d) K5 e1) ⟨rfl, ⟨rfl, ⟨rfl, ⟨rfl, trivial⟩⟩⟩⟩
noncomputable def F_X12_firstOf_33 (G : Gx) (k5 : Hp → Nat → Nat → Int32 → Int32 → Int32 → Int32 → Rz Int32) (h : Hp) (nx : Nat) (s0 : Int32) (l0 : Nat) (l1 : Int32) (l2 : Int32) (l3 : Int32) (l4 : Int32) : Rz Int32 :=
if l3 = l1 then
(F_X12_firstOf_50 G k5 h nx l2 l0 l1 l2 l3 l4 s0)
else
gfR h l0 [12] 21 (fun v1 =>
nn v1 (fun p2 =>
alI (g_c G 0) h p2 l3 (fun v3 =>
(F_X12_firstOf_50 G k5 h nx v3 l0 l1 l2 l3 l4 s0))))
set_option maxRecDepth 100000 in
set_option maxHeartbeats 4000000 in
theorem k_X12_firstOf_33 {G : Gx} {d : Nat} {v' : Int32} {h' : Hp} {n' : Nat} {k5 : Hp → Nat → Nat → Int32 → Int32 → Int32 → Int32 → Rz Int32} (K5 : ∀ {h : Hp} {nx : Nat} {l0 : Nat} {l1 : Int32} {l2 : Int32} {l3 : Int32} {l4 : Int32}, k5 h nx l0 l1 l2 l3 l4 = some (v', h', n') → Ok G mX12_firstOf (d + 0) (Same (some (.int v')) h' n') 5 [some (.ref l0), some (.int l1), some (.int l2), some (.int l3), some (.int l4), none, none] [] h nx 0 0) {h : Hp} {nx : Nat} {s0 : Int32} {l0 : Nat} {l1 : Int32} {l2 : Int32} {l3 : Int32} {l4 : Int32} (e : F_X12_firstOf_33 G k5 h nx s0 l0 l1 l2 l3 l4 = some (v', h', n')) : Ok G mX12_firstOf (d + 0) (Same (some (.int v')) h' n') 33 [some (.ref l0), some (.int l1), some (.int l2), some (.int l3), some (.int l4), none, none] [.int s0] h nx 0 0 := by
  unfold F_X12_firstOf_33 at e
  refine XL.istore dX12_firstOf_33 (by decide) (L := [some (.ref l0), some (.int l1), some (.int l2), some (.int l3), some (.int l4), some (.int s0), none]) rfl ?_
  refine Ok.iload_n dX12_firstOf_35 rfl ?_
  refine Ok.iload_n dX12_firstOf_36 rfl ?_
  refine X.icmp_ne (tgt := 44) dX12_firstOf_37 (by decide) e (fun e1 => ?_) (fun e1 => ?_)
  · clear e
    refine Ok.aload_n dX12_firstOf_44 rfl ?_
    refine X.rgfR fl_RX12_45 dX12_firstOf_45 e1 (fun v1 e2 => ?_)
    clear e1
    refine Ok.iload_n dX12_firstOf_48 rfl ?_
    refine X.rnn e2 (fun p2 q e3 => ?_)
    clear e2
    subst q
    refine X.iald dX12_firstOf_49 e3 (fun v3 e4 => ?_)
    clear e3
    exact Ok.weakL (k_X12_firstOf_50 (d := d) K5 e4) ⟨rfl, ⟨rfl, ⟨rfl, ⟨rfl, ⟨rfl, ⟨rfl, trivial⟩⟩⟩⟩⟩⟩
  · clear e
    refine Ok.iload_n dX12_firstOf_40 rfl ?_
    refine Ok.goto (tgt := 50) dX12_firstOf_41 (by decide) ?_
    exact Ok.weakL (k_X12_firstOf_50 (d := d) K5 e1) ⟨rfl, ⟨rfl, ⟨rfl, ⟨rfl, ⟨rfl, ⟨rfl, trivial⟩⟩⟩⟩⟩⟩
noncomputable def F_X12_firstOf_5 (G : Gx) : Nat → Hp → Nat → Nat → Int32 → Int32 → Int32 → Int32 → Rz Int32 := fun n => Nat.rec (motive := fun _ => Hp → Nat → Nat → Int32 → Int32 → Int32 → Int32 → Rz Int32) (fun _ _ _ _ _ _ _ => none) (fun _ k5 => fun h nx l0 l1 l2 l3 l4 =>
gfR h l0 [12] 1 (fun v1 =>
nn v1 (fun p2 =>
alI (g_c G 0) h p2 (nI 1) (fun v3 =>
if v3 ≤ l4 then
some (l3, h, nx)
else
if l4 = l1 then
(F_X12_firstOf_33 G k5 h nx l2 l0 l1 l2 l3 l4)
else
gfR h l0 [12] 21 (fun v4 =>
nn v4 (fun p5 =>
alI (g_c G 0) h p5 l4 (fun v6 =>
(F_X12_firstOf_33 G k5 h nx v6 l0 l1 l2 l3 l4)))))))) n
theorem F_X12_firstOf_5_0 {G : Gx} {h : Hp} {nx : Nat} {l0 : Nat} {l1 : Int32} {l2 : Int32} {l3 : Int32} {l4 : Int32} : F_X12_firstOf_5 G 0 h nx l0 l1 l2 l3 l4 = none := rfl
theorem F_X12_firstOf_5_s {G : Gx} {n : Nat} {h : Hp} {nx : Nat} {l0 : Nat} {l1 : Int32} {l2 : Int32} {l3 : Int32} {l4 : Int32} : F_X12_firstOf_5 G (n + 1) h nx l0 l1 l2 l3 l4 = (
gfR h l0 [12] 1 (fun v1 =>
nn v1 (fun p2 =>
alI (g_c G 0) h p2 (nI 1) (fun v3 =>
if v3 ≤ l4 then
some (l3, h, nx)
else
if l4 = l1 then
(F_X12_firstOf_33 G (F_X12_firstOf_5 G n) h nx l2 l0 l1 l2 l3 l4)
else
gfR h l0 [12] 21 (fun v4 =>
nn v4 (fun p5 =>
alI (g_c G 0) h p5 l4 (fun v6 =>
(F_X12_firstOf_33 G (F_X12_firstOf_5 G n) h nx v6 l0 l1 l2 l3 l4)))))))) := rfl
set_option maxRecDepth 100000 in
set_option maxHeartbeats 4000000 in
theorem k_X12_firstOf_5 {G : Gx} {d : Nat} {v' : Int32} {h' : Hp} {n' : Nat} : ∀ (n : Nat) {h : Hp} {nx : Nat} {l0 : Nat} {l1 : Int32} {l2 : Int32} {l3 : Int32} {l4 : Int32}, F_X12_firstOf_5 G n h nx l0 l1 l2 l3 l4 = some (v', h', n') → Ok G mX12_firstOf (d + 0) (Same (some (.int v')) h' n') 5 [some (.ref l0), some (.int l1), some (.int l2), some (.int l3), some (.int l4), none, none] [] h nx 0 0 := by
  intro n
  induction n with
  | zero =>
    intro h nx l0 l1 l2 l3 l4 e
    rw [F_X12_firstOf_5_0] at e
    cases e
  | succ n K5 =>
    intro h nx l0 l1 l2 l3 l4 e
    rw [F_X12_firstOf_5_s] at e
    refine Ok.iload dX12_firstOf_5 rfl ?_
    refine Ok.aload_n dX12_firstOf_7 rfl ?_
    refine X.rgfR fl_RX12_9 dX12_firstOf_8 e (fun v1 e1 => ?_)
    clear e
    refine Ok.iconstV (v := (nI 1)) dX12_firstOf_11 (by decide +kernel) ?_
    refine X.rnn e1 (fun p2 q e2 => ?_)
    clear e1
    subst q
    refine X.iald dX12_firstOf_12 e2 (fun v3 e3 => ?_)
    clear e2
    refine X.icmp_ge (tgt := 72) dX12_firstOf_13 (by decide) e3 (fun e4 => ?_) (fun e4 => ?_)
    · clear e3
      refine Ok.iload_n dX12_firstOf_72 rfl ?_
      exact X.iret dX12_firstOf_73 rfl (Nat.le_of_ble_eq_true rfl) (Nat.le_of_ble_eq_true rfl) e4
    · clear e3
      refine Ok.iload dX12_firstOf_16 rfl ?_
      refine Ok.iload_n dX12_firstOf_18 rfl ?_
      refine X.icmp_ne (tgt := 26) dX12_firstOf_19 (by decide) e4 (fun e5 => ?_) (fun e5 => ?_)
      · clear e4
        refine Ok.aload_n dX12_firstOf_26 rfl ?_
        refine X.rgfR fl_RX12_45 dX12_firstOf_27 e5 (fun v4 e6 => ?_)
        clear e5
        refine Ok.iload dX12_firstOf_30 rfl ?_
        refine X.rnn e6 (fun p5 q e7 => ?_)
        clear e6
        subst q
        refine X.iald dX12_firstOf_32 e7 (fun v6 e8 => ?_)
        clear e7
        exact Ok.weakL (k_X12_firstOf_33 (d := d) K5 e8) ⟨rfl, ⟨rfl, ⟨rfl, ⟨rfl, ⟨rfl, trivial⟩⟩⟩⟩⟩
      · clear e4
        refine Ok.iload_n dX12_firstOf_22 rfl ?_
        refine Ok.goto (tgt := 33) dX12_firstOf_23 (by decide) ?_
        exact Ok.weakL (k_X12_firstOf_33 (d := d) K5 e5) ⟨rfl, ⟨rfl, ⟨rfl, ⟨rfl, ⟨rfl, trivial⟩⟩⟩⟩⟩
noncomputable def F_X12_firstOf (G : Gx) (h : Hp) (nx : Nat) (a0 : Nat) (a1 : Int32) (a2 : Int32) : Rz Int32 :=
(F_X12_firstOf_5 G fuelL h nx a0 a1 a2 (nI 0) (nI 0))
set_option maxRecDepth 100000 in
set_option maxHeartbeats 4000000 in
theorem k_X12_firstOf {G : Gx} {d : Nat} {h : Hp} {nx : Nat} {a0 : Nat} {a1 : Int32} {a2 : Int32} {v' : Int32} {h' : Hp} {n' : Nat} (e : F_X12_firstOf G h nx a0 a1 a2 = some (v', h', n')) : Ct G mX12_firstOf (d + 0) (Same (some (.int v')) h' n') [.ref a0, .int a1, .int a2] h nx := by
  unfold F_X12_firstOf at e
  refine Ct.of (ls := [some (.ref a0), some (.int a1), some (.int a2), none, none, none, none]) (by decide +kernel) rfl (Nat.le_of_ble_eq_true rfl) rfl ?_
  refine Ok.iconstV (v := (nI 0)) dX12_firstOf_0 (by decide +kernel) ?_
  refine XL.istore_n dX12_firstOf_1 (by decide) (L := [some (.ref a0), some (.int a1), some (.int a2), some (.int (nI 0)), none, none, none]) rfl ?_
  refine Ok.iconstV (v := (nI 0)) dX12_firstOf_2 (by decide +kernel) ?_
  refine XL.istore dX12_firstOf_3 (by decide) (L := [some (.ref a0), some (.int a1), some (.int a2), some (.int (nI 0)), some (.int (nI 0)), none, none]) rfl ?_
  exact Ok.weakL (k_X12_firstOf_5 (d := d) fuelL e) ⟨rfl, ⟨rfl, ⟨rfl, ⟨rfl, ⟨rfl, trivial⟩⟩⟩⟩⟩
noncomputable def F_X12_edge_161 (G : Gx) (h : Hp) (nx : Nat) (l0 : Nat) (l4 : Int32) : Rz Int32 :=
pfV h l0 [12] 10 (.int (-1 : Int32)) (fun h1 =>
some (l4, h1, nx))
set_option maxRecDepth 100000 in
set_option maxHeartbeats 4000000 in
theorem k_X12_edge_161 {G : Gx} {d : Nat} {v' : Int32} {h' : Hp} {n' : Nat} {h : Hp} {nx : Nat} {l0 : Nat} {l4 : Int32} (e : F_X12_edge_161 G h nx l0 l4 = some (v', h', n')) : Ok G mX12_edge (d + 71) (Same (some (.int v')) h' n') 161 [some (.ref l0), none, none, none, some (.int l4), none, none] [] h nx 0 0 := by
  unfold F_X12_edge_161 at e
  refine Ok.aload_n dX12_edge_161 rfl ?_
  refine Ok.iconstV (v := (-1 : Int32)) dX12_edge_162 (by decide +kernel) ?_
  refine X.rpfV (v := (.int (-1 : Int32))) fp_RX12_22 rfl rfl dX12_edge_163 e (fun h1 e1 => ?_)
  clear e
  refine Ok.iload dX12_edge_166 rfl ?_
  exact X.iret dX12_edge_168 rfl (Nat.le_of_ble_eq_true rfl) (Nat.le_of_ble_eq_true rfl) e1
noncomputable def F_X12_edge_155 (G : Gx) (k88 : Hp → Nat → Nat → Int32 → Int32 → Int32 → Int32 → Int32 → Rz Int32) (h : Hp) (nx : Nat) (l0 : Nat) (l1 : Int32) (l2 : Int32) (l3 : Int32) (l4 : Int32) (l5 : Int32) : Rz Int32 :=
nm (l5 + (nI 1)) (fun v1 =>
(k88 h nx l0 l1 l2 l3 l4 v1))
set_option maxRecDepth 100000 in
set_option maxHeartbeats 4000000 in
theorem k_X12_edge_155 {G : Gx} {d : Nat} {v' : Int32} {h' : Hp} {n' : Nat} {k88 : Hp → Nat → Nat → Int32 → Int32 → Int32 → Int32 → Int32 → Rz Int32} (K88 : ∀ {h : Hp} {nx : Nat} {l0 : Nat} {l1 : Int32} {l2 : Int32} {l3 : Int32} {l4 : Int32} {l5 : Int32}, k88 h nx l0 l1 l2 l3 l4 l5 = some (v', h', n') → Ok G mX12_edge (d + 71) (Same (some (.int v')) h' n') 88 [some (.ref l0), some (.int l1), some (.int l2), some (.int l3), some (.int l4), some (.int l5), none] [] h nx 0 0) {h : Hp} {nx : Nat} {l0 : Nat} {l1 : Int32} {l2 : Int32} {l3 : Int32} {l4 : Int32} {l5 : Int32} (e : F_X12_edge_155 G k88 h nx l0 l1 l2 l3 l4 l5 = some (v', h', n')) : Ok G mX12_edge (d + 71) (Same (some (.int v')) h' n') 155 [some (.ref l0), some (.int l1), some (.int l2), some (.int l3), some (.int l4), some (.int l5), none] [] h nx 0 0 := by
  unfold F_X12_edge_155 at e
  refine X.iinc dX12_edge_155 rfl (by decide) (by decide +kernel) e (L := fun v1 => [some (.ref l0), some (.int l1), some (.int l2), some (.int l3), some (.int l4), some (.int v1), none]) (fun _ => rfl) (fun v1 e1 => ?_)
  clear e
  refine Ok.goto (tgt := 88) dX12_edge_158 (by decide) ?_
  exact Ok.weakL (K88 e1) ⟨rfl, ⟨rfl, ⟨rfl, ⟨rfl, ⟨rfl, ⟨rfl, trivial⟩⟩⟩⟩⟩⟩
noncomputable def F_X12_edge_147 (G : Gx) (k88 : Hp → Nat → Nat → Int32 → Int32 → Int32 → Int32 → Int32 → Rz Int32) (k103 : Hp → Nat → Nat → Int32 → Int32 → Int32 → Int32 → Int32 → Int32 → Rz Int32) (h : Hp) (nx : Nat) (s0 : Int32) (l0 : Nat) (l1 : Int32) (l2 : Int32) (l3 : Int32) (l5 : Int32) (l6 : Int32) : Rz Int32 :=
nm (l6 + (nI 2)) (fun v1 =>
(k103 h nx l0 l1 l2 l3 s0 l5 v1))
set_option maxRecDepth 100000 in
set_option maxHeartbeats 4000000 in
theorem k_X12_edge_147 {G : Gx} {d : Nat} {v' : Int32} {h' : Hp} {n' : Nat} {k88 : Hp → Nat → Nat → Int32 → Int32 → Int32 → Int32 → Int32 → Rz Int32} (K88 : ∀ {h : Hp} {nx : Nat} {l0 : Nat} {l1 : Int32} {l2 : Int32} {l3 : Int32} {l4 : Int32} {l5 : Int32}, k88 h nx l0 l1 l2 l3 l4 l5 = some (v', h', n') → Ok G mX12_edge (d + 71) (Same (some (.int v')) h' n') 88 [some (.ref l0), some (.int l1), some (.int l2), some (.int l3), some (.int l4), some (.int l5), none] [] h nx 0 0) {k103 : Hp → Nat → Nat → Int32 → Int32 → Int32 → Int32 → Int32 → Int32 → Rz Int32} (K103 : ∀ {h : Hp} {nx : Nat} {l0 : Nat} {l1 : Int32} {l2 : Int32} {l3 : Int32} {l4 : Int32} {l5 : Int32} {l6 : Int32}, k103 h nx l0 l1 l2 l3 l4 l5 l6 = some (v', h', n') → Ok G mX12_edge (d + 71) (Same (some (.int v')) h' n') 103 [some (.ref l0), some (.int l1), some (.int l2), some (.int l3), some (.int l4), some (.int l5), some (.int l6)] [] h nx 0 0) {h : Hp} {nx : Nat} {s0 : Int32} {l0 : Nat} {l1 : Int32} {l2 : Int32} {l3 : Int32} {l5 : Int32} {l6 : Int32} (e : F_X12_edge_147 G k88 k103 h nx s0 l0 l1 l2 l3 l5 l6 = some (v', h', n')) : Ok G mX12_edge (d + 71) (Same (some (.int v')) h' n') 147 [some (.ref l0), some (.int l1), some (.int l2), some (.int l3), none, some (.int l5), some (.int l6)] [.int s0] h nx 0 0 := by
  unfold F_X12_edge_147 at e
  refine XL.istore dX12_edge_147 (by decide) (L := [some (.ref l0), some (.int l1), some (.int l2), some (.int l3), some (.int s0), some (.int l5), some (.int l6)]) rfl ?_
  refine X.iinc dX12_edge_149 rfl (by decide) (by decide +kernel) e (L := fun v1 => [some (.ref l0), some (.int l1), some (.int l2), some (.int l3), some (.int s0), some (.int l5), some (.int v1)]) (fun _ => rfl) (fun v1 e1 => ?_)
  clear e
  refine Ok.goto (tgt := 103) dX12_edge_152 (by decide) ?_
  exact Ok.weakL (K103 e1) ⟨rfl, ⟨rfl, ⟨rfl, ⟨rfl, ⟨rfl, ⟨rfl, ⟨rfl, trivial⟩⟩⟩⟩⟩⟩⟩
noncomputable def F_X12_edge_103 (G : Gx) (k88 : Hp → Nat → Nat → Int32 → Int32 → Int32 → Int32 → Int32 → Rz Int32) : Nat → Hp → Nat → Nat → Int32 → Int32 → Int32 → Int32 → Int32 → Int32 → Rz Int32 := fun n => Nat.rec (motive := fun _ => Hp → Nat → Nat → Int32 → Int32 → Int32 → Int32 → Int32 → Int32 → Rz Int32) (fun _ _ _ _ _ _ _ _ _ => none) (fun _ k103 => fun h nx l0 l1 l2 l3 l4 l5 l6 =>
if (nI 2) ≤ l6 then
(F_X12_edge_155 G k88 h nx l0 l1 l2 l3 l4 l5)
else
if l4 = 0 then
pfV h l0 [12] 11 (.int ((l6 * l5))) (fun h1 =>
ck h1 l0 [12] (fun _ =>
cl (F_X12_weight G h1 nx l0 l1 l2) (fun r2 h3 n4 =>
ck h3 l0 [12] (fun _ =>
cl (F_X12_firstOf G h3 n4 l0 l1 r2) (fun r5 h6 n7 =>
if r5 = l3 then
(F_X12_edge_147 G k88 k103 h6 n7 (nI 0) l0 l1 l2 l3 l5 l6)
else
(F_X12_edge_147 G k88 k103 h6 n7 ((l6 * l5)) l0 l1 l2 l3 l5 l6))))))
else
(F_X12_edge_155 G k88 h nx l0 l1 l2 l3 l4 l5)) n
theorem F_X12_edge_103_0 {G : Gx} (k88 : Hp → Nat → Nat → Int32 → Int32 → Int32 → Int32 → Int32 → Rz Int32) {h : Hp} {nx : Nat} {l0 : Nat} {l1 : Int32} {l2 : Int32} {l3 : Int32} {l4 : Int32} {l5 : Int32} {l6 : Int32} : F_X12_edge_103 G k88 0 h nx l0 l1 l2 l3 l4 l5 l6 = none := rfl
theorem F_X12_edge_103_s {G : Gx} (k88 : Hp → Nat → Nat → Int32 → Int32 → Int32 → Int32 → Int32 → Rz Int32) {n : Nat} {h : Hp} {nx : Nat} {l0 : Nat} {l1 : Int32} {l2 : Int32} {l3 : Int32} {l4 : Int32} {l5 : Int32} {l6 : Int32} : F_X12_edge_103 G k88 (n + 1) h nx l0 l1 l2 l3 l4 l5 l6 = (
if (nI 2) ≤ l6 then
(F_X12_edge_155 G k88 h nx l0 l1 l2 l3 l4 l5)
else
if l4 = 0 then
pfV h l0 [12] 11 (.int ((l6 * l5))) (fun h1 =>
ck h1 l0 [12] (fun _ =>
cl (F_X12_weight G h1 nx l0 l1 l2) (fun r2 h3 n4 =>
ck h3 l0 [12] (fun _ =>
cl (F_X12_firstOf G h3 n4 l0 l1 r2) (fun r5 h6 n7 =>
if r5 = l3 then
(F_X12_edge_147 G k88 (F_X12_edge_103 G k88 n) h6 n7 (nI 0) l0 l1 l2 l3 l5 l6)
else
(F_X12_edge_147 G k88 (F_X12_edge_103 G k88 n) h6 n7 ((l6 * l5)) l0 l1 l2 l3 l5 l6))))))
else
(F_X12_edge_155 G k88 h nx l0 l1 l2 l3 l4 l5)) := rfl
set_option maxRecDepth 100000 in
set_option maxHeartbeats 4000000 in
theorem k_X12_edge_103 {G : Gx} {d : Nat} {v' : Int32} {h' : Hp} {n' : Nat} {k88 : Hp → Nat → Nat → Int32 → Int32 → Int32 → Int32 → Int32 → Rz Int32} (K88 : ∀ {h : Hp} {nx : Nat} {l0 : Nat} {l1 : Int32} {l2 : Int32} {l3 : Int32} {l4 : Int32} {l5 : Int32}, k88 h nx l0 l1 l2 l3 l4 l5 = some (v', h', n') → Ok G mX12_edge (d + 71) (Same (some (.int v')) h' n') 88 [some (.ref l0), some (.int l1), some (.int l2), some (.int l3), some (.int l4), some (.int l5), none] [] h nx 0 0) : ∀ (n : Nat) {h : Hp} {nx : Nat} {l0 : Nat} {l1 : Int32} {l2 : Int32} {l3 : Int32} {l4 : Int32} {l5 : Int32} {l6 : Int32}, F_X12_edge_103 G k88 n h nx l0 l1 l2 l3 l4 l5 l6 = some (v', h', n') → Ok G mX12_edge (d + 71) (Same (some (.int v')) h' n') 103 [some (.ref l0), some (.int l1), some (.int l2), some (.int l3), some (.int l4), some (.int l5), some (.int l6)] [] h nx 0 0 := by
  intro n
  induction n with
  | zero =>
    intro h nx l0 l1 l2 l3 l4 l5 l6 e
    rw [F_X12_edge_103_0] at e
    cases e
  | succ n K103 =>
    intro h nx l0 l1 l2 l3 l4 l5 l6 e
    rw [F_X12_edge_103_s] at e
    refine Ok.iload dX12_edge_103 rfl ?_
    refine Ok.iconstV (v := (nI 2)) dX12_edge_105 (by decide +kernel) ?_
    refine X.icmp_ge (tgt := 155) dX12_edge_106 (by decide) e (fun e1 => ?_) (fun e1 => ?_)
    · clear e
      exact Ok.weakL (k_X12_edge_155 (d := d) K88 e1) ⟨rfl, ⟨rfl, ⟨rfl, ⟨rfl, ⟨rfl, ⟨rfl, trivial⟩⟩⟩⟩⟩⟩
    · clear e
      refine Ok.iload dX12_edge_109 rfl ?_
      refine X.if_ne (tgt := 155) dX12_edge_111 (by decide) e1 (fun e2 => ?_) (fun e2 => ?_)
      · clear e1
        exact Ok.weakL (k_X12_edge_155 (d := d) K88 e2) ⟨rfl, ⟨rfl, ⟨rfl, ⟨rfl, ⟨rfl, ⟨rfl, trivial⟩⟩⟩⟩⟩⟩
      · clear e1
        refine Ok.aload_n dX12_edge_114 rfl ?_
        refine Ok.iload dX12_edge_115 rfl ?_
        refine Ok.iload dX12_edge_117 rfl ?_
        refine Ok.imul dX12_edge_119 ?_
        refine X.rpfV (v := (.int ((l6 * l5)))) fp_RX12_161 rfl rfl dX12_edge_120 e2 (fun h1 e3 => ?_)
        clear e2
        refine Ok.aload_n dX12_edge_123 rfl ?_
        refine Ok.iload_n dX12_edge_124 rfl ?_
        refine Ok.aload_n dX12_edge_125 rfl ?_
        refine Ok.iload_n dX12_edge_126 rfl ?_
        refine Ok.iload_n dX12_edge_127 rfl ?_
        refine X.rck e3 (fun c fs hb hc e4 => ?_)
        clear e3
        obtain rfl := List.mem_singleton.mp hc
        refine X.callV (My := mX12_weight) (n := 2) (As := [.int l1, .int l2]) (T := (fun v => (some (.int v)))) (stk' := (fun v => [.int v, .int l1, .ref l0])) (rest := [.int l1, .ref l0]) (kc' := 0) (ks' := 0) dX12_edge_128 e4 (fun v h n e => k_X12_weight (d := d + 0) e) hb rfl wd1470 wd80 wd1469 wd66 wd1467 (by decide +kernel) rfl (by decide) rfl rfl (Nat.le_of_ble_eq_true rfl) (Nat.le_of_ble_eq_true rfl) (Nat.le_of_ble_eq_true rfl) rfl rfl (fun _ => rfl) (fun r2 h3 n4 e5 => ?_)
        clear e4
        refine X.rck e5 (fun c fs hb hc e6 => ?_)
        clear e5
        obtain rfl := List.mem_singleton.mp hc
        refine X.callV (My := mX12_firstOf) (n := 2) (As := [.int l1, .int r2]) (T := (fun v => (some (.int v)))) (stk' := (fun v => [.int v])) (rest := []) (kc' := 0) (ks' := 0) dX12_edge_131 e6 (fun v h n e => k_X12_firstOf (d := d + 70) e) hb rfl wd1478 wd80 wd1477 wd67 wd1475 (by decide +kernel) rfl (by decide) rfl rfl (Nat.le_of_ble_eq_true rfl) (Nat.le_of_ble_eq_true rfl) (Nat.le_of_ble_eq_true rfl) rfl rfl (fun _ => rfl) (fun r5 h6 n7 e7 => ?_)
        clear e6
        refine Ok.iload_n dX12_edge_134 rfl ?_
        refine X.icmp_eq (tgt := 146) dX12_edge_135 (by decide) e7 (fun e8 => ?_) (fun e8 => ?_)
        · clear e7
          refine Ok.iconstV (v := (nI 0)) dX12_edge_146 (by decide +kernel) ?_
          exact Ok.weakL (k_X12_edge_147 (d := d) K88 K103 e8) ⟨rfl, ⟨rfl, ⟨rfl, ⟨rfl, ⟨rfl, ⟨rfl, trivial⟩⟩⟩⟩⟩⟩
        · clear e7
          refine Ok.iload dX12_edge_138 rfl ?_
          refine Ok.iload dX12_edge_140 rfl ?_
          refine Ok.imul dX12_edge_142 ?_
          refine Ok.goto (tgt := 147) dX12_edge_143 (by decide) ?_
          exact Ok.weakL (k_X12_edge_147 (d := d) K88 K103 e8) ⟨rfl, ⟨rfl, ⟨rfl, ⟨rfl, ⟨rfl, ⟨rfl, trivial⟩⟩⟩⟩⟩⟩
noncomputable def F_X12_edge_88 (G : Gx) : Nat → Hp → Nat → Nat → Int32 → Int32 → Int32 → Int32 → Int32 → Rz Int32 := fun n => Nat.rec (motive := fun _ => Hp → Nat → Nat → Int32 → Int32 → Int32 → Int32 → Int32 → Rz Int32) (fun _ _ _ _ _ _ _ _ => none) (fun _ k88 => fun h nx l0 l1 l2 l3 l4 l5 =>
if (nI 30) < l5 then
(F_X12_edge_161 G h nx l0 l4)
else
if l4 = 0 then
(F_X12_edge_103 G k88 fuelL h nx l0 l1 l2 l3 l4 l5 (-1 : Int32))
else
(F_X12_edge_161 G h nx l0 l4)) n
theorem F_X12_edge_88_0 {G : Gx} {h : Hp} {nx : Nat} {l0 : Nat} {l1 : Int32} {l2 : Int32} {l3 : Int32} {l4 : Int32} {l5 : Int32} : F_X12_edge_88 G 0 h nx l0 l1 l2 l3 l4 l5 = none := rfl
theorem F_X12_edge_88_s {G : Gx} {n : Nat} {h : Hp} {nx : Nat} {l0 : Nat} {l1 : Int32} {l2 : Int32} {l3 : Int32} {l4 : Int32} {l5 : Int32} : F_X12_edge_88 G (n + 1) h nx l0 l1 l2 l3 l4 l5 = (
if (nI 30) < l5 then
(F_X12_edge_161 G h nx l0 l4)
else
if l4 = 0 then
(F_X12_edge_103 G (F_X12_edge_88 G n) fuelL h nx l0 l1 l2 l3 l4 l5 (-1 : Int32))
else
(F_X12_edge_161 G h nx l0 l4)) := rfl
set_option maxRecDepth 100000 in
set_option maxHeartbeats 4000000 in
theorem k_X12_edge_88 {G : Gx} {d : Nat} {v' : Int32} {h' : Hp} {n' : Nat} : ∀ (n : Nat) {h : Hp} {nx : Nat} {l0 : Nat} {l1 : Int32} {l2 : Int32} {l3 : Int32} {l4 : Int32} {l5 : Int32}, F_X12_edge_88 G n h nx l0 l1 l2 l3 l4 l5 = some (v', h', n') → Ok G mX12_edge (d + 71) (Same (some (.int v')) h' n') 88 [some (.ref l0), some (.int l1), some (.int l2), some (.int l3), some (.int l4), some (.int l5), none] [] h nx 0 0 := by
  intro n
  induction n with
  | zero =>
    intro h nx l0 l1 l2 l3 l4 l5 e
    rw [F_X12_edge_88_0] at e
    cases e
  | succ n K88 =>
    intro h nx l0 l1 l2 l3 l4 l5 e
    rw [F_X12_edge_88_s] at e
    refine Ok.iload dX12_edge_88 rfl ?_
    refine Ok.bipushV (v := (nI 30)) dX12_edge_90 (by decide +kernel) ?_
    refine X.icmp_gt (tgt := 161) dX12_edge_92 (by decide) e (fun e1 => ?_) (fun e1 => ?_)
    · clear e
      exact Ok.weakL (k_X12_edge_161 (d := d) e1) ⟨rfl, ⟨rfl, trivial⟩⟩
    · clear e
      refine Ok.iload dX12_edge_95 rfl ?_
      refine X.if_ne (tgt := 161) dX12_edge_97 (by decide) e1 (fun e2 => ?_) (fun e2 => ?_)
      · clear e1
        exact Ok.weakL (k_X12_edge_161 (d := d) e2) ⟨rfl, ⟨rfl, trivial⟩⟩
      · clear e1
        refine Ok.iconstV (v := (-1 : Int32)) dX12_edge_100 (by decide +kernel) ?_
        refine XL.istore dX12_edge_101 (by decide) (L := [some (.ref l0), some (.int l1), some (.int l2), some (.int l3), some (.int l4), some (.int l5), some (.int (-1 : Int32))]) rfl ?_
        exact Ok.weakL (k_X12_edge_103 (d := d) K88 fuelL e2) ⟨rfl, ⟨rfl, ⟨rfl, ⟨rfl, ⟨rfl, ⟨rfl, ⟨rfl, trivial⟩⟩⟩⟩⟩⟩⟩
noncomputable def F_X12_edge_37 (G : Gx) : Nat → Hp → Nat → Nat → Int32 → Int32 → Int32 → Rz Int32 := fun n => Nat.rec (motive := fun _ => Hp → Nat → Nat → Int32 → Int32 → Int32 → Rz Int32) (fun _ _ _ _ _ _ => none) (fun _ k37 => fun h nx l0 l1 l2 l3 =>
gfR h l0 [12] 1 (fun v1 =>
nn v1 (fun p2 =>
alI (g_c G 0) h p2 (nI 1) (fun v3 =>
if v3 ≤ l3 then
gfR h l0 [12] 21 (fun v4 =>
nn v4 (fun p5 =>
alI (g_c G 0) h p5 l1 (fun v6 =>
ck h l0 [12] (fun _ =>
cl (F_X12_firstOf G h nx l0 l1 v6) (fun r7 h8 n9 =>
pfV h8 l0 [12] 10 (.int l1) (fun h10 =>
(F_X12_edge_88 G fuelL h10 n9 l0 l1 l2 r7 (nI 0) (nI 1))))))))
else
gfR h l0 [12] 21 (fun v11 =>
ck h l0 [12] (fun _ =>
cl (F_X12_weight G h nx l0 l3 l2) (fun r12 h13 n14 =>
nn v11 (fun p15 =>
asI (g_c G 0) id h13 p15 l3 r12 (fun h16 =>
nm (l3 + (nI 1)) (fun v17 =>
(k37 h16 n14 l0 l1 l2 v17))))))))))) n
theorem F_X12_edge_37_0 {G : Gx} {h : Hp} {nx : Nat} {l0 : Nat} {l1 : Int32} {l2 : Int32} {l3 : Int32} : F_X12_edge_37 G 0 h nx l0 l1 l2 l3 = none := rfl
theorem F_X12_edge_37_s {G : Gx} {n : Nat} {h : Hp} {nx : Nat} {l0 : Nat} {l1 : Int32} {l2 : Int32} {l3 : Int32} : F_X12_edge_37 G (n + 1) h nx l0 l1 l2 l3 = (
gfR h l0 [12] 1 (fun v1 =>
nn v1 (fun p2 =>
alI (g_c G 0) h p2 (nI 1) (fun v3 =>
if v3 ≤ l3 then
gfR h l0 [12] 21 (fun v4 =>
nn v4 (fun p5 =>
alI (g_c G 0) h p5 l1 (fun v6 =>
ck h l0 [12] (fun _ =>
cl (F_X12_firstOf G h nx l0 l1 v6) (fun r7 h8 n9 =>
pfV h8 l0 [12] 10 (.int l1) (fun h10 =>
(F_X12_edge_88 G fuelL h10 n9 l0 l1 l2 r7 (nI 0) (nI 1))))))))
else
gfR h l0 [12] 21 (fun v11 =>
ck h l0 [12] (fun _ =>
cl (F_X12_weight G h nx l0 l3 l2) (fun r12 h13 n14 =>
nn v11 (fun p15 =>
asI (g_c G 0) id h13 p15 l3 r12 (fun h16 =>
nm (l3 + (nI 1)) (fun v17 =>
((F_X12_edge_37 G n) h16 n14 l0 l1 l2 v17))))))))))) := rfl
set_option maxRecDepth 100000 in
set_option maxHeartbeats 4000000 in
theorem k_X12_edge_37 {G : Gx} {d : Nat} {v' : Int32} {h' : Hp} {n' : Nat} : ∀ (n : Nat) {h : Hp} {nx : Nat} {l0 : Nat} {l1 : Int32} {l2 : Int32} {l3 : Int32}, F_X12_edge_37 G n h nx l0 l1 l2 l3 = some (v', h', n') → Ok G mX12_edge (d + 71) (Same (some (.int v')) h' n') 37 [some (.ref l0), some (.int l1), some (.int l2), some (.int l3), none, none, none] [] h nx 0 0 := by
  intro n
  induction n with
  | zero =>
    intro h nx l0 l1 l2 l3 e
    rw [F_X12_edge_37_0] at e
    cases e
  | succ n K37 =>
    intro h nx l0 l1 l2 l3 e
    rw [F_X12_edge_37_s] at e
    refine Ok.iload_n dX12_edge_37 rfl ?_
    refine Ok.aload_n dX12_edge_38 rfl ?_
    refine X.rgfR fl_RX12_9 dX12_edge_39 e (fun v1 e1 => ?_)
    clear e
    refine Ok.iconstV (v := (nI 1)) dX12_edge_42 (by decide +kernel) ?_
    refine X.rnn e1 (fun p2 q e2 => ?_)
    clear e1
    subst q
    refine X.iald dX12_edge_43 e2 (fun v3 e3 => ?_)
    clear e2
    refine X.icmp_ge (tgt := 65) dX12_edge_44 (by decide) e3 (fun e4 => ?_) (fun e4 => ?_)
    · clear e3
      refine Ok.aload_n dX12_edge_65 rfl ?_
      refine Ok.iload_n dX12_edge_66 rfl ?_
      refine Ok.aload_n dX12_edge_67 rfl ?_
      refine X.rgfR fl_RX12_45 dX12_edge_68 e4 (fun v4 e5 => ?_)
      clear e4
      refine Ok.iload_n dX12_edge_71 rfl ?_
      refine X.rnn e5 (fun p5 q e6 => ?_)
      clear e5
      subst q
      refine X.iald dX12_edge_72 e6 (fun v6 e7 => ?_)
      clear e6
      refine X.rck e7 (fun c fs hb hc e8 => ?_)
      clear e7
      obtain rfl := List.mem_singleton.mp hc
      refine X.callV (My := mX12_firstOf) (n := 2) (As := [.int l1, .int v6]) (T := (fun v => (some (.int v)))) (stk' := (fun v => [.int v])) (rest := []) (kc' := 0) (ks' := 0) dX12_edge_73 e8 (fun v h n e => k_X12_firstOf (d := d + 70) e) hb rfl wd1478 wd80 wd1477 wd67 wd1475 (by decide +kernel) rfl (by decide) rfl rfl (Nat.le_of_ble_eq_true rfl) (Nat.le_of_ble_eq_true rfl) (Nat.le_of_ble_eq_true rfl) rfl rfl (fun _ => rfl) (fun r7 h8 n9 e9 => ?_)
      clear e8
      refine XL.istore_n dX12_edge_76 (by decide) (L := [some (.ref l0), some (.int l1), some (.int l2), some (.int r7), none, none, none]) rfl ?_
      refine Ok.iconstV (v := (nI 0)) dX12_edge_77 (by decide +kernel) ?_
      refine XL.istore dX12_edge_78 (by decide) (L := [some (.ref l0), some (.int l1), some (.int l2), some (.int r7), some (.int (nI 0)), none, none]) rfl ?_
      refine Ok.aload_n dX12_edge_80 rfl ?_
      refine Ok.iload_n dX12_edge_81 rfl ?_
      refine X.rpfV (v := (.int l1)) fp_RX12_22 rfl rfl dX12_edge_82 e9 (fun h10 e10 => ?_)
      clear e9
      refine Ok.iconstV (v := (nI 1)) dX12_edge_85 (by decide +kernel) ?_
      refine XL.istore dX12_edge_86 (by decide) (L := [some (.ref l0), some (.int l1), some (.int l2), some (.int r7), some (.int (nI 0)), some (.int (nI 1)), none]) rfl ?_
      exact Ok.weakL (k_X12_edge_88 (d := d) fuelL e10) ⟨rfl, ⟨rfl, ⟨rfl, ⟨rfl, ⟨rfl, ⟨rfl, trivial⟩⟩⟩⟩⟩⟩
    · clear e3
      refine Ok.aload_n dX12_edge_47 rfl ?_
      refine X.rgfR fl_RX12_45 dX12_edge_48 e4 (fun v11 e5 => ?_)
      clear e4
      refine Ok.iload_n dX12_edge_51 rfl ?_
      refine Ok.aload_n dX12_edge_52 rfl ?_
      refine Ok.iload_n dX12_edge_53 rfl ?_
      refine Ok.iload_n dX12_edge_54 rfl ?_
      refine X.rck e5 (fun c fs hb hc e6 => ?_)
      clear e5
      obtain rfl := List.mem_singleton.mp hc
      refine X.callV (My := mX12_weight) (n := 2) (As := [.int l3, .int l2]) (T := (fun v => (some (.int v)))) (stk' := (fun v => [.int v, .int l3, va_rf v11])) (rest := [.int l3, va_rf v11]) (kc' := 0) (ks' := 0) dX12_edge_55 e6 (fun v h n e => k_X12_weight (d := d + 0) e) hb rfl wd1470 wd80 wd1469 wd66 wd1467 (by decide +kernel) rfl (by decide) rfl rfl (cs_le (cs_c (a := 1) rfl (cs_c (a := 1) (va_rf_cat _) cs_n)) (by decide)) (Nat.le_of_ble_eq_true rfl) (Nat.le_of_ble_eq_true rfl) rfl rfl (fun _ => rfl) (fun r12 h13 n14 e7 => ?_)
      clear e6
      refine X.rnn e7 (fun p15 q e8 => ?_)
      clear e7
      subst q
      refine X.iast dX12_edge_58 e8 (fun h16 e9 => ?_)
      clear e8
      refine X.iinc dX12_edge_59 rfl (by decide) (by decide +kernel) e9 (L := fun v17 => [some (.ref l0), some (.int l1), some (.int l2), some (.int v17), none, none, none]) (fun _ => rfl) (fun v17 e10 => ?_)
      clear e9
      refine Ok.goto (tgt := 37) dX12_edge_62 (by decide) ?_
      exact Ok.weakL (K37 e10) ⟨rfl, ⟨rfl, ⟨rfl, ⟨rfl, trivial⟩⟩⟩⟩
noncomputable def F_X12_edge (G : Gx) (h : Hp) (nx : Nat) (a0 : Nat) (a1 : Int32) (a2 : Int32) : Rz Int32 :=
ck h a0 [12] (fun _ =>
cl (F_X12_isThing G h nx a0 a1) (fun r1 h2 n3 =>
if r1 = 0 then
some ((-1 : Int32), h2, n3)
else
cl (F_X12_in G h2 n3 a2 (nI 1) (nI 4)) (fun r4 h5 n6 =>
if r4 = 0 then
some ((-2 : Int32), h5, n6)
else
gfR h5 a0 [12] 1 (fun v7 =>
nn v7 (fun p8 =>
alI (g_c G 0) h5 p8 (nI 1) (fun v9 =>
if v9 = (nI 1) then
some ((-3 : Int32), h5, n6)
else
(F_X12_edge_37 G fuelL h5 n6 a0 a1 a2 (nI 0))))))))
set_option maxRecDepth 100000 in
set_option maxHeartbeats 4000000 in
theorem k_X12_edge {G : Gx} {d : Nat} {h : Hp} {nx : Nat} {a0 : Nat} {a1 : Int32} {a2 : Int32} {v' : Int32} {h' : Hp} {n' : Nat} (e : F_X12_edge G h nx a0 a1 a2 = some (v', h', n')) : Ct G mX12_edge (d + 71) (Same (some (.int v')) h' n') [.ref a0, .int a1, .int a2] h nx := by
  unfold F_X12_edge at e
  refine Ct.of (ls := [some (.ref a0), some (.int a1), some (.int a2), none, none, none, none]) (by decide +kernel) rfl (Nat.le_of_ble_eq_true rfl) rfl ?_
  refine Ok.aload_n dX12_edge_0 rfl ?_
  refine Ok.iload_n dX12_edge_1 rfl ?_
  refine X.rck e (fun c fs hb hc e1 => ?_)
  clear e
  obtain rfl := List.mem_singleton.mp hc
  refine X.callV (My := mX12_isThing) (n := 1) (As := [.int a1]) (T := (fun v => (some (.int v)))) (stk' := (fun v => [.int v])) (rest := []) (kc' := 0) (ks' := 0) dX12_edge_2 e1 (fun v h n e => k_X12_isThing (d := d + 69) e) hb rfl wd1278 wd80 wd1277 wd38 wd1275 (by decide +kernel) rfl (by decide) rfl rfl (Nat.le_of_ble_eq_true rfl) (Nat.le_of_ble_eq_true rfl) (Nat.le_of_ble_eq_true rfl) rfl rfl (fun _ => rfl) (fun r1 h2 n3 e2 => ?_)
  clear e1
  refine X.if_ne (tgt := 10) dX12_edge_5 (by decide) e2 (fun e3 => ?_) (fun e3 => ?_)
  · clear e2
    refine Ok.iload_n dX12_edge_10 rfl ?_
    refine Ok.iconstV (v := (nI 1)) dX12_edge_11 (by decide +kernel) ?_
    refine Ok.iconstV (v := (nI 4)) dX12_edge_12 (by decide +kernel) ?_
    refine X.callS (My := mX12_in) (n := 3) (As := [.int a2, .int (nI 1), .int (nI 4)]) (T := (fun v => (some (.int v)))) (stk' := (fun v => [.int v])) (rest := []) (kc' := 0) (ks' := 0) dX12_edge_13 e3 (fun v h n e => k_X12_in (d := d + 70) e) wd1196 wd80 wd1195 wd1194 (by decide +kernel) rfl (by decide) rfl rfl (Nat.le_of_ble_eq_true rfl) (Nat.le_of_ble_eq_true rfl) (Nat.le_of_ble_eq_true rfl) rfl rfl (fun _ => rfl) (fun r4 h5 n6 e4 => ?_)
    clear e3
    refine X.if_ne (tgt := 22) dX12_edge_16 (by decide) e4 (fun e5 => ?_) (fun e5 => ?_)
    · clear e4
      refine Ok.aload_n dX12_edge_22 rfl ?_
      refine X.rgfR fl_RX12_9 dX12_edge_23 e5 (fun v7 e6 => ?_)
      clear e5
      refine Ok.iconstV (v := (nI 1)) dX12_edge_26 (by decide +kernel) ?_
      refine X.rnn e6 (fun p8 q e7 => ?_)
      clear e6
      subst q
      refine X.iald dX12_edge_27 e7 (fun v9 e8 => ?_)
      clear e7
      refine Ok.iconstV (v := (nI 1)) dX12_edge_28 (by decide +kernel) ?_
      refine X.icmp_ne (tgt := 35) dX12_edge_29 (by decide) e8 (fun e9 => ?_) (fun e9 => ?_)
      · clear e8
        refine Ok.iconstV (v := (nI 0)) dX12_edge_35 (by decide +kernel) ?_
        refine XL.istore_n dX12_edge_36 (by decide) (L := [some (.ref a0), some (.int a1), some (.int a2), some (.int (nI 0)), none, none, none]) rfl ?_
        exact Ok.weakL (k_X12_edge_37 (d := d) fuelL e9) ⟨rfl, ⟨rfl, ⟨rfl, ⟨rfl, trivial⟩⟩⟩⟩
      · clear e8
        refine Ok.bipushV (v := (-3 : Int32)) dX12_edge_32 (by decide +kernel) ?_
        exact X.iret dX12_edge_34 rfl (Nat.le_of_ble_eq_true rfl) (Nat.le_of_ble_eq_true rfl) e9
    · clear e4
      refine Ok.bipushV (v := (-2 : Int32)) dX12_edge_19 (by decide +kernel) ?_
      exact X.iret dX12_edge_21 rfl (Nat.le_of_ble_eq_true rfl) (Nat.le_of_ble_eq_true rfl) e5
  · clear e2
    refine Ok.iconstV (v := (-1 : Int32)) dX12_edge_8 (by decide +kernel) ?_
    exact X.iret dX12_edge_9 rfl (Nat.le_of_ble_eq_true rfl) (Nat.le_of_ble_eq_true rfl) e3
noncomputable def F_X12_runs_19 (G : Gx) (h : Hp) (nx : Nat) (l0 : Nat) : Rz Unit :=
gfI h l0 [12] 30 (fun v1 =>
pfV h l0 [12] 30 (.int ((v1 + (nI 1)))) (fun h2 =>
some ((), h2, nx)))
set_option maxRecDepth 100000 in
set_option maxHeartbeats 4000000 in
theorem k_X12_runs_19 {G : Gx} {d : Nat} {v' : Unit} {h' : Hp} {n' : Nat} {h : Hp} {nx : Nat} {l0 : Nat} (e : F_X12_runs_19 G h nx l0 = some (v', h', n')) : Ok G mX12_runs (d + 0) (Same none h' n') 19 [some (.ref l0), none] [] h nx 0 0 := by
  unfold F_X12_runs_19 at e
  refine Ok.aload_n dX12_runs_19 rfl ?_
  refine Ok.dup dX12_runs_20 rfl ?_
  refine X.rgfI fl_RX12_295 dX12_runs_21 e (fun v1 e1 => ?_)
  clear e
  refine Ok.iconstV (v := (nI 1)) dX12_runs_24 (by decide +kernel) ?_
  refine Ok.iadd dX12_runs_25 ?_
  refine X.rpfV (v := (.int ((v1 + (nI 1))))) fp_RX12_295 rfl rfl dX12_runs_26 e1 (fun h2 e2 => ?_)
  clear e1
  exact X.vret dX12_runs_29 rfl (Nat.le_of_ble_eq_true rfl) (Nat.le_of_ble_eq_true rfl) e2
noncomputable def F_X12_runs (G : Gx) (h : Hp) (nx : Nat) (a0 : Nat) (a1 : Int32) : Rz Unit :=
gfI h a0 [12] 30 (fun v1 =>
if (nI 20) ≤ v1 then
(F_X12_runs_19 G h nx a0)
else
gfR h a0 [12] 29 (fun v2 =>
gfI h a0 [12] 30 (fun v3 =>
nn v2 (fun p4 =>
asI (g_c G 0) id h p4 v3 a1 (fun h5 =>
(F_X12_runs_19 G h5 nx a0))))))
set_option maxRecDepth 100000 in
set_option maxHeartbeats 4000000 in
theorem k_X12_runs {G : Gx} {d : Nat} {h : Hp} {nx : Nat} {a0 : Nat} {a1 : Int32} {v' : Unit} {h' : Hp} {n' : Nat} (e : F_X12_runs G h nx a0 a1 = some (v', h', n')) : Ct G mX12_runs (d + 0) (Same none h' n') [.ref a0, .int a1] h nx := by
  unfold F_X12_runs at e
  refine Ct.of (ls := [some (.ref a0), some (.int a1)]) (by decide +kernel) rfl (Nat.le_of_ble_eq_true rfl) rfl ?_
  refine Ok.aload_n dX12_runs_0 rfl ?_
  refine X.rgfI fl_RX12_295 dX12_runs_1 e (fun v1 e1 => ?_)
  clear e
  refine Ok.bipushV (v := (nI 20)) dX12_runs_4 (by decide +kernel) ?_
  refine X.icmp_ge (tgt := 19) dX12_runs_6 (by decide) e1 (fun e2 => ?_) (fun e2 => ?_)
  · clear e1
    exact Ok.weakL (k_X12_runs_19 (d := d) e2) ⟨rfl, trivial⟩
  · clear e1
    refine Ok.aload_n dX12_runs_9 rfl ?_
    refine X.rgfR fl_RX12_63 dX12_runs_10 e2 (fun v2 e3 => ?_)
    clear e2
    refine Ok.aload_n dX12_runs_13 rfl ?_
    refine X.rgfI fl_RX12_295 dX12_runs_14 e3 (fun v3 e4 => ?_)
    clear e3
    refine Ok.iload_n dX12_runs_17 rfl ?_
    refine X.rnn e4 (fun p4 q e5 => ?_)
    clear e4
    subst q
    refine X.iast dX12_runs_18 e5 (fun h5 e6 => ?_)
    clear e5
    exact Ok.weakL (k_X12_runs_19 (d := d) e6) ⟨rfl, trivial⟩
noncomputable def F_X12_isUnder_34 (G : Gx) (h : Hp) (nx : Nat) (s0 : Int32) : Rz Int32 :=
zk s0 (some (s0, h, nx))
set_option maxRecDepth 100000 in
set_option maxHeartbeats 4000000 in
theorem k_X12_isUnder_34 {G : Gx} {d : Nat} {v' : Int32} {h' : Hp} {n' : Nat} {h : Hp} {nx : Nat} {s0 : Int32} (e : F_X12_isUnder_34 G h nx s0 = some (v', h', n')) : Ok G mX12_isUnder (d + 0) (Same (some (.int v')) h' n') 34 [none, none] [.int s0] h nx 0 0 := by
  unfold F_X12_isUnder_34 at e
  exact X.zret dX12_isUnder_34 rfl (Nat.le_of_ble_eq_true rfl) (Nat.le_of_ble_eq_true rfl) e
noncomputable def F_X12_isUnder_29 (G : Gx) (h : Hp) (nx : Nat) : Rz Int32 :=
(F_X12_isUnder_34 G h nx (nI 1))
set_option maxRecDepth 100000 in
set_option maxHeartbeats 4000000 in
theorem k_X12_isUnder_29 {G : Gx} {d : Nat} {v' : Int32} {h' : Hp} {n' : Nat} {h : Hp} {nx : Nat} (e : F_X12_isUnder_29 G h nx = some (v', h', n')) : Ok G mX12_isUnder (d + 0) (Same (some (.int v')) h' n') 29 [none, none] [] h nx 0 0 := by
  unfold F_X12_isUnder_29 at e
  refine Ok.iconstV (v := (nI 1)) dX12_isUnder_29 (by decide +kernel) ?_
  refine Ok.goto (tgt := 34) dX12_isUnder_30 (by decide) ?_
  exact Ok.weakL (k_X12_isUnder_34 (d := d) e) trivial
noncomputable def F_X12_isUnder_33 (G : Gx) (h : Hp) (nx : Nat) : Rz Int32 :=
(F_X12_isUnder_34 G h nx (nI 0))
set_option maxRecDepth 100000 in
set_option maxHeartbeats 4000000 in
theorem k_X12_isUnder_33 {G : Gx} {d : Nat} {v' : Int32} {h' : Hp} {n' : Nat} {h : Hp} {nx : Nat} (e : F_X12_isUnder_33 G h nx = some (v', h', n')) : Ok G mX12_isUnder (d + 0) (Same (some (.int v')) h' n') 33 [none, none] [] h nx 0 0 := by
  unfold F_X12_isUnder_33 at e
  refine Ok.iconstV (v := (nI 0)) dX12_isUnder_33 (by decide +kernel) ?_
  exact Ok.weakL (k_X12_isUnder_34 (d := d) e) trivial
noncomputable def F_X12_isUnder_19 (G : Gx) (h : Hp) (nx : Nat) (l0 : Int32) (l1 : Int32) : Rz Int32 :=
if l1 = (nI 3) then
if l0 = (nI 5) then
(F_X12_isUnder_29 G h nx)
else
(F_X12_isUnder_33 G h nx)
else
(F_X12_isUnder_33 G h nx)
set_option maxRecDepth 100000 in
set_option maxHeartbeats 4000000 in
theorem k_X12_isUnder_19 {G : Gx} {d : Nat} {v' : Int32} {h' : Hp} {n' : Nat} {h : Hp} {nx : Nat} {l0 : Int32} {l1 : Int32} (e : F_X12_isUnder_19 G h nx l0 l1 = some (v', h', n')) : Ok G mX12_isUnder (d + 0) (Same (some (.int v')) h' n') 19 [some (.int l0), some (.int l1)] [] h nx 0 0 := by
  unfold F_X12_isUnder_19 at e
  refine Ok.iload_n dX12_isUnder_19 rfl ?_
  refine Ok.iconstV (v := (nI 3)) dX12_isUnder_20 (by decide +kernel) ?_
  refine X.icmp_ne (tgt := 33) dX12_isUnder_21 (by decide) e (fun e1 => ?_) (fun e1 => ?_)
  · clear e
    exact Ok.weakL (k_X12_isUnder_33 (d := d) e1) trivial
  · clear e
    refine Ok.iload_n dX12_isUnder_24 rfl ?_
    refine Ok.iconstV (v := (nI 5)) dX12_isUnder_25 (by decide +kernel) ?_
    refine X.icmp_ne (tgt := 33) dX12_isUnder_26 (by decide) e1 (fun e2 => ?_) (fun e2 => ?_)
    · clear e1
      exact Ok.weakL (k_X12_isUnder_33 (d := d) e2) trivial
    · clear e1
      exact Ok.weakL (k_X12_isUnder_29 (d := d) e2) trivial
noncomputable def F_X12_isUnder (G : Gx) (h : Hp) (nx : Nat) (a0 : Int32) (a1 : Int32) : Rz Int32 :=
if a1 = 0 then
(F_X12_isUnder_29 G h nx)
else
if a1 = a0 then
(F_X12_isUnder_29 G h nx)
else
if a1 = (nI 2) then
if a0 = (nI 4) then
(F_X12_isUnder_29 G h nx)
else
(F_X12_isUnder_19 G h nx a0 a1)
else
(F_X12_isUnder_19 G h nx a0 a1)
set_option maxRecDepth 100000 in
set_option maxHeartbeats 4000000 in
theorem k_X12_isUnder {G : Gx} {d : Nat} {h : Hp} {nx : Nat} {a0 : Int32} {a1 : Int32} {v' : Int32} {h' : Hp} {n' : Nat} (e : F_X12_isUnder G h nx a0 a1 = some (v', h', n')) : Ct G mX12_isUnder (d + 0) (Same (some (.int v')) h' n') [.int a0, .int a1] h nx := by
  unfold F_X12_isUnder at e
  refine Ct.of (ls := [some (.int a0), some (.int a1)]) (by decide +kernel) rfl (Nat.le_of_ble_eq_true rfl) rfl ?_
  refine Ok.iload_n dX12_isUnder_0 rfl ?_
  refine X.if_eq (tgt := 29) dX12_isUnder_1 (by decide) e (fun e1 => ?_) (fun e1 => ?_)
  · clear e
    exact Ok.weakL (k_X12_isUnder_29 (d := d) e1) trivial
  · clear e
    refine Ok.iload_n dX12_isUnder_4 rfl ?_
    refine Ok.iload_n dX12_isUnder_5 rfl ?_
    refine X.icmp_eq (tgt := 29) dX12_isUnder_6 (by decide) e1 (fun e2 => ?_) (fun e2 => ?_)
    · clear e1
      exact Ok.weakL (k_X12_isUnder_29 (d := d) e2) trivial
    · clear e1
      refine Ok.iload_n dX12_isUnder_9 rfl ?_
      refine Ok.iconstV (v := (nI 2)) dX12_isUnder_10 (by decide +kernel) ?_
      refine X.icmp_ne (tgt := 19) dX12_isUnder_11 (by decide) e2 (fun e3 => ?_) (fun e3 => ?_)
      · clear e2
        exact Ok.weakL (k_X12_isUnder_19 (d := d) e3) ⟨rfl, ⟨rfl, trivial⟩⟩
      · clear e2
        refine Ok.iload_n dX12_isUnder_14 rfl ?_
        refine Ok.iconstV (v := (nI 4)) dX12_isUnder_15 (by decide +kernel) ?_
        refine X.icmp_eq (tgt := 29) dX12_isUnder_16 (by decide) e3 (fun e4 => ?_) (fun e4 => ?_)
        · clear e3
          exact Ok.weakL (k_X12_isUnder_29 (d := d) e4) trivial
        · clear e3
          exact Ok.weakL (k_X12_isUnder_19 (d := d) e4) ⟨rfl, ⟨rfl, trivial⟩⟩
noncomputable def F_X12_plainMeans (G : Gx) (h : Hp) (nx : Nat) (a0 : Nat) (a1 : Int32) : Rz Int32 :=
ck h a0 [12] (fun _ =>
cl (F_X12_runs G h nx a0 (nI 1)) (fun _ h2 n3 =>
gfI h2 a0 [12] 32 (fun v4 =>
some (((a1 + v4)), h2, n3))))
set_option maxRecDepth 100000 in
set_option maxHeartbeats 4000000 in
theorem k_X12_plainMeans {G : Gx} {d : Nat} {h : Hp} {nx : Nat} {a0 : Nat} {a1 : Int32} {v' : Int32} {h' : Hp} {n' : Nat} (e : F_X12_plainMeans G h nx a0 a1 = some (v', h', n')) : Ct G mX12_plainMeans (d + 1) (Same (some (.int v')) h' n') [.ref a0, .int a1] h nx := by
  unfold F_X12_plainMeans at e
  refine Ct.of (ls := [some (.ref a0), some (.int a1)]) (by decide +kernel) rfl (Nat.le_of_ble_eq_true rfl) rfl ?_
  refine Ok.aload_n dX12_plainMeans_0 rfl ?_
  refine Ok.iconstV (v := (nI 1)) dX12_plainMeans_1 (by decide +kernel) ?_
  refine X.rck e (fun c fs hb hc e1 => ?_)
  clear e
  obtain rfl := List.mem_singleton.mp hc
  refine X.callV (My := mX12_runs) (n := 1) (As := [.int (nI 1)]) (T := (fun v => none)) (stk' := (fun _ => [])) (rest := []) (kc' := 0) (ks' := 0) dX12_plainMeans_2 e1 (fun v h n e => k_X12_runs (d := d + 0) e) hb rfl wd1490 wd80 wd1489 wd69 wd1487 (by decide +kernel) rfl (by decide) rfl rfl (Nat.le_of_ble_eq_true rfl) (Nat.le_of_ble_eq_true rfl) (Nat.le_of_ble_eq_true rfl) rfl rfl (fun _ => rfl) (fun _ h2 n3 e2 => ?_)
  clear e1
  refine Ok.iload_n dX12_plainMeans_5 rfl ?_
  refine Ok.aload_n dX12_plainMeans_6 rfl ?_
  refine X.rgfI fl_RX12_301 dX12_plainMeans_7 e2 (fun v4 e3 => ?_)
  clear e2
  refine Ok.iadd dX12_plainMeans_10 ?_
  exact X.iret dX12_plainMeans_11 rfl (Nat.le_of_ble_eq_true rfl) (Nat.le_of_ble_eq_true rfl) e3
noncomputable def F_X12_meansActs (G : Gx) (h : Hp) (nx : Nat) (a0 : Nat) (a1 : Int32) : Rz Int32 :=
gfI h a0 [12] 31 (fun v1 =>
if v1 = (nI 1) then
ck h a0 [12] (fun _ =>
cl (F_X12_runs G h nx a0 (nI 11)) (fun _ h14 n15 =>
ck h14 a0 [12] (fun _ =>
cl (F_X12_plainMeans G h14 n15 a0 ((a1 * (nI 3)))) (fun r16 h17 n18 =>
some (r16, h17, n18)))))
else
gfI h a0 [12] 31 (fun v2 =>
if v2 = (nI 6) then
ck h a0 [12] (fun _ =>
cl (F_X12_runs G h nx a0 (nI 61)) (fun _ h7 n8 =>
ck h7 a0 [12] (fun _ =>
cl (F_X12_plainMeans G h7 n8 a0 a1) (fun r9 h10 n11 =>
gfI h10 a0 [12] 33 (fun v12 =>
some (((r9 + v12)), h10, n11))))))
else
ck h a0 [12] (fun _ =>
cl (F_X12_plainMeans G h nx a0 a1) (fun r3 h4 n5 =>
some (r3, h4, n5)))))
set_option maxRecDepth 100000 in
set_option maxHeartbeats 4000000 in
theorem k_X12_meansActs {G : Gx} {d : Nat} {h : Hp} {nx : Nat} {a0 : Nat} {a1 : Int32} {v' : Int32} {h' : Hp} {n' : Nat} (e : F_X12_meansActs G h nx a0 a1 = some (v', h', n')) : Ct G mX12_meansActs (d + 2) (Same (some (.int v')) h' n') [.ref a0, .int a1] h nx := by
  unfold F_X12_meansActs at e
  refine Ct.of (ls := [some (.ref a0), some (.int a1)]) (by decide +kernel) rfl (Nat.le_of_ble_eq_true rfl) rfl ?_
  refine Ok.aload_n dX12_meansActs_0 rfl ?_
  refine X.rgfI fl_RX12_304 dX12_meansActs_1 e (fun v1 e1 => ?_)
  clear e
  refine Ok.iconstV (v := (nI 1)) dX12_meansActs_4 (by decide +kernel) ?_
  refine X.icmp_ne (tgt := 22) dX12_meansActs_5 (by decide) e1 (fun e2 => ?_) (fun e2 => ?_)
  · clear e1
    refine Ok.aload_n dX12_meansActs_22 rfl ?_
    refine X.rgfI fl_RX12_304 dX12_meansActs_23 e2 (fun v2 e3 => ?_)
    clear e2
    refine Ok.bipushV (v := (nI 6)) dX12_meansActs_26 (by decide +kernel) ?_
    refine X.icmp_ne (tgt := 48) dX12_meansActs_28 (by decide) e3 (fun e4 => ?_) (fun e4 => ?_)
    · clear e3
      refine Ok.aload_n dX12_meansActs_48 rfl ?_
      refine Ok.iload_n dX12_meansActs_49 rfl ?_
      refine X.rck e4 (fun c fs hb hc e5 => ?_)
      clear e4
      obtain rfl := List.mem_singleton.mp hc
      refine X.callV (My := mX12_plainMeans) (n := 1) (As := [.int a1]) (T := (fun v => (some (.int v)))) (stk' := (fun v => [.int v])) (rest := []) (kc' := 0) (ks' := 0) dX12_meansActs_50 e5 (fun v h n e => k_X12_plainMeans (d := d + 0) e) hb rfl wd1494 wd80 wd1493 wd70 wd1491 (by decide +kernel) rfl (by decide) rfl rfl (Nat.le_of_ble_eq_true rfl) (Nat.le_of_ble_eq_true rfl) (Nat.le_of_ble_eq_true rfl) rfl rfl (fun _ => rfl) (fun r3 h4 n5 e6 => ?_)
      clear e5
      exact X.iret dX12_meansActs_53 rfl (Nat.le_of_ble_eq_true rfl) (Nat.le_of_ble_eq_true rfl) e6
    · clear e3
      refine Ok.aload_n dX12_meansActs_31 rfl ?_
      refine Ok.bipushV (v := (nI 61)) dX12_meansActs_32 (by decide +kernel) ?_
      refine X.rck e4 (fun c fs hb hc e5 => ?_)
      clear e4
      obtain rfl := List.mem_singleton.mp hc
      refine X.callV (My := mX12_runs) (n := 1) (As := [.int (nI 61)]) (T := (fun v => none)) (stk' := (fun _ => [])) (rest := []) (kc' := 0) (ks' := 0) dX12_meansActs_34 e5 (fun v h n e => k_X12_runs (d := d + 1) e) hb rfl wd1490 wd80 wd1489 wd69 wd1487 (by decide +kernel) rfl (by decide) rfl rfl (Nat.le_of_ble_eq_true rfl) (Nat.le_of_ble_eq_true rfl) (Nat.le_of_ble_eq_true rfl) rfl rfl (fun _ => rfl) (fun _ h7 n8 e6 => ?_)
      clear e5
      refine Ok.aload_n dX12_meansActs_37 rfl ?_
      refine Ok.iload_n dX12_meansActs_38 rfl ?_
      refine X.rck e6 (fun c fs hb hc e7 => ?_)
      clear e6
      obtain rfl := List.mem_singleton.mp hc
      refine X.callV (My := mX12_plainMeans) (n := 1) (As := [.int a1]) (T := (fun v => (some (.int v)))) (stk' := (fun v => [.int v])) (rest := []) (kc' := 0) (ks' := 0) dX12_meansActs_39 e7 (fun v h n e => k_X12_plainMeans (d := d + 0) e) hb rfl wd1494 wd80 wd1493 wd70 wd1491 (by decide +kernel) rfl (by decide) rfl rfl (Nat.le_of_ble_eq_true rfl) (Nat.le_of_ble_eq_true rfl) (Nat.le_of_ble_eq_true rfl) rfl rfl (fun _ => rfl) (fun r9 h10 n11 e8 => ?_)
      clear e7
      refine Ok.aload_n dX12_meansActs_42 rfl ?_
      refine X.rgfI fl_RX12_310 dX12_meansActs_43 e8 (fun v12 e9 => ?_)
      clear e8
      refine Ok.iadd dX12_meansActs_46 ?_
      exact X.iret dX12_meansActs_47 rfl (Nat.le_of_ble_eq_true rfl) (Nat.le_of_ble_eq_true rfl) e9
  · clear e1
    refine Ok.aload_n dX12_meansActs_8 rfl ?_
    refine Ok.bipushV (v := (nI 11)) dX12_meansActs_9 (by decide +kernel) ?_
    refine X.rck e2 (fun c fs hb hc e3 => ?_)
    clear e2
    obtain rfl := List.mem_singleton.mp hc
    refine X.callV (My := mX12_runs) (n := 1) (As := [.int (nI 11)]) (T := (fun v => none)) (stk' := (fun _ => [])) (rest := []) (kc' := 0) (ks' := 0) dX12_meansActs_11 e3 (fun v h n e => k_X12_runs (d := d + 1) e) hb rfl wd1490 wd80 wd1489 wd69 wd1487 (by decide +kernel) rfl (by decide) rfl rfl (Nat.le_of_ble_eq_true rfl) (Nat.le_of_ble_eq_true rfl) (Nat.le_of_ble_eq_true rfl) rfl rfl (fun _ => rfl) (fun _ h14 n15 e4 => ?_)
    clear e3
    refine Ok.aload_n dX12_meansActs_14 rfl ?_
    refine Ok.iload_n dX12_meansActs_15 rfl ?_
    refine Ok.iconstV (v := (nI 3)) dX12_meansActs_16 (by decide +kernel) ?_
    refine Ok.imul dX12_meansActs_17 ?_
    refine X.rck e4 (fun c fs hb hc e5 => ?_)
    clear e4
    obtain rfl := List.mem_singleton.mp hc
    refine X.callV (My := mX12_plainMeans) (n := 1) (As := [.int ((a1 * (nI 3)))]) (T := (fun v => (some (.int v)))) (stk' := (fun v => [.int v])) (rest := []) (kc' := 0) (ks' := 0) dX12_meansActs_18 e5 (fun v h n e => k_X12_plainMeans (d := d + 0) e) hb rfl wd1494 wd80 wd1493 wd70 wd1491 (by decide +kernel) rfl (by decide) rfl rfl (Nat.le_of_ble_eq_true rfl) (Nat.le_of_ble_eq_true rfl) (Nat.le_of_ble_eq_true rfl) rfl rfl (fun _ => rfl) (fun r16 h17 n18 e6 => ?_)
    clear e5
    exact X.iret dX12_meansActs_21 rfl (Nat.le_of_ble_eq_true rfl) (Nat.le_of_ble_eq_true rfl) e6
noncomputable def F_X12_plainRows (G : Gx) (h : Hp) (nx : Nat) (a0 : Nat) (a1 : Int32) : Rz Int32 :=
ck h a0 [12] (fun _ =>
cl (F_X12_runs G h nx a0 (nI 2)) (fun _ h2 n3 =>
ck h2 a0 [12] (fun _ =>
cl (F_X12_meansActs G h2 n3 a0 a1) (fun r4 h5 n6 =>
gfI h5 a0 [12] 33 (fun v7 =>
some (((r4 - v7)), h5, n6))))))
set_option maxRecDepth 100000 in
set_option maxHeartbeats 4000000 in
theorem k_X12_plainRows {G : Gx} {d : Nat} {h : Hp} {nx : Nat} {a0 : Nat} {a1 : Int32} {v' : Int32} {h' : Hp} {n' : Nat} (e : F_X12_plainRows G h nx a0 a1 = some (v', h', n')) : Ct G mX12_plainRows (d + 3) (Same (some (.int v')) h' n') [.ref a0, .int a1] h nx := by
  unfold F_X12_plainRows at e
  refine Ct.of (ls := [some (.ref a0), some (.int a1)]) (by decide +kernel) rfl (Nat.le_of_ble_eq_true rfl) rfl ?_
  refine Ok.aload_n dX12_plainRows_0 rfl ?_
  refine Ok.iconstV (v := (nI 2)) dX12_plainRows_1 (by decide +kernel) ?_
  refine X.rck e (fun c fs hb hc e1 => ?_)
  clear e
  obtain rfl := List.mem_singleton.mp hc
  refine X.callV (My := mX12_runs) (n := 1) (As := [.int (nI 2)]) (T := (fun v => none)) (stk' := (fun _ => [])) (rest := []) (kc' := 0) (ks' := 0) dX12_plainRows_2 e1 (fun v h n e => k_X12_runs (d := d + 2) e) hb rfl wd1490 wd80 wd1489 wd69 wd1487 (by decide +kernel) rfl (by decide) rfl rfl (Nat.le_of_ble_eq_true rfl) (Nat.le_of_ble_eq_true rfl) (Nat.le_of_ble_eq_true rfl) rfl rfl (fun _ => rfl) (fun _ h2 n3 e2 => ?_)
  clear e1
  refine Ok.aload_n dX12_plainRows_5 rfl ?_
  refine Ok.iload_n dX12_plainRows_6 rfl ?_
  refine X.rck e2 (fun c fs hb hc e3 => ?_)
  clear e2
  obtain rfl := List.mem_singleton.mp hc
  refine X.callV (My := mX12_meansActs) (n := 1) (As := [.int a1]) (T := (fun v => (some (.int v)))) (stk' := (fun v => [.int v])) (rest := []) (kc' := 0) (ks' := 0) dX12_plainRows_7 e3 (fun v h n e => k_X12_meansActs (d := d + 0) e) hb rfl wd1486 wd80 wd1485 wd68 wd1483 (by decide +kernel) rfl (by decide) rfl rfl (Nat.le_of_ble_eq_true rfl) (Nat.le_of_ble_eq_true rfl) (Nat.le_of_ble_eq_true rfl) rfl rfl (fun _ => rfl) (fun r4 h5 n6 e4 => ?_)
  clear e3
  refine Ok.aload_n dX12_plainRows_10 rfl ?_
  refine X.rgfI fl_RX12_310 dX12_plainRows_11 e4 (fun v7 e5 => ?_)
  clear e4
  refine Ok.isub dX12_plainRows_14 ?_
  exact X.iret dX12_plainRows_15 rfl (Nat.le_of_ble_eq_true rfl) (Nat.le_of_ble_eq_true rfl) e5
noncomputable def F_X12_rowsActs (G : Gx) (h : Hp) (nx : Nat) (a0 : Nat) (a1 : Int32) : Rz Int32 :=
gfI h a0 [12] 31 (fun v1 =>
if v1 = (nI 5) then
ck h a0 [12] (fun _ =>
cl (F_X12_runs G h nx a0 (nI 51)) (fun _ h16 n17 =>
ck h16 a0 [12] (fun _ =>
cl (F_X12_plainRows G h16 n17 a0 a1) (fun r18 h19 n20 =>
gfI h19 a0 [12] 32 (fun v21 =>
some (((r18 ^^^ v21)), h19, n20))))))
else
gfI h a0 [12] 31 (fun v2 =>
cl (F_X12_isUnder G h nx v2 (nI 2)) (fun r3 h4 n5 =>
if r3 = 0 then
ck h4 a0 [12] (fun _ =>
cl (F_X12_plainRows G h4 n5 a0 a1) (fun r6 h7 n8 =>
some (r6, h7, n8)))
else
ck h4 a0 [12] (fun _ =>
cl (F_X12_runs G h4 n5 a0 (nI 21)) (fun _ h10 n11 =>
ck h10 a0 [12] (fun _ =>
cl (F_X12_plainRows G h10 n11 a0 a1) (fun r12 h13 n14 =>
some (((r12 ^^^ (nI 5))), h13, n14))))))))
set_option maxRecDepth 100000 in
set_option maxHeartbeats 4000000 in
theorem k_X12_rowsActs {G : Gx} {d : Nat} {h : Hp} {nx : Nat} {a0 : Nat} {a1 : Int32} {v' : Int32} {h' : Hp} {n' : Nat} (e : F_X12_rowsActs G h nx a0 a1 = some (v', h', n')) : Ct G mX12_rowsActs (d + 4) (Same (some (.int v')) h' n') [.ref a0, .int a1] h nx := by
  unfold F_X12_rowsActs at e
  refine Ct.of (ls := [some (.ref a0), some (.int a1)]) (by decide +kernel) rfl (Nat.le_of_ble_eq_true rfl) rfl ?_
  refine Ok.aload_n dX12_rowsActs_0 rfl ?_
  refine X.rgfI fl_RX12_304 dX12_rowsActs_1 e (fun v1 e1 => ?_)
  clear e
  refine Ok.iconstV (v := (nI 5)) dX12_rowsActs_4 (by decide +kernel) ?_
  refine X.icmp_ne (tgt := 25) dX12_rowsActs_5 (by decide) e1 (fun e2 => ?_) (fun e2 => ?_)
  · clear e1
    refine Ok.aload_n dX12_rowsActs_25 rfl ?_
    refine X.rgfI fl_RX12_304 dX12_rowsActs_26 e2 (fun v2 e3 => ?_)
    clear e2
    refine Ok.iconstV (v := (nI 2)) dX12_rowsActs_29 (by decide +kernel) ?_
    refine X.callS (My := mX12_isUnder) (n := 2) (As := [.int v2, .int (nI 2)]) (T := (fun v => (some (.int v)))) (stk' := (fun v => [.int v])) (rest := []) (kc' := 0) (ks' := 0) dX12_rowsActs_30 e3 (fun v h n e => k_X12_isUnder (d := d + 3) e) wd1505 wd80 wd1504 wd1503 (by decide +kernel) rfl (by decide) rfl rfl (Nat.le_of_ble_eq_true rfl) (Nat.le_of_ble_eq_true rfl) (Nat.le_of_ble_eq_true rfl) rfl rfl (fun _ => rfl) (fun r3 h4 n5 e4 => ?_)
    clear e3
    refine X.if_eq (tgt := 50) dX12_rowsActs_33 (by decide) e4 (fun e5 => ?_) (fun e5 => ?_)
    · clear e4
      refine Ok.aload_n dX12_rowsActs_50 rfl ?_
      refine Ok.iload_n dX12_rowsActs_51 rfl ?_
      refine X.rck e5 (fun c fs hb hc e6 => ?_)
      clear e5
      obtain rfl := List.mem_singleton.mp hc
      refine X.callV (My := mX12_plainRows) (n := 1) (As := [.int a1]) (T := (fun v => (some (.int v)))) (stk' := (fun v => [.int v])) (rest := []) (kc' := 0) (ks' := 0) dX12_rowsActs_52 e6 (fun v h n e => k_X12_plainRows (d := d + 0) e) hb rfl wd1502 wd80 wd1501 wd72 wd1499 (by decide +kernel) rfl (by decide) rfl rfl (Nat.le_of_ble_eq_true rfl) (Nat.le_of_ble_eq_true rfl) (Nat.le_of_ble_eq_true rfl) rfl rfl (fun _ => rfl) (fun r6 h7 n8 e7 => ?_)
      clear e6
      exact X.iret dX12_rowsActs_55 rfl (Nat.le_of_ble_eq_true rfl) (Nat.le_of_ble_eq_true rfl) e7
    · clear e4
      refine Ok.aload_n dX12_rowsActs_36 rfl ?_
      refine Ok.bipushV (v := (nI 21)) dX12_rowsActs_37 (by decide +kernel) ?_
      refine X.rck e5 (fun c fs hb hc e6 => ?_)
      clear e5
      obtain rfl := List.mem_singleton.mp hc
      refine X.callV (My := mX12_runs) (n := 1) (As := [.int (nI 21)]) (T := (fun v => none)) (stk' := (fun _ => [])) (rest := []) (kc' := 0) (ks' := 0) dX12_rowsActs_39 e6 (fun v h n e => k_X12_runs (d := d + 3) e) hb rfl wd1490 wd80 wd1489 wd69 wd1487 (by decide +kernel) rfl (by decide) rfl rfl (Nat.le_of_ble_eq_true rfl) (Nat.le_of_ble_eq_true rfl) (Nat.le_of_ble_eq_true rfl) rfl rfl (fun _ => rfl) (fun _ h10 n11 e7 => ?_)
      clear e6
      refine Ok.aload_n dX12_rowsActs_42 rfl ?_
      refine Ok.iload_n dX12_rowsActs_43 rfl ?_
      refine X.rck e7 (fun c fs hb hc e8 => ?_)
      clear e7
      obtain rfl := List.mem_singleton.mp hc
      refine X.callV (My := mX12_plainRows) (n := 1) (As := [.int a1]) (T := (fun v => (some (.int v)))) (stk' := (fun v => [.int v])) (rest := []) (kc' := 0) (ks' := 0) dX12_rowsActs_44 e8 (fun v h n e => k_X12_plainRows (d := d + 0) e) hb rfl wd1502 wd80 wd1501 wd72 wd1499 (by decide +kernel) rfl (by decide) rfl rfl (Nat.le_of_ble_eq_true rfl) (Nat.le_of_ble_eq_true rfl) (Nat.le_of_ble_eq_true rfl) rfl rfl (fun _ => rfl) (fun r12 h13 n14 e9 => ?_)
      clear e8
      refine Ok.iconstV (v := (nI 5)) dX12_rowsActs_47 (by decide +kernel) ?_
      refine Ok.ixor dX12_rowsActs_48 ?_
      exact X.iret dX12_rowsActs_49 rfl (Nat.le_of_ble_eq_true rfl) (Nat.le_of_ble_eq_true rfl) e9
  · clear e1
    refine Ok.aload_n dX12_rowsActs_8 rfl ?_
    refine Ok.bipushV (v := (nI 51)) dX12_rowsActs_9 (by decide +kernel) ?_
    refine X.rck e2 (fun c fs hb hc e3 => ?_)
    clear e2
    obtain rfl := List.mem_singleton.mp hc
    refine X.callV (My := mX12_runs) (n := 1) (As := [.int (nI 51)]) (T := (fun v => none)) (stk' := (fun _ => [])) (rest := []) (kc' := 0) (ks' := 0) dX12_rowsActs_11 e3 (fun v h n e => k_X12_runs (d := d + 3) e) hb rfl wd1490 wd80 wd1489 wd69 wd1487 (by decide +kernel) rfl (by decide) rfl rfl (Nat.le_of_ble_eq_true rfl) (Nat.le_of_ble_eq_true rfl) (Nat.le_of_ble_eq_true rfl) rfl rfl (fun _ => rfl) (fun _ h16 n17 e4 => ?_)
    clear e3
    refine Ok.aload_n dX12_rowsActs_14 rfl ?_
    refine Ok.iload_n dX12_rowsActs_15 rfl ?_
    refine X.rck e4 (fun c fs hb hc e5 => ?_)
    clear e4
    obtain rfl := List.mem_singleton.mp hc
    refine X.callV (My := mX12_plainRows) (n := 1) (As := [.int a1]) (T := (fun v => (some (.int v)))) (stk' := (fun v => [.int v])) (rest := []) (kc' := 0) (ks' := 0) dX12_rowsActs_16 e5 (fun v h n e => k_X12_plainRows (d := d + 0) e) hb rfl wd1502 wd80 wd1501 wd72 wd1499 (by decide +kernel) rfl (by decide) rfl rfl (Nat.le_of_ble_eq_true rfl) (Nat.le_of_ble_eq_true rfl) (Nat.le_of_ble_eq_true rfl) rfl rfl (fun _ => rfl) (fun r18 h19 n20 e6 => ?_)
    clear e5
    refine Ok.aload_n dX12_rowsActs_19 rfl ?_
    refine X.rgfI fl_RX12_301 dX12_rowsActs_20 e6 (fun v21 e7 => ?_)
    clear e6
    refine Ok.ixor dX12_rowsActs_23 ?_
    exact X.iret dX12_rowsActs_24 rfl (Nat.le_of_ble_eq_true rfl) (Nat.le_of_ble_eq_true rfl) e7
noncomputable def F_X12_plainEnds (G : Gx) (h : Hp) (nx : Nat) (a0 : Nat) (a1 : Int32) : Rz Int32 :=
ck h a0 [12] (fun _ =>
cl (F_X12_runs G h nx a0 (nI 3)) (fun _ h2 n3 =>
ck h2 a0 [12] (fun _ =>
cl (F_X12_rowsActs G h2 n3 a0 a1) (fun r4 h5 n6 =>
some (((r4 * (nI 2))), h5, n6)))))
set_option maxRecDepth 100000 in
set_option maxHeartbeats 4000000 in
theorem k_X12_plainEnds {G : Gx} {d : Nat} {h : Hp} {nx : Nat} {a0 : Nat} {a1 : Int32} {v' : Int32} {h' : Hp} {n' : Nat} (e : F_X12_plainEnds G h nx a0 a1 = some (v', h', n')) : Ct G mX12_plainEnds (d + 5) (Same (some (.int v')) h' n') [.ref a0, .int a1] h nx := by
  unfold F_X12_plainEnds at e
  refine Ct.of (ls := [some (.ref a0), some (.int a1)]) (by decide +kernel) rfl (Nat.le_of_ble_eq_true rfl) rfl ?_
  refine Ok.aload_n dX12_plainEnds_0 rfl ?_
  refine Ok.iconstV (v := (nI 3)) dX12_plainEnds_1 (by decide +kernel) ?_
  refine X.rck e (fun c fs hb hc e1 => ?_)
  clear e
  obtain rfl := List.mem_singleton.mp hc
  refine X.callV (My := mX12_runs) (n := 1) (As := [.int (nI 3)]) (T := (fun v => none)) (stk' := (fun _ => [])) (rest := []) (kc' := 0) (ks' := 0) dX12_plainEnds_2 e1 (fun v h n e => k_X12_runs (d := d + 4) e) hb rfl wd1490 wd80 wd1489 wd69 wd1487 (by decide +kernel) rfl (by decide) rfl rfl (Nat.le_of_ble_eq_true rfl) (Nat.le_of_ble_eq_true rfl) (Nat.le_of_ble_eq_true rfl) rfl rfl (fun _ => rfl) (fun _ h2 n3 e2 => ?_)
  clear e1
  refine Ok.aload_n dX12_plainEnds_5 rfl ?_
  refine Ok.iload_n dX12_plainEnds_6 rfl ?_
  refine X.rck e2 (fun c fs hb hc e3 => ?_)
  clear e2
  obtain rfl := List.mem_singleton.mp hc
  refine X.callV (My := mX12_rowsActs) (n := 1) (As := [.int a1]) (T := (fun v => (some (.int v)))) (stk' := (fun v => [.int v])) (rest := []) (kc' := 0) (ks' := 0) dX12_plainEnds_7 e3 (fun v h n e => k_X12_rowsActs (d := d + 0) e) hb rfl wd1498 wd80 wd1497 wd71 wd1495 (by decide +kernel) rfl (by decide) rfl rfl (Nat.le_of_ble_eq_true rfl) (Nat.le_of_ble_eq_true rfl) (Nat.le_of_ble_eq_true rfl) rfl rfl (fun _ => rfl) (fun r4 h5 n6 e4 => ?_)
  clear e3
  refine Ok.iconstV (v := (nI 2)) dX12_plainEnds_10 (by decide +kernel) ?_
  refine Ok.imul dX12_plainEnds_11 ?_
  exact X.iret dX12_plainEnds_12 rfl (Nat.le_of_ble_eq_true rfl) (Nat.le_of_ble_eq_true rfl) e4
noncomputable def F_X12_endsActs (G : Gx) (h : Hp) (nx : Nat) (a0 : Nat) (a1 : Int32) : Rz Int32 :=
gfI h a0 [12] 31 (fun v1 =>
if v1 = (nI 4) then
ck h a0 [12] (fun _ =>
cl (F_X12_runs G h nx a0 (nI 41)) (fun _ h16 n17 =>
ck h16 a0 [12] (fun _ =>
cl (F_X12_plainEnds G h16 n17 a0 ((a1 + (nI 1)))) (fun r18 h19 n20 =>
ck h19 a0 [12] (fun _ =>
cl (F_X12_meansActs G h19 n20 a0 (nI 2)) (fun r21 h22 n23 =>
some (((r18 + r21)), h22, n23)))))))
else
gfI h a0 [12] 31 (fun v2 =>
cl (F_X12_isUnder G h nx v2 (nI 3)) (fun r3 h4 n5 =>
if r3 = 0 then
ck h4 a0 [12] (fun _ =>
cl (F_X12_plainEnds G h4 n5 a0 a1) (fun r6 h7 n8 =>
some (r6, h7, n8)))
else
ck h4 a0 [12] (fun _ =>
cl (F_X12_runs G h4 n5 a0 (nI 31)) (fun _ h10 n11 =>
ck h10 a0 [12] (fun _ =>
cl (F_X12_plainEnds G h10 n11 a0 a1) (fun r12 h13 n14 =>
some (((-r12)), h13, n14))))))))
set_option maxRecDepth 100000 in
set_option maxHeartbeats 4000000 in
theorem k_X12_endsActs {G : Gx} {d : Nat} {h : Hp} {nx : Nat} {a0 : Nat} {a1 : Int32} {v' : Int32} {h' : Hp} {n' : Nat} (e : F_X12_endsActs G h nx a0 a1 = some (v', h', n')) : Ct G mX12_endsActs (d + 6) (Same (some (.int v')) h' n') [.ref a0, .int a1] h nx := by
  unfold F_X12_endsActs at e
  refine Ct.of (ls := [some (.ref a0), some (.int a1), none]) (by decide +kernel) rfl (Nat.le_of_ble_eq_true rfl) rfl ?_
  refine Ok.aload_n dX12_endsActs_0 rfl ?_
  refine X.rgfI fl_RX12_304 dX12_endsActs_1 e (fun v1 e1 => ?_)
  clear e
  refine Ok.iconstV (v := (nI 4)) dX12_endsActs_4 (by decide +kernel) ?_
  refine X.icmp_ne (tgt := 30) dX12_endsActs_5 (by decide) e1 (fun e2 => ?_) (fun e2 => ?_)
  · clear e1
    refine Ok.aload_n dX12_endsActs_30 rfl ?_
    refine X.rgfI fl_RX12_304 dX12_endsActs_31 e2 (fun v2 e3 => ?_)
    clear e2
    refine Ok.iconstV (v := (nI 3)) dX12_endsActs_34 (by decide +kernel) ?_
    refine X.callS (My := mX12_isUnder) (n := 2) (As := [.int v2, .int (nI 3)]) (T := (fun v => (some (.int v)))) (stk' := (fun v => [.int v])) (rest := []) (kc' := 0) (ks' := 0) dX12_endsActs_35 e3 (fun v h n e => k_X12_isUnder (d := d + 5) e) wd1505 wd80 wd1504 wd1503 (by decide +kernel) rfl (by decide) rfl rfl (Nat.le_of_ble_eq_true rfl) (Nat.le_of_ble_eq_true rfl) (Nat.le_of_ble_eq_true rfl) rfl rfl (fun _ => rfl) (fun r3 h4 n5 e4 => ?_)
    clear e3
    refine X.if_eq (tgt := 54) dX12_endsActs_38 (by decide) e4 (fun e5 => ?_) (fun e5 => ?_)
    · clear e4
      refine Ok.aload_n dX12_endsActs_54 rfl ?_
      refine Ok.iload_n dX12_endsActs_55 rfl ?_
      refine X.rck e5 (fun c fs hb hc e6 => ?_)
      clear e5
      obtain rfl := List.mem_singleton.mp hc
      refine X.callV (My := mX12_plainEnds) (n := 1) (As := [.int a1]) (T := (fun v => (some (.int v)))) (stk' := (fun v => [.int v])) (rest := []) (kc' := 0) (ks' := 0) dX12_endsActs_56 e6 (fun v h n e => k_X12_plainEnds (d := d + 0) e) hb rfl wd1513 wd80 wd1512 wd74 wd1510 (by decide +kernel) rfl (by decide) rfl rfl (Nat.le_of_ble_eq_true rfl) (Nat.le_of_ble_eq_true rfl) (Nat.le_of_ble_eq_true rfl) rfl rfl (fun _ => rfl) (fun r6 h7 n8 e7 => ?_)
      clear e6
      exact X.iret dX12_endsActs_59 rfl (Nat.le_of_ble_eq_true rfl) (Nat.le_of_ble_eq_true rfl) e7
    · clear e4
      refine Ok.aload_n dX12_endsActs_41 rfl ?_
      refine Ok.bipushV (v := (nI 31)) dX12_endsActs_42 (by decide +kernel) ?_
      refine X.rck e5 (fun c fs hb hc e6 => ?_)
      clear e5
      obtain rfl := List.mem_singleton.mp hc
      refine X.callV (My := mX12_runs) (n := 1) (As := [.int (nI 31)]) (T := (fun v => none)) (stk' := (fun _ => [])) (rest := []) (kc' := 0) (ks' := 0) dX12_endsActs_44 e6 (fun v h n e => k_X12_runs (d := d + 5) e) hb rfl wd1490 wd80 wd1489 wd69 wd1487 (by decide +kernel) rfl (by decide) rfl rfl (Nat.le_of_ble_eq_true rfl) (Nat.le_of_ble_eq_true rfl) (Nat.le_of_ble_eq_true rfl) rfl rfl (fun _ => rfl) (fun _ h10 n11 e7 => ?_)
      clear e6
      refine Ok.aload_n dX12_endsActs_47 rfl ?_
      refine Ok.iload_n dX12_endsActs_48 rfl ?_
      refine X.rck e7 (fun c fs hb hc e8 => ?_)
      clear e7
      obtain rfl := List.mem_singleton.mp hc
      refine X.callV (My := mX12_plainEnds) (n := 1) (As := [.int a1]) (T := (fun v => (some (.int v)))) (stk' := (fun v => [.int v])) (rest := []) (kc' := 0) (ks' := 0) dX12_endsActs_49 e8 (fun v h n e => k_X12_plainEnds (d := d + 0) e) hb rfl wd1513 wd80 wd1512 wd74 wd1510 (by decide +kernel) rfl (by decide) rfl rfl (Nat.le_of_ble_eq_true rfl) (Nat.le_of_ble_eq_true rfl) (Nat.le_of_ble_eq_true rfl) rfl rfl (fun _ => rfl) (fun r12 h13 n14 e9 => ?_)
      clear e8
      refine Ok.ineg dX12_endsActs_52 ?_
      exact X.iret dX12_endsActs_53 rfl (Nat.le_of_ble_eq_true rfl) (Nat.le_of_ble_eq_true rfl) e9
  · clear e1
    refine Ok.aload_n dX12_endsActs_8 rfl ?_
    refine Ok.bipushV (v := (nI 41)) dX12_endsActs_9 (by decide +kernel) ?_
    refine X.rck e2 (fun c fs hb hc e3 => ?_)
    clear e2
    obtain rfl := List.mem_singleton.mp hc
    refine X.callV (My := mX12_runs) (n := 1) (As := [.int (nI 41)]) (T := (fun v => none)) (stk' := (fun _ => [])) (rest := []) (kc' := 0) (ks' := 0) dX12_endsActs_11 e3 (fun v h n e => k_X12_runs (d := d + 5) e) hb rfl wd1490 wd80 wd1489 wd69 wd1487 (by decide +kernel) rfl (by decide) rfl rfl (Nat.le_of_ble_eq_true rfl) (Nat.le_of_ble_eq_true rfl) (Nat.le_of_ble_eq_true rfl) rfl rfl (fun _ => rfl) (fun _ h16 n17 e4 => ?_)
    clear e3
    refine Ok.aload_n dX12_endsActs_14 rfl ?_
    refine Ok.iload_n dX12_endsActs_15 rfl ?_
    refine Ok.iconstV (v := (nI 1)) dX12_endsActs_16 (by decide +kernel) ?_
    refine Ok.iadd dX12_endsActs_17 ?_
    refine X.rck e4 (fun c fs hb hc e5 => ?_)
    clear e4
    obtain rfl := List.mem_singleton.mp hc
    refine X.callV (My := mX12_plainEnds) (n := 1) (As := [.int ((a1 + (nI 1)))]) (T := (fun v => (some (.int v)))) (stk' := (fun v => [.int v])) (rest := []) (kc' := 0) (ks' := 0) dX12_endsActs_18 e5 (fun v h n e => k_X12_plainEnds (d := d + 0) e) hb rfl wd1513 wd80 wd1512 wd74 wd1510 (by decide +kernel) rfl (by decide) rfl rfl (Nat.le_of_ble_eq_true rfl) (Nat.le_of_ble_eq_true rfl) (Nat.le_of_ble_eq_true rfl) rfl rfl (fun _ => rfl) (fun r18 h19 n20 e6 => ?_)
    clear e5
    refine XL.istore_n dX12_endsActs_21 (by decide) (L := [some (.ref a0), some (.int a1), some (.int r18)]) rfl ?_
    refine Ok.iload_n dX12_endsActs_22 rfl ?_
    refine Ok.aload_n dX12_endsActs_23 rfl ?_
    refine Ok.iconstV (v := (nI 2)) dX12_endsActs_24 (by decide +kernel) ?_
    refine X.rck e6 (fun c fs hb hc e7 => ?_)
    clear e6
    obtain rfl := List.mem_singleton.mp hc
    refine X.callV (My := mX12_meansActs) (n := 1) (As := [.int (nI 2)]) (T := (fun v => (some (.int v)))) (stk' := (fun v => [.int v, .int r18])) (rest := [.int r18]) (kc' := 0) (ks' := 0) dX12_endsActs_25 e7 (fun v h n e => k_X12_meansActs (d := d + 3) e) hb rfl wd1486 wd80 wd1485 wd68 wd1483 (by decide +kernel) rfl (by decide) rfl rfl (Nat.le_of_ble_eq_true rfl) (Nat.le_of_ble_eq_true rfl) (Nat.le_of_ble_eq_true rfl) rfl rfl (fun _ => rfl) (fun r21 h22 n23 e8 => ?_)
    clear e7
    refine Ok.iadd dX12_endsActs_28 ?_
    exact X.iret dX12_endsActs_29 rfl (Nat.le_of_ble_eq_true rfl) (Nat.le_of_ble_eq_true rfl) e8
noncomputable def F_X12_act_22 (G : Gx) (h : Hp) (nx : Nat) : Rz Int32 :=
some ((nI 0), h, nx)
set_option maxRecDepth 100000 in
set_option maxHeartbeats 4000000 in
theorem k_X12_act_22 {G : Gx} {d : Nat} {v' : Int32} {h' : Hp} {n' : Nat} {h : Hp} {nx : Nat} (e : F_X12_act_22 G h nx = some (v', h', n')) : Ok G mX12_act (d + 7) (Same (some (.int v')) h' n') 22 [none, none, none, none] [] h nx 0 0 := by
  unfold F_X12_act_22 at e
  refine Ok.iconstV (v := (nI 0)) dX12_act_22 (by decide +kernel) ?_
  exact X.iret dX12_act_23 rfl (Nat.le_of_ble_eq_true rfl) (Nat.le_of_ble_eq_true rfl) e
noncomputable def F_X12_act_87 (G : Gx) (h : Hp) (nx : Nat) (s0 : Int32) : Rz Int32 :=
some (s0, h, nx)
set_option maxRecDepth 100000 in
set_option maxHeartbeats 4000000 in
theorem k_X12_act_87 {G : Gx} {d : Nat} {v' : Int32} {h' : Hp} {n' : Nat} {h : Hp} {nx : Nat} {s0 : Int32} (e : F_X12_act_87 G h nx s0 = some (v', h', n')) : Ok G mX12_act (d + 7) (Same (some (.int v')) h' n') 87 [none, none, none, none] [.int s0] h nx 0 0 := by
  unfold F_X12_act_87 at e
  exact X.iret dX12_act_87 rfl (Nat.le_of_ble_eq_true rfl) (Nat.le_of_ble_eq_true rfl) e
noncomputable def F_X12_act (G : Gx) (h : Hp) (nx : Nat) (a0 : Nat) (a1 : Int32) (a2 : Int32) (a3 : Int32) : Rz Int32 :=
pfV h a0 [12] 30 (.int (nI 0)) (fun h1 =>
ck h1 a0 [12] (fun _ =>
cl (F_X12_isPlan G h1 nx a0 a1) (fun r2 h3 n4 =>
if r2 = 0 then
(F_X12_act_22 G h3 n4)
else
cl (F_X12_in G h3 n4 a2 (nI 0) (nI 2)) (fun r5 h6 n7 =>
if r5 = 0 then
(F_X12_act_22 G h6 n7)
else
gfR h6 a0 [12] 1 (fun v8 =>
nn v8 (fun p9 =>
alI (g_c G 0) h6 p9 (((nI 1070) + a1)) (fun v10 =>
pfV h6 a0 [12] 31 (.int v10) (fun h11 =>
pfV h11 a0 [12] 32 (.int a1) (fun h12 =>
gfR h12 a0 [12] 1 (fun v13 =>
nn v13 (fun p14 =>
alI (g_c G 0) h12 p14 (((nI 1082) + a1)) (fun v15 =>
pfV h12 a0 [12] 33 (.int v15) (fun h16 =>
if a2 = 0 then
ck h16 a0 [12] (fun _ =>
cl (F_X12_meansActs G h16 n7 a0 a3) (fun r23 h24 n25 =>
(F_X12_act_87 G h24 n25 r23)))
else
if a2 = (nI 1) then
ck h16 a0 [12] (fun _ =>
cl (F_X12_rowsActs G h16 n7 a0 a3) (fun r20 h21 n22 =>
(F_X12_act_87 G h21 n22 r20)))
else
ck h16 a0 [12] (fun _ =>
cl (F_X12_endsActs G h16 n7 a0 a3) (fun r17 h18 n19 =>
(F_X12_act_87 G h18 n19 r17))))))))))))))))
set_option maxRecDepth 100000 in
set_option maxHeartbeats 4000000 in
theorem k_X12_act {G : Gx} {d : Nat} {h : Hp} {nx : Nat} {a0 : Nat} {a1 : Int32} {a2 : Int32} {a3 : Int32} {v' : Int32} {h' : Hp} {n' : Nat} (e : F_X12_act G h nx a0 a1 a2 a3 = some (v', h', n')) : Ct G mX12_act (d + 7) (Same (some (.int v')) h' n') [.ref a0, .int a1, .int a2, .int a3] h nx := by
  unfold F_X12_act at e
  refine Ct.of (ls := [some (.ref a0), some (.int a1), some (.int a2), some (.int a3)]) (by decide +kernel) rfl (Nat.le_of_ble_eq_true rfl) rfl ?_
  refine Ok.aload_n dX12_act_0 rfl ?_
  refine Ok.iconstV (v := (nI 0)) dX12_act_1 (by decide +kernel) ?_
  refine X.rpfV (v := (.int (nI 0))) fp_RX12_295 rfl rfl dX12_act_2 e (fun h1 e1 => ?_)
  clear e
  refine Ok.aload_n dX12_act_5 rfl ?_
  refine Ok.iload_n dX12_act_6 rfl ?_
  refine X.rck e1 (fun c fs hb hc e2 => ?_)
  clear e1
  obtain rfl := List.mem_singleton.mp hc
  refine X.callV (My := mX12_isPlan) (n := 1) (As := [.int a1]) (T := (fun v => (some (.int v)))) (stk' := (fun v => [.int v])) (rest := []) (kc' := 0) (ks' := 0) dX12_act_7 e2 (fun v h n e => k_X12_isPlan (d := d + 5) e) hb rfl wd1364 wd80 wd1363 wd50 wd1361 (by decide +kernel) rfl (by decide) rfl rfl (Nat.le_of_ble_eq_true rfl) (Nat.le_of_ble_eq_true rfl) (Nat.le_of_ble_eq_true rfl) rfl rfl (fun _ => rfl) (fun r2 h3 n4 e3 => ?_)
  clear e2
  refine X.if_eq (tgt := 22) dX12_act_10 (by decide) e3 (fun e4 => ?_) (fun e4 => ?_)
  · clear e3
    exact Ok.weakL (k_X12_act_22 (d := d) e4) trivial
  · clear e3
    refine Ok.iload_n dX12_act_13 rfl ?_
    refine Ok.iconstV (v := (nI 0)) dX12_act_14 (by decide +kernel) ?_
    refine Ok.iconstV (v := (nI 2)) dX12_act_15 (by decide +kernel) ?_
    refine X.callS (My := mX12_in) (n := 3) (As := [.int a2, .int (nI 0), .int (nI 2)]) (T := (fun v => (some (.int v)))) (stk' := (fun v => [.int v])) (rest := []) (kc' := 0) (ks' := 0) dX12_act_16 e4 (fun v h n e => k_X12_in (d := d + 6) e) wd1196 wd80 wd1195 wd1194 (by decide +kernel) rfl (by decide) rfl rfl (Nat.le_of_ble_eq_true rfl) (Nat.le_of_ble_eq_true rfl) (Nat.le_of_ble_eq_true rfl) rfl rfl (fun _ => rfl) (fun r5 h6 n7 e5 => ?_)
    clear e4
    refine X.if_ne (tgt := 24) dX12_act_19 (by decide) e5 (fun e6 => ?_) (fun e6 => ?_)
    · clear e5
      refine Ok.aload_n dX12_act_24 rfl ?_
      refine Ok.aload_n dX12_act_25 rfl ?_
      refine X.rgfR fl_RX12_9 dX12_act_26 e6 (fun v8 e7 => ?_)
      clear e6
      refine Ok.sipushV (v := (nI 1070)) dX12_act_29 (by decide +kernel) ?_
      refine Ok.iload_n dX12_act_32 rfl ?_
      refine Ok.iadd dX12_act_33 ?_
      refine X.rnn e7 (fun p9 q e8 => ?_)
      clear e7
      subst q
      refine X.iald dX12_act_34 e8 (fun v10 e9 => ?_)
      clear e8
      refine X.rpfV (v := (.int v10)) fp_RX12_304 rfl rfl dX12_act_35 e9 (fun h11 e10 => ?_)
      clear e9
      refine Ok.aload_n dX12_act_38 rfl ?_
      refine Ok.iload_n dX12_act_39 rfl ?_
      refine X.rpfV (v := (.int a1)) fp_RX12_301 rfl rfl dX12_act_40 e10 (fun h12 e11 => ?_)
      clear e10
      refine Ok.aload_n dX12_act_43 rfl ?_
      refine Ok.aload_n dX12_act_44 rfl ?_
      refine X.rgfR fl_RX12_9 dX12_act_45 e11 (fun v13 e12 => ?_)
      clear e11
      refine Ok.sipushV (v := (nI 1082)) dX12_act_48 (by decide +kernel) ?_
      refine Ok.iload_n dX12_act_51 rfl ?_
      refine Ok.iadd dX12_act_52 ?_
      refine X.rnn e12 (fun p14 q e13 => ?_)
      clear e12
      subst q
      refine X.iald dX12_act_53 e13 (fun v15 e14 => ?_)
      clear e13
      refine X.rpfV (v := (.int v15)) fp_RX12_310 rfl rfl dX12_act_54 e14 (fun h16 e15 => ?_)
      clear e14
      refine Ok.iload_n dX12_act_57 rfl ?_
      refine X.if_ne (tgt := 69) dX12_act_58 (by decide) e15 (fun e16 => ?_) (fun e16 => ?_)
      · clear e15
        refine Ok.iload_n dX12_act_69 rfl ?_
        refine Ok.iconstV (v := (nI 1)) dX12_act_70 (by decide +kernel) ?_
        refine X.icmp_ne (tgt := 82) dX12_act_71 (by decide) e16 (fun e17 => ?_) (fun e17 => ?_)
        · clear e16
          refine Ok.aload_n dX12_act_82 rfl ?_
          refine Ok.iload_n dX12_act_83 rfl ?_
          refine X.rck e17 (fun c fs hb hc e18 => ?_)
          clear e17
          obtain rfl := List.mem_singleton.mp hc
          refine X.callV (My := mX12_endsActs) (n := 1) (As := [.int a3]) (T := (fun v => (some (.int v)))) (stk' := (fun v => [.int v])) (rest := []) (kc' := 0) (ks' := 0) dX12_act_84 e18 (fun v h n e => k_X12_endsActs (d := d + 0) e) hb rfl wd1509 wd80 wd1508 wd73 wd1506 (by decide +kernel) rfl (by decide) rfl rfl (Nat.le_of_ble_eq_true rfl) (Nat.le_of_ble_eq_true rfl) (Nat.le_of_ble_eq_true rfl) rfl rfl (fun _ => rfl) (fun r17 h18 n19 e19 => ?_)
          clear e18
          exact Ok.weakL (k_X12_act_87 (d := d) e19) trivial
        · clear e16
          refine Ok.aload_n dX12_act_74 rfl ?_
          refine Ok.iload_n dX12_act_75 rfl ?_
          refine X.rck e17 (fun c fs hb hc e18 => ?_)
          clear e17
          obtain rfl := List.mem_singleton.mp hc
          refine X.callV (My := mX12_rowsActs) (n := 1) (As := [.int a3]) (T := (fun v => (some (.int v)))) (stk' := (fun v => [.int v])) (rest := []) (kc' := 0) (ks' := 0) dX12_act_76 e18 (fun v h n e => k_X12_rowsActs (d := d + 2) e) hb rfl wd1498 wd80 wd1497 wd71 wd1495 (by decide +kernel) rfl (by decide) rfl rfl (Nat.le_of_ble_eq_true rfl) (Nat.le_of_ble_eq_true rfl) (Nat.le_of_ble_eq_true rfl) rfl rfl (fun _ => rfl) (fun r20 h21 n22 e19 => ?_)
          clear e18
          refine Ok.goto (tgt := 87) dX12_act_79 (by decide) ?_
          exact Ok.weakL (k_X12_act_87 (d := d) e19) trivial
      · clear e15
        refine Ok.aload_n dX12_act_61 rfl ?_
        refine Ok.iload_n dX12_act_62 rfl ?_
        refine X.rck e16 (fun c fs hb hc e17 => ?_)
        clear e16
        obtain rfl := List.mem_singleton.mp hc
        refine X.callV (My := mX12_meansActs) (n := 1) (As := [.int a3]) (T := (fun v => (some (.int v)))) (stk' := (fun v => [.int v])) (rest := []) (kc' := 0) (ks' := 0) dX12_act_63 e17 (fun v h n e => k_X12_meansActs (d := d + 4) e) hb rfl wd1486 wd80 wd1485 wd68 wd1483 (by decide +kernel) rfl (by decide) rfl rfl (Nat.le_of_ble_eq_true rfl) (Nat.le_of_ble_eq_true rfl) (Nat.le_of_ble_eq_true rfl) rfl rfl (fun _ => rfl) (fun r23 h24 n25 e18 => ?_)
        clear e17
        refine Ok.goto (tgt := 87) dX12_act_66 (by decide) ?_
        exact Ok.weakL (k_X12_act_87 (d := d) e18) trivial
    · clear e5
      exact Ok.weakL (k_X12_act_22 (d := d) e6) trivial
noncomputable def F_X12_trace_38 (G : Gx) (h : Hp) (nx : Nat) (s0 : Int32) : Rz Int32 :=
some (s0, h, nx)
set_option maxRecDepth 100000 in
set_option maxHeartbeats 4000000 in
theorem k_X12_trace_38 {G : Gx} {d : Nat} {v' : Int32} {h' : Hp} {n' : Nat} {h : Hp} {nx : Nat} {s0 : Int32} (e : F_X12_trace_38 G h nx s0 = some (v', h', n')) : Ok G mX12_trace (d + 1) (Same (some (.int v')) h' n') 38 [none, none] [.int s0] h nx 0 0 := by
  unfold F_X12_trace_38 at e
  exact X.iret dX12_trace_38 rfl (Nat.le_of_ble_eq_true rfl) (Nat.le_of_ble_eq_true rfl) e
noncomputable def F_X12_trace_20 (G : Gx) (h : Hp) (nx : Nat) (s0 : Int32) (s1 : Int32) (s2 : Int32) (l0 : Nat) (l1 : Int32) : Rz Int32 :=
cl (F_X12_in G h nx s0 s1 ((s2 - (nI 1)))) (fun r1 h2 n3 =>
if r1 = 0 then
(F_X12_trace_38 G h2 n3 (-1 : Int32))
else
gfR h2 l0 [12] 29 (fun v4 =>
nn v4 (fun p5 =>
alI (g_c G 0) h2 p5 l1 (fun v6 =>
(F_X12_trace_38 G h2 n3 v6)))))
set_option maxRecDepth 100000 in
set_option maxHeartbeats 4000000 in
theorem k_X12_trace_20 {G : Gx} {d : Nat} {v' : Int32} {h' : Hp} {n' : Nat} {h : Hp} {nx : Nat} {s0 : Int32} {s1 : Int32} {s2 : Int32} {l0 : Nat} {l1 : Int32} (e : F_X12_trace_20 G h nx s0 s1 s2 l0 l1 = some (v', h', n')) : Ok G mX12_trace (d + 1) (Same (some (.int v')) h' n') 20 [some (.ref l0), some (.int l1)] [.int s2, .int s1, .int s0] h nx 0 0 := by
  unfold F_X12_trace_20 at e
  refine Ok.iconstV (v := (nI 1)) dX12_trace_20 (by decide +kernel) ?_
  refine Ok.isub dX12_trace_21 ?_
  refine X.callS (My := mX12_in) (n := 3) (As := [.int s0, .int s1, .int ((s2 - (nI 1)))]) (T := (fun v => (some (.int v)))) (stk' := (fun v => [.int v])) (rest := []) (kc' := 0) (ks' := 0) dX12_trace_22 e (fun v h n e => k_X12_in (d := d + 0) e) wd1196 wd80 wd1195 wd1194 (by decide +kernel) rfl (by decide) rfl rfl (Nat.le_of_ble_eq_true rfl) (Nat.le_of_ble_eq_true rfl) (Nat.le_of_ble_eq_true rfl) rfl rfl (fun _ => rfl) (fun r1 h2 n3 e1 => ?_)
  clear e
  refine X.if_eq (tgt := 37) dX12_trace_25 (by decide) e1 (fun e2 => ?_) (fun e2 => ?_)
  · clear e1
    refine Ok.iconstV (v := (-1 : Int32)) dX12_trace_37 (by decide +kernel) ?_
    exact Ok.weakL (k_X12_trace_38 (d := d) e2) trivial
  · clear e1
    refine Ok.aload_n dX12_trace_28 rfl ?_
    refine X.rgfR fl_RX12_63 dX12_trace_29 e2 (fun v4 e3 => ?_)
    clear e2
    refine Ok.iload_n dX12_trace_32 rfl ?_
    refine X.rnn e3 (fun p5 q e4 => ?_)
    clear e3
    subst q
    refine X.iald dX12_trace_33 e4 (fun v6 e5 => ?_)
    clear e4
    refine Ok.goto (tgt := 38) dX12_trace_34 (by decide) ?_
    exact Ok.weakL (k_X12_trace_38 (d := d) e5) trivial
noncomputable def F_X12_trace (G : Gx) (h : Hp) (nx : Nat) (a0 : Nat) (a1 : Int32) : Rz Int32 :=
gfI h a0 [12] 30 (fun v1 =>
if (nI 20) ≤ v1 then
(F_X12_trace_20 G h nx a1 (nI 0) (nI 20) a0 a1)
else
gfI h a0 [12] 30 (fun v2 =>
(F_X12_trace_20 G h nx a1 (nI 0) v2 a0 a1)))
set_option maxRecDepth 100000 in
set_option maxHeartbeats 4000000 in
theorem k_X12_trace {G : Gx} {d : Nat} {h : Hp} {nx : Nat} {a0 : Nat} {a1 : Int32} {v' : Int32} {h' : Hp} {n' : Nat} (e : F_X12_trace G h nx a0 a1 = some (v', h', n')) : Ct G mX12_trace (d + 1) (Same (some (.int v')) h' n') [.ref a0, .int a1] h nx := by
  unfold F_X12_trace at e
  refine Ct.of (ls := [some (.ref a0), some (.int a1)]) (by decide +kernel) rfl (Nat.le_of_ble_eq_true rfl) rfl ?_
  refine Ok.iload_n dX12_trace_0 rfl ?_
  refine Ok.iconstV (v := (nI 0)) dX12_trace_1 (by decide +kernel) ?_
  refine Ok.aload_n dX12_trace_2 rfl ?_
  refine X.rgfI fl_RX12_295 dX12_trace_3 e (fun v1 e1 => ?_)
  clear e
  refine Ok.bipushV (v := (nI 20)) dX12_trace_6 (by decide +kernel) ?_
  refine X.icmp_ge (tgt := 18) dX12_trace_8 (by decide) e1 (fun e2 => ?_) (fun e2 => ?_)
  · clear e1
    refine Ok.bipushV (v := (nI 20)) dX12_trace_18 (by decide +kernel) ?_
    exact Ok.weakL (k_X12_trace_20 (d := d) e2) ⟨rfl, ⟨rfl, trivial⟩⟩
  · clear e1
    refine Ok.aload_n dX12_trace_11 rfl ?_
    refine X.rgfI fl_RX12_295 dX12_trace_12 e2 (fun v2 e3 => ?_)
    clear e2
    refine Ok.goto (tgt := 20) dX12_trace_15 (by decide) ?_
    exact Ok.weakL (k_X12_trace_20 (d := d) e3) ⟨rfl, ⟨rfl, trivial⟩⟩
noncomputable def F_X12_as_18 (G : Gx) (h : Hp) (nx : Nat) : Rz Int32 :=
some ((-1 : Int32), h, nx)
set_option maxRecDepth 100000 in
set_option maxHeartbeats 4000000 in
theorem k_X12_as_18 {G : Gx} {d : Nat} {v' : Int32} {h' : Hp} {n' : Nat} {h : Hp} {nx : Nat} (e : F_X12_as_18 G h nx = some (v', h', n')) : Ok G mX12_as (d + 2) (Same (some (.int v')) h' n') 18 [none, none, none] [] h nx 0 0 := by
  unfold F_X12_as_18 at e
  refine Ok.iconstV (v := (-1 : Int32)) dX12_as_18 (by decide +kernel) ?_
  exact X.iret dX12_as_19 rfl (Nat.le_of_ble_eq_true rfl) (Nat.le_of_ble_eq_true rfl) e
noncomputable def F_X12_as_52 (G : Gx) (h : Hp) (nx : Nat) (s0 : Int32) : Rz Int32 :=
some (s0, h, nx)
set_option maxRecDepth 100000 in
set_option maxHeartbeats 4000000 in
theorem k_X12_as_52 {G : Gx} {d : Nat} {v' : Int32} {h' : Hp} {n' : Nat} {h : Hp} {nx : Nat} {s0 : Int32} (e : F_X12_as_52 G h nx s0 = some (v', h', n')) : Ok G mX12_as (d + 2) (Same (some (.int v')) h' n') 52 [none, none, none] [.int s0] h nx 0 0 := by
  unfold F_X12_as_52 at e
  exact X.iret dX12_as_52 rfl (Nat.le_of_ble_eq_true rfl) (Nat.le_of_ble_eq_true rfl) e
noncomputable def F_X12_as (G : Gx) (h : Hp) (nx : Nat) (a0 : Nat) (a1 : Int32) (a2 : Int32) : Rz Int32 :=
ck h a0 [12] (fun _ =>
cl (F_X12_isPlan G h nx a0 a1) (fun r1 h2 n3 =>
if r1 = 0 then
(F_X12_as_18 G h2 n3)
else
cl (F_X12_in G h2 n3 a2 (nI 0) (nI 6)) (fun r4 h5 n6 =>
if r4 = 0 then
(F_X12_as_18 G h5 n6)
else
gfR h5 a0 [12] 1 (fun v7 =>
nn v7 (fun p8 =>
alI (g_c G 0) h5 p8 (((nI 1070) + a1)) (fun v9 =>
cl (F_X12_isUnder G h5 n6 v9 a2) (fun r10 h11 n12 =>
if r10 = 0 then
(F_X12_as_52 G h11 n12 (-6 : Int32))
else
gfR h11 a0 [12] 1 (fun v13 =>
nn v13 (fun p14 =>
alI (g_c G 0) h11 p14 (((nI 1082) + a1)) (fun v15 =>
(F_X12_as_52 G h11 n12 v15)))))))))))
set_option maxRecDepth 100000 in
set_option maxHeartbeats 4000000 in
theorem k_X12_as {G : Gx} {d : Nat} {h : Hp} {nx : Nat} {a0 : Nat} {a1 : Int32} {a2 : Int32} {v' : Int32} {h' : Hp} {n' : Nat} (e : F_X12_as G h nx a0 a1 a2 = some (v', h', n')) : Ct G mX12_as (d + 2) (Same (some (.int v')) h' n') [.ref a0, .int a1, .int a2] h nx := by
  unfold F_X12_as at e
  refine Ct.of (ls := [some (.ref a0), some (.int a1), some (.int a2)]) (by decide +kernel) rfl (Nat.le_of_ble_eq_true rfl) rfl ?_
  refine Ok.aload_n dX12_as_0 rfl ?_
  refine Ok.iload_n dX12_as_1 rfl ?_
  refine X.rck e (fun c fs hb hc e1 => ?_)
  clear e
  obtain rfl := List.mem_singleton.mp hc
  refine X.callV (My := mX12_isPlan) (n := 1) (As := [.int a1]) (T := (fun v => (some (.int v)))) (stk' := (fun v => [.int v])) (rest := []) (kc' := 0) (ks' := 0) dX12_as_2 e1 (fun v h n e => k_X12_isPlan (d := d + 0) e) hb rfl wd1364 wd80 wd1363 wd50 wd1361 (by decide +kernel) rfl (by decide) rfl rfl (Nat.le_of_ble_eq_true rfl) (Nat.le_of_ble_eq_true rfl) (Nat.le_of_ble_eq_true rfl) rfl rfl (fun _ => rfl) (fun r1 h2 n3 e2 => ?_)
  clear e1
  refine X.if_eq (tgt := 18) dX12_as_5 (by decide) e2 (fun e3 => ?_) (fun e3 => ?_)
  · clear e2
    exact Ok.weakL (k_X12_as_18 (d := d) e3) trivial
  · clear e2
    refine Ok.iload_n dX12_as_8 rfl ?_
    refine Ok.iconstV (v := (nI 0)) dX12_as_9 (by decide +kernel) ?_
    refine Ok.bipushV (v := (nI 6)) dX12_as_10 (by decide +kernel) ?_
    refine X.callS (My := mX12_in) (n := 3) (As := [.int a2, .int (nI 0), .int (nI 6)]) (T := (fun v => (some (.int v)))) (stk' := (fun v => [.int v])) (rest := []) (kc' := 0) (ks' := 0) dX12_as_12 e3 (fun v h n e => k_X12_in (d := d + 1) e) wd1196 wd80 wd1195 wd1194 (by decide +kernel) rfl (by decide) rfl rfl (Nat.le_of_ble_eq_true rfl) (Nat.le_of_ble_eq_true rfl) (Nat.le_of_ble_eq_true rfl) rfl rfl (fun _ => rfl) (fun r4 h5 n6 e4 => ?_)
    clear e3
    refine X.if_ne (tgt := 20) dX12_as_15 (by decide) e4 (fun e5 => ?_) (fun e5 => ?_)
    · clear e4
      refine Ok.aload_n dX12_as_20 rfl ?_
      refine X.rgfR fl_RX12_9 dX12_as_21 e5 (fun v7 e6 => ?_)
      clear e5
      refine Ok.sipushV (v := (nI 1070)) dX12_as_24 (by decide +kernel) ?_
      refine Ok.iload_n dX12_as_27 rfl ?_
      refine Ok.iadd dX12_as_28 ?_
      refine X.rnn e6 (fun p8 q e7 => ?_)
      clear e6
      subst q
      refine X.iald dX12_as_29 e7 (fun v9 e8 => ?_)
      clear e7
      refine Ok.iload_n dX12_as_30 rfl ?_
      refine X.callS (My := mX12_isUnder) (n := 2) (As := [.int v9, .int a2]) (T := (fun v => (some (.int v)))) (stk' := (fun v => [.int v])) (rest := []) (kc' := 0) (ks' := 0) dX12_as_31 e8 (fun v h n e => k_X12_isUnder (d := d + 1) e) wd1505 wd80 wd1504 wd1503 (by decide +kernel) rfl (by decide) rfl rfl (Nat.le_of_ble_eq_true rfl) (Nat.le_of_ble_eq_true rfl) (Nat.le_of_ble_eq_true rfl) rfl rfl (fun _ => rfl) (fun r10 h11 n12 e9 => ?_)
      clear e8
      refine X.if_eq (tgt := 50) dX12_as_34 (by decide) e9 (fun e10 => ?_) (fun e10 => ?_)
      · clear e9
        refine Ok.bipushV (v := (-6 : Int32)) dX12_as_50 (by decide +kernel) ?_
        exact Ok.weakL (k_X12_as_52 (d := d) e10) trivial
      · clear e9
        refine Ok.aload_n dX12_as_37 rfl ?_
        refine X.rgfR fl_RX12_9 dX12_as_38 e10 (fun v13 e11 => ?_)
        clear e10
        refine Ok.sipushV (v := (nI 1082)) dX12_as_41 (by decide +kernel) ?_
        refine Ok.iload_n dX12_as_44 rfl ?_
        refine Ok.iadd dX12_as_45 ?_
        refine X.rnn e11 (fun p14 q e12 => ?_)
        clear e11
        subst q
        refine X.iald dX12_as_46 e12 (fun v15 e13 => ?_)
        clear e12
        refine Ok.goto (tgt := 52) dX12_as_47 (by decide) ?_
        exact Ok.weakL (k_X12_as_52 (d := d) e13) trivial
    · clear e4
      exact Ok.weakL (k_X12_as_18 (d := d) e5) trivial
noncomputable def F_X12_image_2 (G : Gx) : Nat → Hp → Nat → Nat → Int32 → Rz Int32 := fun n => Nat.rec (motive := fun _ => Hp → Nat → Nat → Int32 → Rz Int32) (fun _ _ _ _ => none) (fun _ k2 => fun h nx l0 l1 =>
if (nI 1240) ≤ l1 then
zk (nI 1) (
pfV h l0 [12] 3 (.int (nI 1)) (fun h1 =>
gfR h1 l0 [12] 1 (fun v2 =>
nn v2 (fun p3 =>
alI (g_c G 0) h1 p3 (nI 3) (fun v4 =>
some (v4, h1, nx))))))
else
gfR h l0 [12] 2 (fun v5 =>
gfR h l0 [12] 1 (fun v6 =>
nn v6 (fun p7 =>
alI (g_c G 0) h p7 l1 (fun v8 =>
nn v5 (fun p9 =>
asI (g_c G 0) id h p9 l1 v8 (fun h10 =>
nm (l1 + (nI 1)) (fun v11 =>
(k2 h10 nx l0 v11))))))))) n
theorem F_X12_image_2_0 {G : Gx} {h : Hp} {nx : Nat} {l0 : Nat} {l1 : Int32} : F_X12_image_2 G 0 h nx l0 l1 = none := rfl
theorem F_X12_image_2_s {G : Gx} {n : Nat} {h : Hp} {nx : Nat} {l0 : Nat} {l1 : Int32} : F_X12_image_2 G (n + 1) h nx l0 l1 = (
if (nI 1240) ≤ l1 then
zk (nI 1) (
pfV h l0 [12] 3 (.int (nI 1)) (fun h1 =>
gfR h1 l0 [12] 1 (fun v2 =>
nn v2 (fun p3 =>
alI (g_c G 0) h1 p3 (nI 3) (fun v4 =>
some (v4, h1, nx))))))
else
gfR h l0 [12] 2 (fun v5 =>
gfR h l0 [12] 1 (fun v6 =>
nn v6 (fun p7 =>
alI (g_c G 0) h p7 l1 (fun v8 =>
nn v5 (fun p9 =>
asI (g_c G 0) id h p9 l1 v8 (fun h10 =>
nm (l1 + (nI 1)) (fun v11 =>
((F_X12_image_2 G n) h10 nx l0 v11))))))))) := rfl
set_option maxRecDepth 100000 in
set_option maxHeartbeats 4000000 in
theorem k_X12_image_2 {G : Gx} {d : Nat} {v' : Int32} {h' : Hp} {n' : Nat} : ∀ (n : Nat) {h : Hp} {nx : Nat} {l0 : Nat} {l1 : Int32}, F_X12_image_2 G n h nx l0 l1 = some (v', h', n') → Ok G mX12_image (d + 0) (Same (some (.int v')) h' n') 2 [some (.ref l0), some (.int l1)] [] h nx 0 0 := by
  intro n
  induction n with
  | zero =>
    intro h nx l0 l1 e
    rw [F_X12_image_2_0] at e
    cases e
  | succ n K2 =>
    intro h nx l0 l1 e
    rw [F_X12_image_2_s] at e
    refine Ok.iload_n dX12_image_2 rfl ?_
    refine Ok.sipushV (v := (nI 1240)) dX12_image_3 (by decide +kernel) ?_
    refine X.icmp_ge (tgt := 27) dX12_image_6 (by decide) e (fun e1 => ?_) (fun e1 => ?_)
    · clear e
      refine Ok.aload_n dX12_image_27 rfl ?_
      refine Ok.iconstV (v := (nI 1)) dX12_image_28 (by decide +kernel) ?_
      refine X.rzk e1 (fun z e2 => ?_)
      clear e1
      refine X.rpfV (v := (.int (nI 1))) fp_RX12_331 (nar_z z) (fits_z z) dX12_image_29 e2 (fun h1 e3 => ?_)
      clear e2
      refine Ok.aload_n dX12_image_32 rfl ?_
      refine X.rgfR fl_RX12_9 dX12_image_33 e3 (fun v2 e4 => ?_)
      clear e3
      refine Ok.iconstV (v := (nI 3)) dX12_image_36 (by decide +kernel) ?_
      refine X.rnn e4 (fun p3 q e5 => ?_)
      clear e4
      subst q
      refine X.iald dX12_image_37 e5 (fun v4 e6 => ?_)
      clear e5
      exact X.iret dX12_image_38 rfl (Nat.le_of_ble_eq_true rfl) (Nat.le_of_ble_eq_true rfl) e6
    · clear e
      refine Ok.aload_n dX12_image_9 rfl ?_
      refine X.rgfR fl_RX12_15 dX12_image_10 e1 (fun v5 e2 => ?_)
      clear e1
      refine Ok.iload_n dX12_image_13 rfl ?_
      refine Ok.aload_n dX12_image_14 rfl ?_
      refine X.rgfR fl_RX12_9 dX12_image_15 e2 (fun v6 e3 => ?_)
      clear e2
      refine Ok.iload_n dX12_image_18 rfl ?_
      refine X.rnn e3 (fun p7 q e4 => ?_)
      clear e3
      subst q
      refine X.iald dX12_image_19 e4 (fun v8 e5 => ?_)
      clear e4
      refine X.rnn e5 (fun p9 q e6 => ?_)
      clear e5
      subst q
      refine X.iast dX12_image_20 e6 (fun h10 e7 => ?_)
      clear e6
      refine X.iinc dX12_image_21 rfl (by decide) (by decide +kernel) e7 (L := fun v11 => [some (.ref l0), some (.int v11)]) (fun _ => rfl) (fun v11 e8 => ?_)
      clear e7
      refine Ok.goto (tgt := 2) dX12_image_24 (by decide) ?_
      exact Ok.weakL (K2 e8) ⟨rfl, ⟨rfl, trivial⟩⟩
noncomputable def F_X12_image (G : Gx) (h : Hp) (nx : Nat) (a0 : Nat) : Rz Int32 :=
(F_X12_image_2 G fuelL h nx a0 (nI 0))
set_option maxRecDepth 100000 in
set_option maxHeartbeats 4000000 in
theorem k_X12_image {G : Gx} {d : Nat} {h : Hp} {nx : Nat} {a0 : Nat} {v' : Int32} {h' : Hp} {n' : Nat} (e : F_X12_image G h nx a0 = some (v', h', n')) : Ct G mX12_image (d + 0) (Same (some (.int v')) h' n') [.ref a0] h nx := by
  unfold F_X12_image at e
  refine Ct.of (ls := [some (.ref a0), none]) (by decide +kernel) rfl (Nat.le_of_ble_eq_true rfl) rfl ?_
  refine Ok.iconstV (v := (nI 0)) dX12_image_0 (by decide +kernel) ?_
  refine XL.istore_n dX12_image_1 (by decide) (L := [some (.ref a0), some (.int (nI 0))]) rfl ?_
  exact Ok.weakL (k_X12_image_2 (d := d) fuelL e) ⟨rfl, ⟨rfl, trivial⟩⟩
noncomputable def F_X12_undo_12 (G : Gx) : Nat → Hp → Nat → Nat → Int32 → Rz Int32 := fun n => Nat.rec (motive := fun _ => Hp → Nat → Nat → Int32 → Rz Int32) (fun _ _ _ _ => none) (fun _ k12 => fun h nx l0 l1 =>
if (nI 1240) ≤ l1 then
gfR h l0 [12] 1 (fun v1 =>
nn v1 (fun p2 =>
alI (g_c G 0) h p2 (nI 3) (fun v3 =>
some (v3, h, nx))))
else
gfR h l0 [12] 1 (fun v4 =>
gfR h l0 [12] 2 (fun v5 =>
nn v5 (fun p6 =>
alI (g_c G 0) h p6 l1 (fun v7 =>
nn v4 (fun p8 =>
asI (g_c G 0) id h p8 l1 v7 (fun h9 =>
nm (l1 + (nI 1)) (fun v10 =>
(k12 h9 nx l0 v10))))))))) n
theorem F_X12_undo_12_0 {G : Gx} {h : Hp} {nx : Nat} {l0 : Nat} {l1 : Int32} : F_X12_undo_12 G 0 h nx l0 l1 = none := rfl
theorem F_X12_undo_12_s {G : Gx} {n : Nat} {h : Hp} {nx : Nat} {l0 : Nat} {l1 : Int32} : F_X12_undo_12 G (n + 1) h nx l0 l1 = (
if (nI 1240) ≤ l1 then
gfR h l0 [12] 1 (fun v1 =>
nn v1 (fun p2 =>
alI (g_c G 0) h p2 (nI 3) (fun v3 =>
some (v3, h, nx))))
else
gfR h l0 [12] 1 (fun v4 =>
gfR h l0 [12] 2 (fun v5 =>
nn v5 (fun p6 =>
alI (g_c G 0) h p6 l1 (fun v7 =>
nn v4 (fun p8 =>
asI (g_c G 0) id h p8 l1 v7 (fun h9 =>
nm (l1 + (nI 1)) (fun v10 =>
((F_X12_undo_12 G n) h9 nx l0 v10))))))))) := rfl
set_option maxRecDepth 100000 in
set_option maxHeartbeats 4000000 in
theorem k_X12_undo_12 {G : Gx} {d : Nat} {v' : Int32} {h' : Hp} {n' : Nat} : ∀ (n : Nat) {h : Hp} {nx : Nat} {l0 : Nat} {l1 : Int32}, F_X12_undo_12 G n h nx l0 l1 = some (v', h', n') → Ok G mX12_undo (d + 0) (Same (some (.int v')) h' n') 12 [some (.ref l0), some (.int l1)] [] h nx 0 0 := by
  intro n
  induction n with
  | zero =>
    intro h nx l0 l1 e
    rw [F_X12_undo_12_0] at e
    cases e
  | succ n K12 =>
    intro h nx l0 l1 e
    rw [F_X12_undo_12_s] at e
    refine Ok.iload_n dX12_undo_12 rfl ?_
    refine Ok.sipushV (v := (nI 1240)) dX12_undo_13 (by decide +kernel) ?_
    refine X.icmp_ge (tgt := 37) dX12_undo_16 (by decide) e (fun e1 => ?_) (fun e1 => ?_)
    · clear e
      refine Ok.aload_n dX12_undo_37 rfl ?_
      refine X.rgfR fl_RX12_9 dX12_undo_38 e1 (fun v1 e2 => ?_)
      clear e1
      refine Ok.iconstV (v := (nI 3)) dX12_undo_41 (by decide +kernel) ?_
      refine X.rnn e2 (fun p2 q e3 => ?_)
      clear e2
      subst q
      refine X.iald dX12_undo_42 e3 (fun v3 e4 => ?_)
      clear e3
      exact X.iret dX12_undo_43 rfl (Nat.le_of_ble_eq_true rfl) (Nat.le_of_ble_eq_true rfl) e4
    · clear e
      refine Ok.aload_n dX12_undo_19 rfl ?_
      refine X.rgfR fl_RX12_9 dX12_undo_20 e1 (fun v4 e2 => ?_)
      clear e1
      refine Ok.iload_n dX12_undo_23 rfl ?_
      refine Ok.aload_n dX12_undo_24 rfl ?_
      refine X.rgfR fl_RX12_15 dX12_undo_25 e2 (fun v5 e3 => ?_)
      clear e2
      refine Ok.iload_n dX12_undo_28 rfl ?_
      refine X.rnn e3 (fun p6 q e4 => ?_)
      clear e3
      subst q
      refine X.iald dX12_undo_29 e4 (fun v7 e5 => ?_)
      clear e4
      refine X.rnn e5 (fun p8 q e6 => ?_)
      clear e5
      subst q
      refine X.iast dX12_undo_30 e6 (fun h9 e7 => ?_)
      clear e6
      refine X.iinc dX12_undo_31 rfl (by decide) (by decide +kernel) e7 (L := fun v10 => [some (.ref l0), some (.int v10)]) (fun _ => rfl) (fun v10 e8 => ?_)
      clear e7
      refine Ok.goto (tgt := 12) dX12_undo_34 (by decide) ?_
      exact Ok.weakL (K12 e8) ⟨rfl, ⟨rfl, trivial⟩⟩
noncomputable def F_X12_undo (G : Gx) (h : Hp) (nx : Nat) (a0 : Nat) : Rz Int32 :=
gfI h a0 [12] 3 (fun v1 =>
if v1 = 0 then
some ((-3 : Int32), h, nx)
else
(F_X12_undo_12 G fuelL h nx a0 (nI 0)))
set_option maxRecDepth 100000 in
set_option maxHeartbeats 4000000 in
theorem k_X12_undo {G : Gx} {d : Nat} {h : Hp} {nx : Nat} {a0 : Nat} {v' : Int32} {h' : Hp} {n' : Nat} (e : F_X12_undo G h nx a0 = some (v', h', n')) : Ct G mX12_undo (d + 0) (Same (some (.int v')) h' n') [.ref a0] h nx := by
  unfold F_X12_undo at e
  refine Ct.of (ls := [some (.ref a0), none]) (by decide +kernel) rfl (Nat.le_of_ble_eq_true rfl) rfl ?_
  refine Ok.aload_n dX12_undo_0 rfl ?_
  refine X.rgfI fl_RX12_331 dX12_undo_1 e (fun v1 e1 => ?_)
  clear e
  refine X.if_ne (tgt := 10) dX12_undo_4 (by decide) e1 (fun e2 => ?_) (fun e2 => ?_)
  · clear e1
    refine Ok.iconstV (v := (nI 0)) dX12_undo_10 (by decide +kernel) ?_
    refine XL.istore_n dX12_undo_11 (by decide) (L := [some (.ref a0), some (.int (nI 0))]) rfl ?_
    exact Ok.weakL (k_X12_undo_12 (d := d) fuelL e2) ⟨rfl, ⟨rfl, trivial⟩⟩
  · clear e1
    refine Ok.bipushV (v := (-3 : Int32)) dX12_undo_7 (by decide +kernel) ?_
    exact X.iret dX12_undo_9 rfl (Nat.le_of_ble_eq_true rfl) (Nat.le_of_ble_eq_true rfl) e2
noncomputable def F_X12_count (G : Gx) (h : Hp) (nx : Nat) (a0 : Nat) (a1 : Int32) : Rz Int32 :=
if a1 = (nI 0) then
gfR h a0 [12] 1 (fun v1 =>
nn v1 (fun p2 =>
alI (g_c G 0) h p2 (nI 0) (fun v3 =>
some (v3, h, nx))))
else
if a1 = (nI 1) then
gfR h a0 [12] 1 (fun v4 =>
nn v4 (fun p5 =>
alI (g_c G 0) h p5 (nI 1) (fun v6 =>
some (v6, h, nx))))
else
if a1 = (nI 2) then
gfR h a0 [12] 1 (fun v7 =>
nn v7 (fun p8 =>
alI (g_c G 0) h p8 (nI 2) (fun v9 =>
some (v9, h, nx))))
else
if a1 = (nI 3) then
gfR h a0 [12] 1 (fun v10 =>
nn v10 (fun p11 =>
alI (g_c G 0) h p11 (nI 3) (fun v12 =>
some (v12, h, nx))))
else
if a1 = (nI 4) then
gfR h a0 [12] 1 (fun v13 =>
nn v13 (fun p14 =>
alI (g_c G 0) h p14 (nI 4) (fun v15 =>
some (v15, h, nx))))
else
if a1 = (nI 5) then
gfR h a0 [12] 1 (fun v16 =>
nn v16 (fun p17 =>
alI (g_c G 0) h p17 (nI 5) (fun v18 =>
some (v18, h, nx))))
else
if a1 = (nI 6) then
gfI h a0 [12] 30 (fun v19 =>
some (v19, h, nx))
else
some ((-1 : Int32), h, nx)
set_option maxRecDepth 100000 in
set_option maxHeartbeats 4000000 in
theorem k_X12_count {G : Gx} {d : Nat} {h : Hp} {nx : Nat} {a0 : Nat} {a1 : Int32} {v' : Int32} {h' : Hp} {n' : Nat} (e : F_X12_count G h nx a0 a1 = some (v', h', n')) : Ct G mX12_count (d + 0) (Same (some (.int v')) h' n') [.ref a0, .int a1] h nx := by
  unfold F_X12_count at e
  refine Ct.of (ls := [some (.ref a0), some (.int a1)]) (by decide +kernel) rfl (Nat.le_of_ble_eq_true rfl) rfl ?_
  refine Ok.iload_n dX12_count_0 rfl ?_
  refine X.sw e (fun c0 e1 => ?_) (fun c0 e1 => ?_)
  · clear e
    rw [c0]
    refine Ok.tableIn (off := 43) (tgt := 44) dX12_count_1 (by decide) (by decide) (by decide +kernel) (by decide) ?_
    refine Ok.aload_n dX12_count_44 rfl ?_
    refine X.rgfR fl_RX12_9 dX12_count_45 e1 (fun v1 e2 => ?_)
    clear e1
    refine Ok.iconstV (v := (nI 0)) dX12_count_48 (by decide +kernel) ?_
    refine X.rnn e2 (fun p2 q e3 => ?_)
    clear e2
    subst q
    refine X.iald dX12_count_49 e3 (fun v3 e4 => ?_)
    clear e3
    exact X.iret dX12_count_50 rfl (Nat.le_of_ble_eq_true rfl) (Nat.le_of_ble_eq_true rfl) e4
  refine X.sw e1 (fun c1 e2 => ?_) (fun c1 e2 => ?_)
  · clear e1
    rw [c1]
    refine Ok.tableIn (off := 50) (tgt := 51) dX12_count_1 (by decide) (by decide) (by decide +kernel) (by decide) ?_
    refine Ok.aload_n dX12_count_51 rfl ?_
    refine X.rgfR fl_RX12_9 dX12_count_52 e2 (fun v4 e3 => ?_)
    clear e2
    refine Ok.iconstV (v := (nI 1)) dX12_count_55 (by decide +kernel) ?_
    refine X.rnn e3 (fun p5 q e4 => ?_)
    clear e3
    subst q
    refine X.iald dX12_count_56 e4 (fun v6 e5 => ?_)
    clear e4
    exact X.iret dX12_count_57 rfl (Nat.le_of_ble_eq_true rfl) (Nat.le_of_ble_eq_true rfl) e5
  refine X.sw e2 (fun c2 e3 => ?_) (fun c2 e3 => ?_)
  · clear e2
    rw [c2]
    refine Ok.tableIn (off := 57) (tgt := 58) dX12_count_1 (by decide) (by decide) (by decide +kernel) (by decide) ?_
    refine Ok.aload_n dX12_count_58 rfl ?_
    refine X.rgfR fl_RX12_9 dX12_count_59 e3 (fun v7 e4 => ?_)
    clear e3
    refine Ok.iconstV (v := (nI 2)) dX12_count_62 (by decide +kernel) ?_
    refine X.rnn e4 (fun p8 q e5 => ?_)
    clear e4
    subst q
    refine X.iald dX12_count_63 e5 (fun v9 e6 => ?_)
    clear e5
    exact X.iret dX12_count_64 rfl (Nat.le_of_ble_eq_true rfl) (Nat.le_of_ble_eq_true rfl) e6
  refine X.sw e3 (fun c3 e4 => ?_) (fun c3 e4 => ?_)
  · clear e3
    rw [c3]
    refine Ok.tableIn (off := 64) (tgt := 65) dX12_count_1 (by decide) (by decide) (by decide +kernel) (by decide) ?_
    refine Ok.aload_n dX12_count_65 rfl ?_
    refine X.rgfR fl_RX12_9 dX12_count_66 e4 (fun v10 e5 => ?_)
    clear e4
    refine Ok.iconstV (v := (nI 3)) dX12_count_69 (by decide +kernel) ?_
    refine X.rnn e5 (fun p11 q e6 => ?_)
    clear e5
    subst q
    refine X.iald dX12_count_70 e6 (fun v12 e7 => ?_)
    clear e6
    exact X.iret dX12_count_71 rfl (Nat.le_of_ble_eq_true rfl) (Nat.le_of_ble_eq_true rfl) e7
  refine X.sw e4 (fun c4 e5 => ?_) (fun c4 e5 => ?_)
  · clear e4
    rw [c4]
    refine Ok.tableIn (off := 71) (tgt := 72) dX12_count_1 (by decide) (by decide) (by decide +kernel) (by decide) ?_
    refine Ok.aload_n dX12_count_72 rfl ?_
    refine X.rgfR fl_RX12_9 dX12_count_73 e5 (fun v13 e6 => ?_)
    clear e5
    refine Ok.iconstV (v := (nI 4)) dX12_count_76 (by decide +kernel) ?_
    refine X.rnn e6 (fun p14 q e7 => ?_)
    clear e6
    subst q
    refine X.iald dX12_count_77 e7 (fun v15 e8 => ?_)
    clear e7
    exact X.iret dX12_count_78 rfl (Nat.le_of_ble_eq_true rfl) (Nat.le_of_ble_eq_true rfl) e8
  refine X.sw e5 (fun c5 e6 => ?_) (fun c5 e6 => ?_)
  · clear e5
    rw [c5]
    refine Ok.tableIn (off := 78) (tgt := 79) dX12_count_1 (by decide) (by decide) (by decide +kernel) (by decide) ?_
    refine Ok.aload_n dX12_count_79 rfl ?_
    refine X.rgfR fl_RX12_9 dX12_count_80 e6 (fun v16 e7 => ?_)
    clear e6
    refine Ok.iconstV (v := (nI 5)) dX12_count_83 (by decide +kernel) ?_
    refine X.rnn e7 (fun p17 q e8 => ?_)
    clear e7
    subst q
    refine X.iald dX12_count_84 e8 (fun v18 e9 => ?_)
    clear e8
    exact X.iret dX12_count_85 rfl (Nat.le_of_ble_eq_true rfl) (Nat.le_of_ble_eq_true rfl) e9
  refine X.sw e6 (fun c6 e7 => ?_) (fun c6 e7 => ?_)
  · clear e6
    rw [c6]
    refine Ok.tableIn (off := 85) (tgt := 86) dX12_count_1 (by decide) (by decide) (by decide +kernel) (by decide) ?_
    refine Ok.aload_n dX12_count_86 rfl ?_
    refine X.rgfI fl_RX12_295 dX12_count_87 e7 (fun v19 e8 => ?_)
    clear e7
    exact X.iret dX12_count_90 rfl (Nat.le_of_ble_eq_true rfl) (Nat.le_of_ble_eq_true rfl) e8
  refine Ok.tableOut (tgt := 91) dX12_count_1 (sw_out 0 7 (fun i hi => match i, hi with | 0, _ => c0 | 1, _ => c1 | 2, _ => c2 | 3, _ => c3 | 4, _ => c4 | 5, _ => c5 | 6, _ => c6 | _ + 7, q => absurd q (by omega))) (by decide) ?_
  refine Ok.iconstV (v := (-1 : Int32)) dX12_count_91 (by decide +kernel) ?_
  exact X.iret dX12_count_92 rfl (Nat.le_of_ble_eq_true rfl) (Nat.le_of_ble_eq_true rfl) e7
