noncomputable def F_X10_beginning (G : Gx) (h : Hp) (nx : Nat) (a0 : Nat) (a1 : Int32) (a2 : Int32) : Rz Int32 :=
gfI h a0 [1, 10] 1 (fun v1 =>
some (((((a2 * a1)) + v1)), h, nx))
set_option maxRecDepth 100000 in
set_option maxHeartbeats 4000000 in
theorem k_X10_beginning {G : Gx} {d : Nat} {h : Hp} {nx : Nat} {a0 : Nat} {a1 : Int32} {a2 : Int32} {v' : Int32} {h' : Hp} {n' : Nat} (e : F_X10_beginning G h nx a0 a1 a2 = some (v', h', n')) : Ct G mX10_beginning (d + 0) (Same (some (.int v')) h' n') [.ref a0, .int a1, .int a2] h nx := by
  unfold F_X10_beginning at e
  refine Ct.of (ls := [some (.ref a0), some (.int a1), some (.int a2)]) (by decide +kernel) rfl (Nat.le_of_ble_eq_true rfl) rfl ?_
  refine Ok.iload_n dX10_beginning_0 rfl ?_
  refine Ok.iload_n dX10_beginning_1 rfl ?_
  refine Ok.imul dX10_beginning_2 ?_
  refine Ok.aload_n dX10_beginning_3 rfl ?_
  refine X.rgfI fl_RX10_32 dX10_beginning_4 e (fun v1 e1 => ?_)
  clear e
  refine Ok.iadd dX10_beginning_7 ?_
  exact X.iret dX10_beginning_8 rfl (Nat.le_of_ble_eq_true rfl) (Nat.le_of_ble_eq_true rfl) e1
noncomputable def F_X10_chosen_63 (G : Gx) (h : Hp) (nx : Nat) (l5 : Int32) : Rz Int32 :=
some (l5, h, nx)
set_option maxRecDepth 100000 in
set_option maxHeartbeats 4000000 in
theorem k_X10_chosen_63 {G : Gx} {d : Nat} {v' : Int32} {h' : Hp} {n' : Nat} {h : Hp} {nx : Nat} {l5 : Int32} (e : F_X10_chosen_63 G h nx l5 = some (v', h', n')) : Ok G mX10_chosen (d + 1) (Same (some (.int v')) h' n') 63 [none, none, none, none, none, some (.int l5), none] [] h nx 0 0 := by
  unfold F_X10_chosen_63 at e
  refine Ok.iload dX10_chosen_63 rfl ?_
  exact X.iret dX10_chosen_65 rfl (Nat.le_of_ble_eq_true rfl) (Nat.le_of_ble_eq_true rfl) e
noncomputable def F_X10_chosen_15 (G : Gx) : Nat → Hp → Nat → Nat → Nat → Int32 → Int32 → Int32 → Int32 → Rz Int32 := fun n => Nat.rec (motive := fun _ => Hp → Nat → Nat → Nat → Int32 → Int32 → Int32 → Int32 → Rz Int32) (fun _ _ _ _ _ _ _ _ => none) (fun _ k15 => fun h nx l0 l1 l3 l4 l5 l6 =>
gfR h l1 [5] 0 (fun v1 =>
nn v1 (fun p2 =>
ck h p2 [0] (fun _ =>
cl (F_X0_looksOrAll G h nx p2) (fun r3 h4 n5 =>
if r3 ≤ l6 then
(F_X10_chosen_63 G h4 n5 l5)
else
if l4 ≤ 0 then
(F_X10_chosen_63 G h4 n5 l5)
else
gfR h4 l1 [5] 0 (fun v6 =>
nn v6 (fun p7 =>
gfI h4 p7 [0] 17 (fun v8 =>
cl (ck h4 l0 [1, 10] (fun c => match c with
| 1 => F_X1_beginning G h4 n5 l0 v8 l3
| 10 => F_X10_beginning G h4 n5 l0 v8 l3
| _ => none)) (fun r9 h10 n11 =>
dzI l4 (
nm ((l5 ||| (((nI 1) <<< (((((r9 + l6)) - ((r9 + l6)) / l4 * l4)) &&& 31))))) (fun v12 =>
nm (l6 + (nI 1)) (fun v13 =>
(k15 h10 n11 l0 l1 l3 l4 v12 v13))))))))))))) n
theorem F_X10_chosen_15_0 {G : Gx} {h : Hp} {nx : Nat} {l0 : Nat} {l1 : Nat} {l3 : Int32} {l4 : Int32} {l5 : Int32} {l6 : Int32} : F_X10_chosen_15 G 0 h nx l0 l1 l3 l4 l5 l6 = none := rfl
theorem F_X10_chosen_15_s {G : Gx} {n : Nat} {h : Hp} {nx : Nat} {l0 : Nat} {l1 : Nat} {l3 : Int32} {l4 : Int32} {l5 : Int32} {l6 : Int32} : F_X10_chosen_15 G (n + 1) h nx l0 l1 l3 l4 l5 l6 = (
gfR h l1 [5] 0 (fun v1 =>
nn v1 (fun p2 =>
ck h p2 [0] (fun _ =>
cl (F_X0_looksOrAll G h nx p2) (fun r3 h4 n5 =>
if r3 ≤ l6 then
(F_X10_chosen_63 G h4 n5 l5)
else
if l4 ≤ 0 then
(F_X10_chosen_63 G h4 n5 l5)
else
gfR h4 l1 [5] 0 (fun v6 =>
nn v6 (fun p7 =>
gfI h4 p7 [0] 17 (fun v8 =>
cl (ck h4 l0 [1, 10] (fun c => match c with
| 1 => F_X1_beginning G h4 n5 l0 v8 l3
| 10 => F_X10_beginning G h4 n5 l0 v8 l3
| _ => none)) (fun r9 h10 n11 =>
dzI l4 (
nm ((l5 ||| (((nI 1) <<< (((((r9 + l6)) - ((r9 + l6)) / l4 * l4)) &&& 31))))) (fun v12 =>
nm (l6 + (nI 1)) (fun v13 =>
((F_X10_chosen_15 G n) h10 n11 l0 l1 l3 l4 v12 v13))))))))))))) := rfl
set_option maxRecDepth 100000 in
set_option maxHeartbeats 4000000 in
theorem k_X10_chosen_15 {G : Gx} {d : Nat} {v' : Int32} {h' : Hp} {n' : Nat} : ∀ (n : Nat) {h : Hp} {nx : Nat} {l0 : Nat} {l1 : Nat} {l3 : Int32} {l4 : Int32} {l5 : Int32} {l6 : Int32}, F_X10_chosen_15 G n h nx l0 l1 l3 l4 l5 l6 = some (v', h', n') → Ok G mX10_chosen (d + 1) (Same (some (.int v')) h' n') 15 [some (.ref l0), some (.ref l1), none, some (.int l3), some (.int l4), some (.int l5), some (.int l6)] [] h nx 0 0 := by
  intro n
  induction n with
  | zero =>
    intro h nx l0 l1 l3 l4 l5 l6 e
    rw [F_X10_chosen_15_0] at e
    cases e
  | succ n K15 =>
    intro h nx l0 l1 l3 l4 l5 l6 e
    rw [F_X10_chosen_15_s] at e
    refine Ok.iload dX10_chosen_15 rfl ?_
    refine Ok.aload_n dX10_chosen_17 rfl ?_
    refine X.rgfR fl_RX10_7 dX10_chosen_18 e (fun v1 e1 => ?_)
    clear e
    refine X.rnn e1 (fun p2 q e2 => ?_)
    clear e1
    subst q
    refine X.rck e2 (fun c fs hb hc e3 => ?_)
    clear e2
    obtain rfl := List.mem_singleton.mp hc
    refine X.callV (My := mX0_looksOrAll) (n := 0) (As := []) (T := (fun v => (some (.int v)))) (stk' := (fun v => [.int v, .int l6])) (rest := [.int l6]) (kc' := 0) (ks' := 0) dX10_chosen_21 e3 (fun v h n e => k_X0_looksOrAll (d := d + 0) e) hb rfl wd752 wd77 wd750 wd751 wd749 (by decide +kernel) rfl (by decide) rfl rfl (Nat.le_of_ble_eq_true rfl) (Nat.le_of_ble_eq_true rfl) (Nat.le_of_ble_eq_true rfl) rfl rfl (fun _ => rfl) (fun r3 h4 n5 e4 => ?_)
    clear e3
    refine X.icmp_ge (tgt := 63) dX10_chosen_24 (by decide) e4 (fun e5 => ?_) (fun e5 => ?_)
    · clear e4
      exact Ok.weakL (k_X10_chosen_63 (d := d) e5) ⟨rfl, trivial⟩
    · clear e4
      refine Ok.iload dX10_chosen_27 rfl ?_
      refine X.if_le (tgt := 63) dX10_chosen_29 (by decide) e5 (fun e6 => ?_) (fun e6 => ?_)
      · clear e5
        exact Ok.weakL (k_X10_chosen_63 (d := d) e6) ⟨rfl, trivial⟩
      · clear e5
        refine Ok.iload dX10_chosen_32 rfl ?_
        refine Ok.iconstV (v := (nI 1)) dX10_chosen_34 (by decide +kernel) ?_
        refine Ok.aload_n dX10_chosen_35 rfl ?_
        refine Ok.aload_n dX10_chosen_36 rfl ?_
        refine X.rgfR fl_RX10_7 dX10_chosen_37 e6 (fun v6 e7 => ?_)
        clear e6
        refine X.rnn e7 (fun p7 q e8 => ?_)
        clear e7
        subst q
        refine X.rgfI fl_RX10_23 dX10_chosen_40 e8 (fun v8 e9 => ?_)
        clear e8
        refine Ok.iload_n dX10_chosen_43 rfl ?_
        refine X.callC (n := 2) (As := [.int v8, .int l3]) (T := (fun v => (some (.int v)))) (stk' := (fun v => [.int v, .int (nI 1), .int l5])) (rest := [.int (nI 1), .int l5]) dX10_chosen_44 (Nat.le_of_ble_eq_true rfl) e9 (fun c hc => ?_) rfl rfl (Nat.le_of_ble_eq_true rfl) (Nat.le_of_ble_eq_true rfl) (fun _ => rfl) (fun r9 h10 n11 e10 => ?_)
        · simp only [List.mem_cons, List.not_mem_nil, or_false] at hc
          rcases hc with rfl | rfl
          · exact ⟨mX1_beginning, vu_RX10_26_1, fun v h n e10 => k_X1_beginning (d := d + 0) e10⟩
          · exact ⟨mX10_beginning, vu_RX10_26_10, fun v h n e10 => k_X10_beginning (d := d + 0) e10⟩
        clear e9
        refine Ok.iload dX10_chosen_47 rfl ?_
        refine Ok.iadd dX10_chosen_49 ?_
        refine Ok.iload dX10_chosen_50 rfl ?_
        refine X.rdzI e10 (fun z e11 => ?_)
        clear e10
        refine Ok.irem dX10_chosen_52 z ?_
        refine Ok.ishl dX10_chosen_53 ?_
        refine Ok.ior dX10_chosen_54 ?_
        refine X.istore dX10_chosen_55 (by decide) e11 (L := fun v12 => [some (.ref l0), some (.ref l1), none, some (.int l3), some (.int l4), some (.int v12), some (.int l6)]) (fun _ => rfl) (fun v12 e12 => ?_)
        clear e11
        refine X.iinc dX10_chosen_57 rfl (by decide) (by decide +kernel) e12 (L := fun v13 => [some (.ref l0), some (.ref l1), none, some (.int l3), some (.int l4), some (.int v12), some (.int v13)]) (fun _ => rfl) (fun v13 e13 => ?_)
        clear e12
        refine Ok.goto (tgt := 15) dX10_chosen_60 (by decide) ?_
        exact Ok.weakL (K15 e13) ⟨rfl, ⟨rfl, ⟨rfl, ⟨rfl, ⟨rfl, ⟨rfl, trivial⟩⟩⟩⟩⟩⟩
noncomputable def F_X10_chosen (G : Gx) (h : Hp) (nx : Nat) (a0 : Nat) (a1 : Nat) (a2 : Nat) (a3 : Int32) : Rz Int32 :=
gfR h a1 [5] 0 (fun v1 =>
nn v1 (fun p2 =>
gfI h p2 [0] 11 (fun v3 =>
(F_X10_chosen_15 G fuelL h nx a0 a1 a3 v3 (nI 0) (nI 0)))))
set_option maxRecDepth 100000 in
set_option maxHeartbeats 4000000 in
theorem k_X10_chosen {G : Gx} {d : Nat} {h : Hp} {nx : Nat} {a0 : Nat} {a1 : Nat} {a2 : Nat} {a3 : Int32} {v' : Int32} {h' : Hp} {n' : Nat} (e : F_X10_chosen G h nx a0 a1 a2 a3 = some (v', h', n')) : Ct G mX10_chosen (d + 1) (Same (some (.int v')) h' n') [.ref a0, .ref a1, .ref a2, .int a3] h nx := by
  unfold F_X10_chosen at e
  refine Ct.of (ls := [some (.ref a0), some (.ref a1), some (.ref a2), some (.int a3), none, none, none]) (by decide +kernel) rfl (Nat.le_of_ble_eq_true rfl) rfl ?_
  refine Ok.aload_n dX10_chosen_0 rfl ?_
  refine X.rgfR fl_RX10_7 dX10_chosen_1 e (fun v1 e1 => ?_)
  clear e
  refine X.rnn e1 (fun p2 q e2 => ?_)
  clear e1
  subst q
  refine X.rgfI fl_RX10_13 dX10_chosen_4 e2 (fun v3 e3 => ?_)
  clear e2
  refine XL.istore dX10_chosen_7 (by decide) (L := [some (.ref a0), some (.ref a1), some (.ref a2), some (.int a3), some (.int v3), none, none]) rfl ?_
  refine Ok.iconstV (v := (nI 0)) dX10_chosen_9 (by decide +kernel) ?_
  refine XL.istore dX10_chosen_10 (by decide) (L := [some (.ref a0), some (.ref a1), some (.ref a2), some (.int a3), some (.int v3), some (.int (nI 0)), none]) rfl ?_
  refine Ok.iconstV (v := (nI 0)) dX10_chosen_12 (by decide +kernel) ?_
  refine XL.istore dX10_chosen_13 (by decide) (L := [some (.ref a0), some (.ref a1), some (.ref a2), some (.int a3), some (.int v3), some (.int (nI 0)), some (.int (nI 0))]) rfl ?_
  exact Ok.weakL (k_X10_chosen_15 (d := d) fuelL e3) ⟨rfl, ⟨rfl, ⟨rfl, ⟨rfl, ⟨rfl, ⟨rfl, trivial⟩⟩⟩⟩⟩⟩
noncomputable def F_X9_goOver_2 (G : Gx) : Nat → Hp → Nat → Nat → Int32 → Int32 → Rz Unit := fun n => Nat.rec (motive := fun _ => Hp → Nat → Nat → Int32 → Int32 → Rz Unit) (fun _ _ _ _ _ => none) (fun _ k2 => fun h nx l0 l1 l2 =>
gfR h l0 [9] 1 (fun v1 =>
nn v1 (fun p2 =>
gfI h p2 [0] 11 (fun v3 =>
if v3 ≤ l2 then
some ((), h, nx)
else
gfR h l0 [9] 2 (fun v4 =>
nn v4 (fun p5 =>
alR (g_c G 6) h p5 ((l1 + (nI 1))) (fun v6 =>
gfR h l0 [9] 2 (fun v7 =>
nn v7 (fun p8 =>
alR (g_c G 6) h p8 l1 (fun v9 =>
nn v9 (fun p10 =>
alI (g_c G 0) h p10 l2 (fun v11 =>
nn v6 (fun p12 =>
asI (g_c G 0) id h p12 l2 ((v11 + (nI 1))) (fun h13 =>
nm (l2 + (nI 1)) (fun v14 =>
(k2 h13 nx l0 l1 v14)))))))))))))))) n
theorem F_X9_goOver_2_0 {G : Gx} {h : Hp} {nx : Nat} {l0 : Nat} {l1 : Int32} {l2 : Int32} : F_X9_goOver_2 G 0 h nx l0 l1 l2 = none := rfl
theorem F_X9_goOver_2_s {G : Gx} {n : Nat} {h : Hp} {nx : Nat} {l0 : Nat} {l1 : Int32} {l2 : Int32} : F_X9_goOver_2 G (n + 1) h nx l0 l1 l2 = (
gfR h l0 [9] 1 (fun v1 =>
nn v1 (fun p2 =>
gfI h p2 [0] 11 (fun v3 =>
if v3 ≤ l2 then
some ((), h, nx)
else
gfR h l0 [9] 2 (fun v4 =>
nn v4 (fun p5 =>
alR (g_c G 6) h p5 ((l1 + (nI 1))) (fun v6 =>
gfR h l0 [9] 2 (fun v7 =>
nn v7 (fun p8 =>
alR (g_c G 6) h p8 l1 (fun v9 =>
nn v9 (fun p10 =>
alI (g_c G 0) h p10 l2 (fun v11 =>
nn v6 (fun p12 =>
asI (g_c G 0) id h p12 l2 ((v11 + (nI 1))) (fun h13 =>
nm (l2 + (nI 1)) (fun v14 =>
((F_X9_goOver_2 G n) h13 nx l0 l1 v14)))))))))))))))) := rfl
set_option maxRecDepth 100000 in
set_option maxHeartbeats 4000000 in
theorem k_X9_goOver_2 {G : Gx} {d : Nat} {v' : Unit} {h' : Hp} {n' : Nat} : ∀ (n : Nat) {h : Hp} {nx : Nat} {l0 : Nat} {l1 : Int32} {l2 : Int32}, F_X9_goOver_2 G n h nx l0 l1 l2 = some (v', h', n') → Ok G mX9_goOver (d + 0) (Same none h' n') 2 [some (.ref l0), some (.int l1), some (.int l2)] [] h nx 0 0 := by
  intro n
  induction n with
  | zero =>
    intro h nx l0 l1 l2 e
    rw [F_X9_goOver_2_0] at e
    cases e
  | succ n K2 =>
    intro h nx l0 l1 l2 e
    rw [F_X9_goOver_2_s] at e
    refine Ok.iload_n dX9_goOver_2 rfl ?_
    refine Ok.aload_n dX9_goOver_3 rfl ?_
    refine X.rgfR fl_RX9_53 dX9_goOver_4 e (fun v1 e1 => ?_)
    clear e
    refine X.rnn e1 (fun p2 q e2 => ?_)
    clear e1
    subst q
    refine X.rgfI fl_RX9_83 dX9_goOver_7 e2 (fun v3 e3 => ?_)
    clear e2
    refine X.icmp_ge (tgt := 39) dX9_goOver_10 (by decide) e3 (fun e4 => ?_) (fun e4 => ?_)
    · clear e3
      exact X.vret dX9_goOver_39 rfl (Nat.le_of_ble_eq_true rfl) (Nat.le_of_ble_eq_true rfl) e4
    · clear e3
      refine Ok.aload_n dX9_goOver_13 rfl ?_
      refine X.rgfR fl_RX9_11 dX9_goOver_14 e4 (fun v4 e5 => ?_)
      clear e4
      refine Ok.iload_n dX9_goOver_17 rfl ?_
      refine Ok.iconstV (v := (nI 1)) dX9_goOver_18 (by decide +kernel) ?_
      refine Ok.iadd dX9_goOver_19 ?_
      refine X.rnn e5 (fun p5 q e6 => ?_)
      clear e5
      subst q
      refine X.gald dX9_goOver_20 e6 (fun v6 e7 => ?_)
      clear e6
      refine Ok.iload_n dX9_goOver_21 rfl ?_
      refine Ok.aload_n dX9_goOver_22 rfl ?_
      refine X.rgfR fl_RX9_11 dX9_goOver_23 e7 (fun v7 e8 => ?_)
      clear e7
      refine Ok.iload_n dX9_goOver_26 rfl ?_
      refine X.rnn e8 (fun p8 q e9 => ?_)
      clear e8
      subst q
      refine X.gald dX9_goOver_27 e9 (fun v9 e10 => ?_)
      clear e9
      refine Ok.iload_n dX9_goOver_28 rfl ?_
      refine X.rnn e10 (fun p10 q e11 => ?_)
      clear e10
      subst q
      refine X.iald dX9_goOver_29 e11 (fun v11 e12 => ?_)
      clear e11
      refine Ok.iconstV (v := (nI 1)) dX9_goOver_30 (by decide +kernel) ?_
      refine Ok.iadd dX9_goOver_31 ?_
      refine X.rnn e12 (fun p12 q e13 => ?_)
      clear e12
      subst q
      refine X.iast dX9_goOver_32 e13 (fun h13 e14 => ?_)
      clear e13
      refine X.iinc dX9_goOver_33 rfl (by decide) (by decide +kernel) e14 (L := fun v14 => [some (.ref l0), some (.int l1), some (.int v14)]) (fun _ => rfl) (fun v14 e15 => ?_)
      clear e14
      refine Ok.goto (tgt := 2) dX9_goOver_36 (by decide) ?_
      exact Ok.weakL (K2 e15) ⟨rfl, ⟨rfl, ⟨rfl, trivial⟩⟩⟩
noncomputable def F_X9_goOver (G : Gx) (h : Hp) (nx : Nat) (a0 : Nat) (a1 : Int32) : Rz Unit :=
(F_X9_goOver_2 G fuelL h nx a0 a1 (nI 0))
set_option maxRecDepth 100000 in
set_option maxHeartbeats 4000000 in
theorem k_X9_goOver {G : Gx} {d : Nat} {h : Hp} {nx : Nat} {a0 : Nat} {a1 : Int32} {v' : Unit} {h' : Hp} {n' : Nat} (e : F_X9_goOver G h nx a0 a1 = some (v', h', n')) : Ct G mX9_goOver (d + 0) (Same none h' n') [.ref a0, .int a1] h nx := by
  unfold F_X9_goOver at e
  refine Ct.of (ls := [some (.ref a0), some (.int a1), none]) (by decide +kernel) rfl (Nat.le_of_ble_eq_true rfl) rfl ?_
  refine Ok.iconstV (v := (nI 0)) dX9_goOver_0 (by decide +kernel) ?_
  refine XL.istore_n dX9_goOver_1 (by decide) (L := [some (.ref a0), some (.int a1), some (.int (nI 0))]) rfl ?_
  exact Ok.weakL (k_X9_goOver_2 (d := d) fuelL e) ⟨rfl, ⟨rfl, ⟨rfl, trivial⟩⟩⟩
noncomputable def F_X9_behindBestLooks_62 (G : Gx) (c_X9_behindBestLooks : Hp → Nat → Nat → Int32 → Rz Int64) (c_X9_behindDay : Hp → Nat → Nat → Int32 → Rz Int64) (c_X9_behindLooks : Hp → Nat → Nat → Int32 → Int32 → Rz Int64) (c_X9_fromDay : Hp → Nat → Nat → Int32 → Rz Int64) (k7 : Hp → Nat → Nat → Int32 → Int64 → Int32 → Rz Int64) (h : Hp) (nx : Nat) (l0 : Nat) (l1 : Int32) (l2 : Int64) (l4 : Int32) : Rz Int64 :=
nm (l4 + (nI 1)) (fun v1 =>
(k7 h nx l0 l1 l2 v1))
set_option maxRecDepth 100000 in
set_option maxHeartbeats 4000000 in
theorem k_X9_behindBestLooks_62 {G : Gx} {d : Nat} {v' : Int64} {h' : Hp} {n' : Nat} {c_X9_behindBestLooks : Hp → Nat → Nat → Int32 → Rz Int64} (C_X9_behindBestLooks : ∀ {h : Hp} {nx : Nat} {b0 : Nat} {b1 : Int32} {v : Int64} {h1 : Hp} {n1 : Nat}, c_X9_behindBestLooks h nx b0 b1 = some (v, h1, n1) → Ct G mX9_behindBestLooks (d + 5) (Same (some (.long v)) h1 n1) [.ref b0, .int b1] h nx) {c_X9_behindDay : Hp → Nat → Nat → Int32 → Rz Int64} (C_X9_behindDay : ∀ {h : Hp} {nx : Nat} {b0 : Nat} {b1 : Int32} {v : Int64} {h1 : Hp} {n1 : Nat}, c_X9_behindDay h nx b0 b1 = some (v, h1, n1) → Ct G mX9_behindDay (d + 5) (Same (some (.long v)) h1 n1) [.ref b0, .int b1] h nx) {c_X9_behindLooks : Hp → Nat → Nat → Int32 → Int32 → Rz Int64} (C_X9_behindLooks : ∀ {h : Hp} {nx : Nat} {b0 : Nat} {b1 : Int32} {b2 : Int32} {v : Int64} {h1 : Hp} {n1 : Nat}, c_X9_behindLooks h nx b0 b1 b2 = some (v, h1, n1) → Ct G mX9_behindLooks (d + 5) (Same (some (.long v)) h1 n1) [.ref b0, .int b1, .int b2] h nx) {c_X9_fromDay : Hp → Nat → Nat → Int32 → Rz Int64} (C_X9_fromDay : ∀ {h : Hp} {nx : Nat} {b0 : Nat} {b1 : Int32} {v : Int64} {h1 : Hp} {n1 : Nat}, c_X9_fromDay h nx b0 b1 = some (v, h1, n1) → Ct G mX9_fromDay (d + 5) (Same (some (.long v)) h1 n1) [.ref b0, .int b1] h nx) {k7 : Hp → Nat → Nat → Int32 → Int64 → Int32 → Rz Int64} (K7 : ∀ {h : Hp} {nx : Nat} {l0 : Nat} {l1 : Int32} {l2 : Int64} {l4 : Int32}, k7 h nx l0 l1 l2 l4 = some (v', h', n') → Ok G mX9_behindBestLooks (d + 6) (Same (some (.long v')) h' n') 7 [some (.ref l0), some (.int l1), some (.long l2), none, some (.int l4), none, none] [] h nx 0 0) {h : Hp} {nx : Nat} {l0 : Nat} {l1 : Int32} {l2 : Int64} {l4 : Int32} (e : F_X9_behindBestLooks_62 G c_X9_behindBestLooks c_X9_behindDay c_X9_behindLooks c_X9_fromDay k7 h nx l0 l1 l2 l4 = some (v', h', n')) : Ok G mX9_behindBestLooks (d + 6) (Same (some (.long v')) h' n') 62 [some (.ref l0), some (.int l1), some (.long l2), none, some (.int l4), none, none] [] h nx 0 0 := by
  unfold F_X9_behindBestLooks_62 at e
  refine X.iinc dX9_behindBestLooks_62 rfl (by decide) (by decide +kernel) e (L := fun v1 => [some (.ref l0), some (.int l1), some (.long l2), none, some (.int v1), none, none]) (fun _ => rfl) (fun v1 e1 => ?_)
  clear e
  refine Ok.goto (tgt := 7) dX9_behindBestLooks_65 (by decide) ?_
  exact Ok.weakL (K7 e1) ⟨rfl, ⟨rfl, ⟨rfl, ⟨rfl, trivial⟩⟩⟩⟩
noncomputable def F_X9_behindBestLooks_59 (G : Gx) (c_X9_behindBestLooks : Hp → Nat → Nat → Int32 → Rz Int64) (c_X9_behindDay : Hp → Nat → Nat → Int32 → Rz Int64) (c_X9_behindLooks : Hp → Nat → Nat → Int32 → Int32 → Rz Int64) (c_X9_fromDay : Hp → Nat → Nat → Int32 → Rz Int64) (k7 : Hp → Nat → Nat → Int32 → Int64 → Int32 → Rz Int64) (h : Hp) (nx : Nat) (s0 : Nat) (s1 : Int32) (l0 : Nat) (l1 : Int32) (l2 : Int64) (l4 : Int32) : Rz Int64 :=
pfV h s0 [9] 9 (.int s1) (fun h1 =>
(F_X9_behindBestLooks_62 G c_X9_behindBestLooks c_X9_behindDay c_X9_behindLooks c_X9_fromDay k7 h1 nx l0 l1 l2 l4))
set_option maxRecDepth 100000 in
set_option maxHeartbeats 4000000 in
theorem k_X9_behindBestLooks_59 {G : Gx} {d : Nat} {v' : Int64} {h' : Hp} {n' : Nat} {c_X9_behindBestLooks : Hp → Nat → Nat → Int32 → Rz Int64} (C_X9_behindBestLooks : ∀ {h : Hp} {nx : Nat} {b0 : Nat} {b1 : Int32} {v : Int64} {h1 : Hp} {n1 : Nat}, c_X9_behindBestLooks h nx b0 b1 = some (v, h1, n1) → Ct G mX9_behindBestLooks (d + 5) (Same (some (.long v)) h1 n1) [.ref b0, .int b1] h nx) {c_X9_behindDay : Hp → Nat → Nat → Int32 → Rz Int64} (C_X9_behindDay : ∀ {h : Hp} {nx : Nat} {b0 : Nat} {b1 : Int32} {v : Int64} {h1 : Hp} {n1 : Nat}, c_X9_behindDay h nx b0 b1 = some (v, h1, n1) → Ct G mX9_behindDay (d + 5) (Same (some (.long v)) h1 n1) [.ref b0, .int b1] h nx) {c_X9_behindLooks : Hp → Nat → Nat → Int32 → Int32 → Rz Int64} (C_X9_behindLooks : ∀ {h : Hp} {nx : Nat} {b0 : Nat} {b1 : Int32} {b2 : Int32} {v : Int64} {h1 : Hp} {n1 : Nat}, c_X9_behindLooks h nx b0 b1 b2 = some (v, h1, n1) → Ct G mX9_behindLooks (d + 5) (Same (some (.long v)) h1 n1) [.ref b0, .int b1, .int b2] h nx) {c_X9_fromDay : Hp → Nat → Nat → Int32 → Rz Int64} (C_X9_fromDay : ∀ {h : Hp} {nx : Nat} {b0 : Nat} {b1 : Int32} {v : Int64} {h1 : Hp} {n1 : Nat}, c_X9_fromDay h nx b0 b1 = some (v, h1, n1) → Ct G mX9_fromDay (d + 5) (Same (some (.long v)) h1 n1) [.ref b0, .int b1] h nx) {k7 : Hp → Nat → Nat → Int32 → Int64 → Int32 → Rz Int64} (K7 : ∀ {h : Hp} {nx : Nat} {l0 : Nat} {l1 : Int32} {l2 : Int64} {l4 : Int32}, k7 h nx l0 l1 l2 l4 = some (v', h', n') → Ok G mX9_behindBestLooks (d + 6) (Same (some (.long v')) h' n') 7 [some (.ref l0), some (.int l1), some (.long l2), none, some (.int l4), none, none] [] h nx 0 0) {h : Hp} {nx : Nat} {s0 : Nat} {s1 : Int32} {l0 : Nat} {l1 : Int32} {l2 : Int64} {l4 : Int32} (e : F_X9_behindBestLooks_59 G c_X9_behindBestLooks c_X9_behindDay c_X9_behindLooks c_X9_fromDay k7 h nx s0 s1 l0 l1 l2 l4 = some (v', h', n')) : Ok G mX9_behindBestLooks (d + 6) (Same (some (.long v')) h' n') 59 [some (.ref l0), some (.int l1), some (.long l2), none, some (.int l4), none, none] [.int s1, .ref s0] h nx 0 0 := by
  unfold F_X9_behindBestLooks_59 at e
  refine X.rpfV (v := (.int s1)) fp_RX9_37 rfl rfl dX9_behindBestLooks_59 e (fun h1 e1 => ?_)
  clear e
  exact Ok.weakL (k_X9_behindBestLooks_62 (d := d) C_X9_behindBestLooks C_X9_behindDay C_X9_behindLooks C_X9_fromDay K7 e1) ⟨rfl, ⟨rfl, ⟨rfl, ⟨rfl, trivial⟩⟩⟩⟩
noncomputable def F_X9_behindBestLooks_7 (G : Gx) (c_X9_behindBestLooks : Hp → Nat → Nat → Int32 → Rz Int64) (c_X9_behindDay : Hp → Nat → Nat → Int32 → Rz Int64) (c_X9_behindLooks : Hp → Nat → Nat → Int32 → Int32 → Rz Int64) (c_X9_fromDay : Hp → Nat → Nat → Int32 → Rz Int64) : Nat → Hp → Nat → Nat → Int32 → Int64 → Int32 → Rz Int64 := fun n => Nat.rec (motive := fun _ => Hp → Nat → Nat → Int32 → Int64 → Int32 → Rz Int64) (fun _ _ _ _ _ _ => none) (fun _ k7 => fun h nx l0 l1 l2 l4 =>
gfI h l0 [9] 7 (fun v1 =>
if v1 ≤ l4 then
some (l2, h, nx)
else
gfR h l0 [9] 6 (fun v2 =>
nn v2 (fun p3 =>
alI (g_c G 0) h p3 l4 (fun v4 =>
ck h l0 [9] (fun _ =>
cl (c_X9_behindLooks h nx l0 l1 v4) (fun r5 h6 n7 =>
if ((lg_cmp r5 l2)) ≤ 0 then
(F_X9_behindBestLooks_62 G c_X9_behindBestLooks c_X9_behindDay c_X9_behindLooks c_X9_fromDay k7 h6 n7 l0 l1 l2 l4)
else
if l1 = 0 then
gfR h6 l0 [9] 6 (fun v9 =>
nn v9 (fun p10 =>
alI (g_c G 0) h6 p10 l4 (fun v11 =>
(F_X9_behindBestLooks_59 G c_X9_behindBestLooks c_X9_behindDay c_X9_behindLooks c_X9_fromDay k7 h6 n7 l0 v11 l0 l1 r5 l4))))
else
gfI h6 l0 [9] 9 (fun v8 =>
(F_X9_behindBestLooks_59 G c_X9_behindBestLooks c_X9_behindDay c_X9_behindLooks c_X9_fromDay k7 h6 n7 l0 v8 l0 l1 r5 l4))))))))) n
theorem F_X9_behindBestLooks_7_0 {G : Gx} (c_X9_behindBestLooks : Hp → Nat → Nat → Int32 → Rz Int64) (c_X9_behindDay : Hp → Nat → Nat → Int32 → Rz Int64) (c_X9_behindLooks : Hp → Nat → Nat → Int32 → Int32 → Rz Int64) (c_X9_fromDay : Hp → Nat → Nat → Int32 → Rz Int64) {h : Hp} {nx : Nat} {l0 : Nat} {l1 : Int32} {l2 : Int64} {l4 : Int32} : F_X9_behindBestLooks_7 G c_X9_behindBestLooks c_X9_behindDay c_X9_behindLooks c_X9_fromDay 0 h nx l0 l1 l2 l4 = none := rfl
theorem F_X9_behindBestLooks_7_s {G : Gx} (c_X9_behindBestLooks : Hp → Nat → Nat → Int32 → Rz Int64) (c_X9_behindDay : Hp → Nat → Nat → Int32 → Rz Int64) (c_X9_behindLooks : Hp → Nat → Nat → Int32 → Int32 → Rz Int64) (c_X9_fromDay : Hp → Nat → Nat → Int32 → Rz Int64) {n : Nat} {h : Hp} {nx : Nat} {l0 : Nat} {l1 : Int32} {l2 : Int64} {l4 : Int32} : F_X9_behindBestLooks_7 G c_X9_behindBestLooks c_X9_behindDay c_X9_behindLooks c_X9_fromDay (n + 1) h nx l0 l1 l2 l4 = (
gfI h l0 [9] 7 (fun v1 =>
if v1 ≤ l4 then
some (l2, h, nx)
else
gfR h l0 [9] 6 (fun v2 =>
nn v2 (fun p3 =>
alI (g_c G 0) h p3 l4 (fun v4 =>
ck h l0 [9] (fun _ =>
cl (c_X9_behindLooks h nx l0 l1 v4) (fun r5 h6 n7 =>
if ((lg_cmp r5 l2)) ≤ 0 then
(F_X9_behindBestLooks_62 G c_X9_behindBestLooks c_X9_behindDay c_X9_behindLooks c_X9_fromDay (F_X9_behindBestLooks_7 G c_X9_behindBestLooks c_X9_behindDay c_X9_behindLooks c_X9_fromDay n) h6 n7 l0 l1 l2 l4)
else
if l1 = 0 then
gfR h6 l0 [9] 6 (fun v9 =>
nn v9 (fun p10 =>
alI (g_c G 0) h6 p10 l4 (fun v11 =>
(F_X9_behindBestLooks_59 G c_X9_behindBestLooks c_X9_behindDay c_X9_behindLooks c_X9_fromDay (F_X9_behindBestLooks_7 G c_X9_behindBestLooks c_X9_behindDay c_X9_behindLooks c_X9_fromDay n) h6 n7 l0 v11 l0 l1 r5 l4))))
else
gfI h6 l0 [9] 9 (fun v8 =>
(F_X9_behindBestLooks_59 G c_X9_behindBestLooks c_X9_behindDay c_X9_behindLooks c_X9_fromDay (F_X9_behindBestLooks_7 G c_X9_behindBestLooks c_X9_behindDay c_X9_behindLooks c_X9_fromDay n) h6 n7 l0 v8 l0 l1 r5 l4))))))))) := rfl
set_option maxRecDepth 100000 in
set_option maxHeartbeats 4000000 in
theorem k_X9_behindBestLooks_7 {G : Gx} {d : Nat} {v' : Int64} {h' : Hp} {n' : Nat} {c_X9_behindBestLooks : Hp → Nat → Nat → Int32 → Rz Int64} (C_X9_behindBestLooks : ∀ {h : Hp} {nx : Nat} {b0 : Nat} {b1 : Int32} {v : Int64} {h1 : Hp} {n1 : Nat}, c_X9_behindBestLooks h nx b0 b1 = some (v, h1, n1) → Ct G mX9_behindBestLooks (d + 5) (Same (some (.long v)) h1 n1) [.ref b0, .int b1] h nx) {c_X9_behindDay : Hp → Nat → Nat → Int32 → Rz Int64} (C_X9_behindDay : ∀ {h : Hp} {nx : Nat} {b0 : Nat} {b1 : Int32} {v : Int64} {h1 : Hp} {n1 : Nat}, c_X9_behindDay h nx b0 b1 = some (v, h1, n1) → Ct G mX9_behindDay (d + 5) (Same (some (.long v)) h1 n1) [.ref b0, .int b1] h nx) {c_X9_behindLooks : Hp → Nat → Nat → Int32 → Int32 → Rz Int64} (C_X9_behindLooks : ∀ {h : Hp} {nx : Nat} {b0 : Nat} {b1 : Int32} {b2 : Int32} {v : Int64} {h1 : Hp} {n1 : Nat}, c_X9_behindLooks h nx b0 b1 b2 = some (v, h1, n1) → Ct G mX9_behindLooks (d + 5) (Same (some (.long v)) h1 n1) [.ref b0, .int b1, .int b2] h nx) {c_X9_fromDay : Hp → Nat → Nat → Int32 → Rz Int64} (C_X9_fromDay : ∀ {h : Hp} {nx : Nat} {b0 : Nat} {b1 : Int32} {v : Int64} {h1 : Hp} {n1 : Nat}, c_X9_fromDay h nx b0 b1 = some (v, h1, n1) → Ct G mX9_fromDay (d + 5) (Same (some (.long v)) h1 n1) [.ref b0, .int b1] h nx) : ∀ (n : Nat) {h : Hp} {nx : Nat} {l0 : Nat} {l1 : Int32} {l2 : Int64} {l4 : Int32}, F_X9_behindBestLooks_7 G c_X9_behindBestLooks c_X9_behindDay c_X9_behindLooks c_X9_fromDay n h nx l0 l1 l2 l4 = some (v', h', n') → Ok G mX9_behindBestLooks (d + 6) (Same (some (.long v')) h' n') 7 [some (.ref l0), some (.int l1), some (.long l2), none, some (.int l4), none, none] [] h nx 0 0 := by
  intro n
  induction n with
  | zero =>
    intro h nx l0 l1 l2 l4 e
    rw [F_X9_behindBestLooks_7_0] at e
    cases e
  | succ n K7 =>
    intro h nx l0 l1 l2 l4 e
    rw [F_X9_behindBestLooks_7_s] at e
    refine Ok.iload dX9_behindBestLooks_7 rfl ?_
    refine Ok.aload_n dX9_behindBestLooks_9 rfl ?_
    refine X.rgfI fl_RX9_31 dX9_behindBestLooks_10 e (fun v1 e1 => ?_)
    clear e
    refine X.icmp_ge (tgt := 68) dX9_behindBestLooks_13 (by decide) e1 (fun e2 => ?_) (fun e2 => ?_)
    · clear e1
      refine Ok.lload_n dX9_behindBestLooks_68 rfl ?_
      exact X.lret dX9_behindBestLooks_69 rfl (Nat.le_of_ble_eq_true rfl) (Nat.le_of_ble_eq_true rfl) e2
    · clear e1
      refine Ok.aload_n dX9_behindBestLooks_16 rfl ?_
      refine Ok.iload_n dX9_behindBestLooks_17 rfl ?_
      refine Ok.aload_n dX9_behindBestLooks_18 rfl ?_
      refine X.rgfR fl_RX9_28 dX9_behindBestLooks_19 e2 (fun v2 e3 => ?_)
      clear e2
      refine Ok.iload dX9_behindBestLooks_22 rfl ?_
      refine X.rnn e3 (fun p3 q e4 => ?_)
      clear e3
      subst q
      refine X.iald dX9_behindBestLooks_24 e4 (fun v4 e5 => ?_)
      clear e4
      refine X.rck e5 (fun c fs hb hc e6 => ?_)
      clear e5
      obtain rfl := List.mem_singleton.mp hc
      refine X.callV (My := mX9_behindLooks) (n := 2) (As := [.int l1, .int v4]) (T := (fun v => (some (.long v)))) (stk' := (fun v => [.long v])) (rest := []) (kc' := 0) (ks' := 0) dX9_behindBestLooks_25 e6 (fun v h n e => C_X9_behindLooks e) hb rfl wd830 wd79 wd829 wd16 wd827 (by decide +kernel) rfl (by decide) rfl rfl (Nat.le_of_ble_eq_true rfl) (Nat.le_of_ble_eq_true rfl) (Nat.le_of_ble_eq_true rfl) rfl rfl (fun _ => rfl) (fun r5 h6 n7 e7 => ?_)
      clear e6
      refine XL.lstore dX9_behindBestLooks_28 (by decide) (L := [some (.ref l0), some (.int l1), some (.long l2), none, some (.int l4), some (.long r5), none]) rfl ?_
      refine Ok.lload dX9_behindBestLooks_30 rfl ?_
      refine Ok.lload_n dX9_behindBestLooks_32 rfl ?_
      refine Ok.lcmp dX9_behindBestLooks_33 ?_
      refine X.if_le (tgt := 62) dX9_behindBestLooks_34 (by decide) e7 (fun e8 => ?_) (fun e8 => ?_)
      · clear e7
        exact Ok.weakL (k_X9_behindBestLooks_62 (d := d) C_X9_behindBestLooks C_X9_behindDay C_X9_behindLooks C_X9_fromDay K7 e8) ⟨rfl, ⟨rfl, ⟨rfl, ⟨rfl, trivial⟩⟩⟩⟩
      · clear e7
        refine Ok.lload dX9_behindBestLooks_37 rfl ?_
        refine XL.lstore_n dX9_behindBestLooks_39 (by decide) (L := [some (.ref l0), some (.int l1), some (.long r5), none, some (.int l4), some (.long r5), none]) rfl ?_
        refine Ok.aload_n dX9_behindBestLooks_40 rfl ?_
        refine Ok.iload_n dX9_behindBestLooks_41 rfl ?_
        refine X.if_ne (tgt := 55) dX9_behindBestLooks_42 (by decide) e8 (fun e9 => ?_) (fun e9 => ?_)
        · clear e8
          refine Ok.aload_n dX9_behindBestLooks_55 rfl ?_
          refine X.rgfI fl_RX9_37 dX9_behindBestLooks_56 e9 (fun v8 e10 => ?_)
          clear e9
          exact Ok.weakL (k_X9_behindBestLooks_59 (d := d) C_X9_behindBestLooks C_X9_behindDay C_X9_behindLooks C_X9_fromDay K7 e10) ⟨rfl, ⟨rfl, ⟨rfl, ⟨rfl, trivial⟩⟩⟩⟩
        · clear e8
          refine Ok.aload_n dX9_behindBestLooks_45 rfl ?_
          refine X.rgfR fl_RX9_28 dX9_behindBestLooks_46 e9 (fun v9 e10 => ?_)
          clear e9
          refine Ok.iload dX9_behindBestLooks_49 rfl ?_
          refine X.rnn e10 (fun p10 q e11 => ?_)
          clear e10
          subst q
          refine X.iald dX9_behindBestLooks_51 e11 (fun v11 e12 => ?_)
          clear e11
          refine Ok.goto (tgt := 59) dX9_behindBestLooks_52 (by decide) ?_
          exact Ok.weakL (k_X9_behindBestLooks_59 (d := d) C_X9_behindBestLooks C_X9_behindDay C_X9_behindLooks C_X9_fromDay K7 e12) ⟨rfl, ⟨rfl, ⟨rfl, ⟨rfl, trivial⟩⟩⟩⟩
noncomputable def B_X9_behindBestLooks (G : Gx) (c_X9_behindBestLooks : Hp → Nat → Nat → Int32 → Rz Int64) (c_X9_behindDay : Hp → Nat → Nat → Int32 → Rz Int64) (c_X9_behindLooks : Hp → Nat → Nat → Int32 → Int32 → Rz Int64) (c_X9_fromDay : Hp → Nat → Nat → Int32 → Rz Int64) (h : Hp) (nx : Nat) (a0 : Nat) (a1 : Int32) : Rz Int64 :=
(F_X9_behindBestLooks_7 G c_X9_behindBestLooks c_X9_behindDay c_X9_behindLooks c_X9_fromDay fuelL h nx a0 a1 (-9223372036854775808 : Int64) (nI 0))
set_option maxRecDepth 100000 in
set_option maxHeartbeats 4000000 in
theorem b_X9_behindBestLooks {G : Gx} {d : Nat} {c_X9_behindBestLooks : Hp → Nat → Nat → Int32 → Rz Int64} (C_X9_behindBestLooks : ∀ {h : Hp} {nx : Nat} {b0 : Nat} {b1 : Int32} {v : Int64} {h1 : Hp} {n1 : Nat}, c_X9_behindBestLooks h nx b0 b1 = some (v, h1, n1) → Ct G mX9_behindBestLooks (d + 5) (Same (some (.long v)) h1 n1) [.ref b0, .int b1] h nx) {c_X9_behindDay : Hp → Nat → Nat → Int32 → Rz Int64} (C_X9_behindDay : ∀ {h : Hp} {nx : Nat} {b0 : Nat} {b1 : Int32} {v : Int64} {h1 : Hp} {n1 : Nat}, c_X9_behindDay h nx b0 b1 = some (v, h1, n1) → Ct G mX9_behindDay (d + 5) (Same (some (.long v)) h1 n1) [.ref b0, .int b1] h nx) {c_X9_behindLooks : Hp → Nat → Nat → Int32 → Int32 → Rz Int64} (C_X9_behindLooks : ∀ {h : Hp} {nx : Nat} {b0 : Nat} {b1 : Int32} {b2 : Int32} {v : Int64} {h1 : Hp} {n1 : Nat}, c_X9_behindLooks h nx b0 b1 b2 = some (v, h1, n1) → Ct G mX9_behindLooks (d + 5) (Same (some (.long v)) h1 n1) [.ref b0, .int b1, .int b2] h nx) {c_X9_fromDay : Hp → Nat → Nat → Int32 → Rz Int64} (C_X9_fromDay : ∀ {h : Hp} {nx : Nat} {b0 : Nat} {b1 : Int32} {v : Int64} {h1 : Hp} {n1 : Nat}, c_X9_fromDay h nx b0 b1 = some (v, h1, n1) → Ct G mX9_fromDay (d + 5) (Same (some (.long v)) h1 n1) [.ref b0, .int b1] h nx) {h : Hp} {nx : Nat} {a0 : Nat} {a1 : Int32} {v' : Int64} {h' : Hp} {n' : Nat} (e : B_X9_behindBestLooks G c_X9_behindBestLooks c_X9_behindDay c_X9_behindLooks c_X9_fromDay h nx a0 a1 = some (v', h', n')) : Ct G mX9_behindBestLooks (d + 6) (Same (some (.long v')) h' n') [.ref a0, .int a1] h nx := by
  unfold B_X9_behindBestLooks at e
  refine Ct.of (ls := [some (.ref a0), some (.int a1), none, none, none, none, none]) (by decide +kernel) rfl (Nat.le_of_ble_eq_true rfl) rfl ?_
  refine Ok.ldc2_w (v := -9223372036854775808) dX9_behindBestLooks_0 wd855 ?_
  refine XL.lstore_n dX9_behindBestLooks_3 (by decide) (L := [some (.ref a0), some (.int a1), some (.long (-9223372036854775808 : Int64)), none, none, none, none]) rfl ?_
  refine Ok.iconstV (v := (nI 0)) dX9_behindBestLooks_4 (by decide +kernel) ?_
  refine XL.istore dX9_behindBestLooks_5 (by decide) (L := [some (.ref a0), some (.int a1), some (.long (-9223372036854775808 : Int64)), none, some (.int (nI 0)), none, none]) rfl ?_
  exact Ok.weakL (k_X9_behindBestLooks_7 (d := d) C_X9_behindBestLooks C_X9_behindDay C_X9_behindLooks C_X9_fromDay fuelL e) ⟨rfl, ⟨rfl, ⟨rfl, ⟨rfl, trivial⟩⟩⟩⟩
noncomputable def B_X9_behindDay (G : Gx) (c_X9_behindBestLooks : Hp → Nat → Nat → Int32 → Rz Int64) (c_X9_behindDay : Hp → Nat → Nat → Int32 → Rz Int64) (c_X9_behindLooks : Hp → Nat → Nat → Int32 → Int32 → Rz Int64) (c_X9_fromDay : Hp → Nat → Nat → Int32 → Rz Int64) (h : Hp) (nx : Nat) (a0 : Nat) (a1 : Int32) : Rz Int64 :=
gfI h a0 [9] 8 (fun v1 =>
if a1 < ((v1 - (nI 1))) then
ck h a0 [9] (fun _ =>
cl (F_X9_goOver G h nx a0 a1) (fun _ h3 n4 =>
ck h3 a0 [9] (fun _ =>
cl (c_X9_fromDay h3 n4 a0 ((a1 + (nI 1)))) (fun r5 h6 n7 =>
some (r5, h6, n7)))))
else
some ((0 : Int64), h, nx))
set_option maxRecDepth 100000 in
set_option maxHeartbeats 4000000 in
theorem b_X9_behindDay {G : Gx} {d : Nat} {c_X9_behindBestLooks : Hp → Nat → Nat → Int32 → Rz Int64} (C_X9_behindBestLooks : ∀ {h : Hp} {nx : Nat} {b0 : Nat} {b1 : Int32} {v : Int64} {h1 : Hp} {n1 : Nat}, c_X9_behindBestLooks h nx b0 b1 = some (v, h1, n1) → Ct G mX9_behindBestLooks (d + 5) (Same (some (.long v)) h1 n1) [.ref b0, .int b1] h nx) {c_X9_behindDay : Hp → Nat → Nat → Int32 → Rz Int64} (C_X9_behindDay : ∀ {h : Hp} {nx : Nat} {b0 : Nat} {b1 : Int32} {v : Int64} {h1 : Hp} {n1 : Nat}, c_X9_behindDay h nx b0 b1 = some (v, h1, n1) → Ct G mX9_behindDay (d + 5) (Same (some (.long v)) h1 n1) [.ref b0, .int b1] h nx) {c_X9_behindLooks : Hp → Nat → Nat → Int32 → Int32 → Rz Int64} (C_X9_behindLooks : ∀ {h : Hp} {nx : Nat} {b0 : Nat} {b1 : Int32} {b2 : Int32} {v : Int64} {h1 : Hp} {n1 : Nat}, c_X9_behindLooks h nx b0 b1 b2 = some (v, h1, n1) → Ct G mX9_behindLooks (d + 5) (Same (some (.long v)) h1 n1) [.ref b0, .int b1, .int b2] h nx) {c_X9_fromDay : Hp → Nat → Nat → Int32 → Rz Int64} (C_X9_fromDay : ∀ {h : Hp} {nx : Nat} {b0 : Nat} {b1 : Int32} {v : Int64} {h1 : Hp} {n1 : Nat}, c_X9_fromDay h nx b0 b1 = some (v, h1, n1) → Ct G mX9_fromDay (d + 5) (Same (some (.long v)) h1 n1) [.ref b0, .int b1] h nx) {h : Hp} {nx : Nat} {a0 : Nat} {a1 : Int32} {v' : Int64} {h' : Hp} {n' : Nat} (e : B_X9_behindDay G c_X9_behindBestLooks c_X9_behindDay c_X9_behindLooks c_X9_fromDay h nx a0 a1 = some (v', h', n')) : Ct G mX9_behindDay (d + 6) (Same (some (.long v')) h' n') [.ref a0, .int a1] h nx := by
  unfold B_X9_behindDay at e
  refine Ct.of (ls := [some (.ref a0), some (.int a1)]) (by decide +kernel) rfl (Nat.le_of_ble_eq_true rfl) rfl ?_
  refine Ok.iload_n dX9_behindDay_0 rfl ?_
  refine Ok.aload_n dX9_behindDay_1 rfl ?_
  refine X.rgfI fl_RX9_34 dX9_behindDay_2 e (fun v1 e1 => ?_)
  clear e
  refine Ok.iconstV (v := (nI 1)) dX9_behindDay_5 (by decide +kernel) ?_
  refine Ok.isub dX9_behindDay_6 ?_
  refine X.icmp_lt (tgt := 12) dX9_behindDay_7 (by decide) e1 (fun e2 => ?_) (fun e2 => ?_)
  · clear e1
    refine Ok.aload_n dX9_behindDay_12 rfl ?_
    refine Ok.iload_n dX9_behindDay_13 rfl ?_
    refine X.rck e2 (fun c fs hb hc e3 => ?_)
    clear e2
    obtain rfl := List.mem_singleton.mp hc
    refine X.callV (My := mX9_goOver) (n := 1) (As := [.int a1]) (T := (fun v => none)) (stk' := (fun _ => [])) (rest := []) (kc' := 0) (ks' := 0) dX9_behindDay_14 e3 (fun v h n e => k_X9_goOver (d := d + 5) e) hb rfl wd838 wd79 wd837 wd18 wd835 (by decide +kernel) rfl (by decide) rfl rfl (Nat.le_of_ble_eq_true rfl) (Nat.le_of_ble_eq_true rfl) (Nat.le_of_ble_eq_true rfl) rfl rfl (fun _ => rfl) (fun _ h3 n4 e4 => ?_)
    clear e3
    refine Ok.aload_n dX9_behindDay_17 rfl ?_
    refine Ok.iload_n dX9_behindDay_18 rfl ?_
    refine Ok.iconstV (v := (nI 1)) dX9_behindDay_19 (by decide +kernel) ?_
    refine Ok.iadd dX9_behindDay_20 ?_
    refine X.rck e4 (fun c fs hb hc e5 => ?_)
    clear e4
    obtain rfl := List.mem_singleton.mp hc
    refine X.callV (My := mX9_fromDay) (n := 1) (As := [.int ((a1 + (nI 1)))]) (T := (fun v => (some (.long v)))) (stk' := (fun v => [.long v])) (rest := []) (kc' := 0) (ks' := 0) dX9_behindDay_21 e5 (fun v h n e => C_X9_fromDay e) hb rfl wd825 wd79 wd824 wd15 wd822 (by decide +kernel) rfl (by decide) rfl rfl (Nat.le_of_ble_eq_true rfl) (Nat.le_of_ble_eq_true rfl) (Nat.le_of_ble_eq_true rfl) rfl rfl (fun _ => rfl) (fun r5 h6 n7 e6 => ?_)
    clear e5
    exact X.lret dX9_behindDay_24 rfl (Nat.le_of_ble_eq_true rfl) (Nat.le_of_ble_eq_true rfl) e6
  · clear e1
    refine XL.lconst (v := 0) dX9_behindDay_10 (by decide +kernel) ?_
    exact X.lret dX9_behindDay_11 rfl (Nat.le_of_ble_eq_true rfl) (Nat.le_of_ble_eq_true rfl) e2
noncomputable def F_X9_behindLooks_154 (G : Gx) (c_X9_behindBestLooks : Hp → Nat → Nat → Int32 → Rz Int64) (c_X9_behindDay : Hp → Nat → Nat → Int32 → Rz Int64) (c_X9_behindLooks : Hp → Nat → Nat → Int32 → Int32 → Rz Int64) (c_X9_fromDay : Hp → Nat → Nat → Int32 → Rz Int64) (h : Hp) (nx : Nat) (l5 : Option Nat) (l7 : Int32) (l8 : Int64) (l10 : Int64) : Rz Int64 :=
nn l5 (fun p1 =>
ck h p1 [7] (fun _ =>
cl (F_X7_mendCost G h nx p1) (fun r2 h3 n4 =>
cl (F_X11_bothWays G h3 n4 l7 l8 ((l10 - r2))) (fun r5 h6 n7 =>
ck h6 p1 [7] (fun _ =>
cl (F_X7_lookCost G h6 n7 p1) (fun r8 h9 n10 =>
some (((r5 - r8)), h9, n10)))))))
set_option maxRecDepth 100000 in
set_option maxHeartbeats 4000000 in
theorem k_X9_behindLooks_154 {G : Gx} {d : Nat} {v' : Int64} {h' : Hp} {n' : Nat} {c_X9_behindBestLooks : Hp → Nat → Nat → Int32 → Rz Int64} (C_X9_behindBestLooks : ∀ {h : Hp} {nx : Nat} {b0 : Nat} {b1 : Int32} {v : Int64} {h1 : Hp} {n1 : Nat}, c_X9_behindBestLooks h nx b0 b1 = some (v, h1, n1) → Ct G mX9_behindBestLooks (d + 5) (Same (some (.long v)) h1 n1) [.ref b0, .int b1] h nx) {c_X9_behindDay : Hp → Nat → Nat → Int32 → Rz Int64} (C_X9_behindDay : ∀ {h : Hp} {nx : Nat} {b0 : Nat} {b1 : Int32} {v : Int64} {h1 : Hp} {n1 : Nat}, c_X9_behindDay h nx b0 b1 = some (v, h1, n1) → Ct G mX9_behindDay (d + 5) (Same (some (.long v)) h1 n1) [.ref b0, .int b1] h nx) {c_X9_behindLooks : Hp → Nat → Nat → Int32 → Int32 → Rz Int64} (C_X9_behindLooks : ∀ {h : Hp} {nx : Nat} {b0 : Nat} {b1 : Int32} {b2 : Int32} {v : Int64} {h1 : Hp} {n1 : Nat}, c_X9_behindLooks h nx b0 b1 b2 = some (v, h1, n1) → Ct G mX9_behindLooks (d + 5) (Same (some (.long v)) h1 n1) [.ref b0, .int b1, .int b2] h nx) {c_X9_fromDay : Hp → Nat → Nat → Int32 → Rz Int64} (C_X9_fromDay : ∀ {h : Hp} {nx : Nat} {b0 : Nat} {b1 : Int32} {v : Int64} {h1 : Hp} {n1 : Nat}, c_X9_fromDay h nx b0 b1 = some (v, h1, n1) → Ct G mX9_fromDay (d + 5) (Same (some (.long v)) h1 n1) [.ref b0, .int b1] h nx) {h : Hp} {nx : Nat} {l5 : Option Nat} {l7 : Int32} {l8 : Int64} {l10 : Int64} (e : F_X9_behindLooks_154 G c_X9_behindBestLooks c_X9_behindDay c_X9_behindLooks c_X9_fromDay h nx l5 l7 l8 l10 = some (v', h', n')) : Ok G mX9_behindLooks (d + 6) (Same (some (.long v')) h' n') 154 [none, none, none, none, none, some (va_rf l5), none, some (.int l7), some (.long l8), none, some (.long l10), none] [] h nx 0 0 := by
  unfold F_X9_behindLooks_154 at e
  refine Ok.iload dX9_behindLooks_154 rfl ?_
  refine Ok.lload dX9_behindLooks_156 rfl ?_
  refine Ok.lload dX9_behindLooks_158 rfl ?_
  refine Ok.aloadQ dX9_behindLooks_160 rfl ?_
  refine X.rnn e (fun p1 q e1 => ?_)
  clear e
  subst q
  refine X.rck e1 (fun c fs hb hc e2 => ?_)
  clear e1
  obtain rfl := List.mem_singleton.mp hc
  refine X.callV (My := mX7_mendCost) (n := 0) (As := []) (T := (fun v => (some (.long v)))) (stk' := (fun v => [.long v, .long l10, .long l8, .int l7])) (rest := [.long l10, .long l8, .int l7]) (kc' := 0) (ks' := 0) dX9_behindLooks_162 e2 (fun v h n e => k_X7_mendCost (d := d + 5) e) hb rfl wd585 wd81 wd583 wd584 wd848 (by decide +kernel) rfl (by decide) rfl rfl (Nat.le_of_ble_eq_true rfl) (Nat.le_of_ble_eq_true rfl) (Nat.le_of_ble_eq_true rfl) rfl rfl (fun _ => rfl) (fun r2 h3 n4 e3 => ?_)
  clear e2
  refine Ok.lsub dX9_behindLooks_165 ?_
  refine X.callSN (host := "GateWatch") (My := mX11_bothWays) (n := 3) (As := [.int l7, .long l8, .long ((l10 - r2))]) (T := (fun v => (some (.long v)))) (stk' := (fun v => [.long v])) (rest := []) (kc' := 0) (ks' := 0) dX9_behindLooks_166 e3 (fun v h n e => k_X11_bothWays (d := d + 5) e) wd593 wd76 wd592 (by decide +kernel) (by decide +kernel) rfl (by decide) rfl rfl (Nat.le_of_ble_eq_true rfl) (Nat.le_of_ble_eq_true rfl) (Nat.le_of_ble_eq_true rfl) rfl rfl (fun _ => rfl) (fun r5 h6 n7 e4 => ?_)
  clear e3
  refine Ok.aload dX9_behindLooks_169 rfl ?_
  refine X.rck e4 (fun c fs hb hc e5 => ?_)
  clear e4
  obtain rfl := List.mem_singleton.mp hc
  refine X.callV (My := mX7_lookCost) (n := 0) (As := []) (T := (fun v => (some (.long v)))) (stk' := (fun v => [.long v, .long r5])) (rest := [.long r5]) (kc' := 0) (ks' := 0) dX9_behindLooks_171 e5 (fun v h n e => k_X7_lookCost (d := d + 5) e) hb rfl wd590 wd81 wd588 wd589 wd850 (by decide +kernel) rfl (by decide) rfl rfl (Nat.le_of_ble_eq_true rfl) (Nat.le_of_ble_eq_true rfl) (Nat.le_of_ble_eq_true rfl) rfl rfl (fun _ => rfl) (fun r8 h9 n10 e6 => ?_)
  clear e5
  refine Ok.lsub dX9_behindLooks_174 ?_
  exact X.lret dX9_behindLooks_175 rfl (Nat.le_of_ble_eq_true rfl) (Nat.le_of_ble_eq_true rfl) e6
noncomputable def F_X9_behindLooks_144 (G : Gx) (c_X9_behindBestLooks : Hp → Nat → Nat → Int32 → Rz Int64) (c_X9_behindDay : Hp → Nat → Nat → Int32 → Rz Int64) (c_X9_behindLooks : Hp → Nat → Nat → Int32 → Int32 → Rz Int64) (c_X9_fromDay : Hp → Nat → Nat → Int32 → Rz Int64) (h : Hp) (nx : Nat) (l0 : Nat) (l1 : Int32) (l3 : Int32) (l5 : Option Nat) (l6 : Int32) (l7 : Int32) (l8 : Int64) (l10 : Int64) : Rz Int64 :=
gfR h l0 [9] 2 (fun v1 =>
nn v1 (fun p2 =>
alR (g_c G 6) h p2 l1 (fun v3 =>
nn v3 (fun p4 =>
asI (g_c G 0) id h p4 l3 l6 (fun h5 =>
(F_X9_behindLooks_154 G c_X9_behindBestLooks c_X9_behindDay c_X9_behindLooks c_X9_fromDay h5 nx l5 l7 l8 l10))))))
set_option maxRecDepth 100000 in
set_option maxHeartbeats 4000000 in
theorem k_X9_behindLooks_144 {G : Gx} {d : Nat} {v' : Int64} {h' : Hp} {n' : Nat} {c_X9_behindBestLooks : Hp → Nat → Nat → Int32 → Rz Int64} (C_X9_behindBestLooks : ∀ {h : Hp} {nx : Nat} {b0 : Nat} {b1 : Int32} {v : Int64} {h1 : Hp} {n1 : Nat}, c_X9_behindBestLooks h nx b0 b1 = some (v, h1, n1) → Ct G mX9_behindBestLooks (d + 5) (Same (some (.long v)) h1 n1) [.ref b0, .int b1] h nx) {c_X9_behindDay : Hp → Nat → Nat → Int32 → Rz Int64} (C_X9_behindDay : ∀ {h : Hp} {nx : Nat} {b0 : Nat} {b1 : Int32} {v : Int64} {h1 : Hp} {n1 : Nat}, c_X9_behindDay h nx b0 b1 = some (v, h1, n1) → Ct G mX9_behindDay (d + 5) (Same (some (.long v)) h1 n1) [.ref b0, .int b1] h nx) {c_X9_behindLooks : Hp → Nat → Nat → Int32 → Int32 → Rz Int64} (C_X9_behindLooks : ∀ {h : Hp} {nx : Nat} {b0 : Nat} {b1 : Int32} {b2 : Int32} {v : Int64} {h1 : Hp} {n1 : Nat}, c_X9_behindLooks h nx b0 b1 b2 = some (v, h1, n1) → Ct G mX9_behindLooks (d + 5) (Same (some (.long v)) h1 n1) [.ref b0, .int b1, .int b2] h nx) {c_X9_fromDay : Hp → Nat → Nat → Int32 → Rz Int64} (C_X9_fromDay : ∀ {h : Hp} {nx : Nat} {b0 : Nat} {b1 : Int32} {v : Int64} {h1 : Hp} {n1 : Nat}, c_X9_fromDay h nx b0 b1 = some (v, h1, n1) → Ct G mX9_fromDay (d + 5) (Same (some (.long v)) h1 n1) [.ref b0, .int b1] h nx) {h : Hp} {nx : Nat} {l0 : Nat} {l1 : Int32} {l3 : Int32} {l5 : Option Nat} {l6 : Int32} {l7 : Int32} {l8 : Int64} {l10 : Int64} (e : F_X9_behindLooks_144 G c_X9_behindBestLooks c_X9_behindDay c_X9_behindLooks c_X9_fromDay h nx l0 l1 l3 l5 l6 l7 l8 l10 = some (v', h', n')) : Ok G mX9_behindLooks (d + 6) (Same (some (.long v')) h' n') 144 [some (.ref l0), some (.int l1), none, some (.int l3), none, some (va_rf l5), some (.int l6), some (.int l7), some (.long l8), none, some (.long l10), none] [] h nx 0 0 := by
  unfold F_X9_behindLooks_144 at e
  refine Ok.aload_n dX9_behindLooks_144 rfl ?_
  refine X.rgfR fl_RX9_11 dX9_behindLooks_145 e (fun v1 e1 => ?_)
  clear e
  refine Ok.iload_n dX9_behindLooks_148 rfl ?_
  refine X.rnn e1 (fun p2 q e2 => ?_)
  clear e1
  subst q
  refine X.gald dX9_behindLooks_149 e2 (fun v3 e3 => ?_)
  clear e2
  refine Ok.iload_n dX9_behindLooks_150 rfl ?_
  refine Ok.iload dX9_behindLooks_151 rfl ?_
  refine X.rnn e3 (fun p4 q e4 => ?_)
  clear e3
  subst q
  refine X.iast dX9_behindLooks_153 e4 (fun h5 e5 => ?_)
  clear e4
  exact Ok.weakL (k_X9_behindLooks_154 (d := d) C_X9_behindBestLooks C_X9_behindDay C_X9_behindLooks C_X9_fromDay e5) ⟨rfl, ⟨rfl, ⟨rfl, ⟨rfl, trivial⟩⟩⟩⟩
noncomputable def F_X9_behindLooks_112 (G : Gx) (c_X9_behindBestLooks : Hp → Nat → Nat → Int32 → Rz Int64) (c_X9_behindDay : Hp → Nat → Nat → Int32 → Rz Int64) (c_X9_behindLooks : Hp → Nat → Nat → Int32 → Int32 → Rz Int64) (c_X9_fromDay : Hp → Nat → Nat → Int32 → Rz Int64) (h : Hp) (nx : Nat) (l0 : Nat) (l1 : Int32) (l3 : Int32) (l4 : Int32) (l5 : Option Nat) (l6 : Int32) (l7 : Int32) (l8 : Int64) (l10 : Int64) : Rz Int64 :=
if (nI 1000000) ≤ l7 then
(F_X9_behindLooks_144 G c_X9_behindBestLooks c_X9_behindDay c_X9_behindLooks c_X9_fromDay h nx l0 l1 l3 l5 l6 l7 l8 l10)
else
gfR h l0 [9] 2 (fun v1 =>
nn v1 (fun p2 =>
alR (g_c G 6) h p2 l1 (fun v3 =>
gfR h l0 [9] 0 (fun v4 =>
nn v4 (fun p5 =>
ck h p5 [5] (fun _ =>
cl (F_X5_spotSeenIll G h nx p5 l3) (fun r6 h7 n8 =>
nn v3 (fun p9 =>
asI (g_c G 0) id h7 p9 l3 r6 (fun h10 =>
ck h10 l0 [9] (fun _ =>
cl (c_X9_behindLooks h10 n8 l0 l1 l4) (fun r11 h12 n13 =>
(F_X9_behindLooks_144 G c_X9_behindBestLooks c_X9_behindDay c_X9_behindLooks c_X9_fromDay h12 n13 l0 l1 l3 l5 l6 l7 l8 r11))))))))))))
set_option maxRecDepth 100000 in
set_option maxHeartbeats 4000000 in
theorem k_X9_behindLooks_112 {G : Gx} {d : Nat} {v' : Int64} {h' : Hp} {n' : Nat} {c_X9_behindBestLooks : Hp → Nat → Nat → Int32 → Rz Int64} (C_X9_behindBestLooks : ∀ {h : Hp} {nx : Nat} {b0 : Nat} {b1 : Int32} {v : Int64} {h1 : Hp} {n1 : Nat}, c_X9_behindBestLooks h nx b0 b1 = some (v, h1, n1) → Ct G mX9_behindBestLooks (d + 5) (Same (some (.long v)) h1 n1) [.ref b0, .int b1] h nx) {c_X9_behindDay : Hp → Nat → Nat → Int32 → Rz Int64} (C_X9_behindDay : ∀ {h : Hp} {nx : Nat} {b0 : Nat} {b1 : Int32} {v : Int64} {h1 : Hp} {n1 : Nat}, c_X9_behindDay h nx b0 b1 = some (v, h1, n1) → Ct G mX9_behindDay (d + 5) (Same (some (.long v)) h1 n1) [.ref b0, .int b1] h nx) {c_X9_behindLooks : Hp → Nat → Nat → Int32 → Int32 → Rz Int64} (C_X9_behindLooks : ∀ {h : Hp} {nx : Nat} {b0 : Nat} {b1 : Int32} {b2 : Int32} {v : Int64} {h1 : Hp} {n1 : Nat}, c_X9_behindLooks h nx b0 b1 b2 = some (v, h1, n1) → Ct G mX9_behindLooks (d + 5) (Same (some (.long v)) h1 n1) [.ref b0, .int b1, .int b2] h nx) {c_X9_fromDay : Hp → Nat → Nat → Int32 → Rz Int64} (C_X9_fromDay : ∀ {h : Hp} {nx : Nat} {b0 : Nat} {b1 : Int32} {v : Int64} {h1 : Hp} {n1 : Nat}, c_X9_fromDay h nx b0 b1 = some (v, h1, n1) → Ct G mX9_fromDay (d + 5) (Same (some (.long v)) h1 n1) [.ref b0, .int b1] h nx) {h : Hp} {nx : Nat} {l0 : Nat} {l1 : Int32} {l3 : Int32} {l4 : Int32} {l5 : Option Nat} {l6 : Int32} {l7 : Int32} {l8 : Int64} {l10 : Int64} (e : F_X9_behindLooks_112 G c_X9_behindBestLooks c_X9_behindDay c_X9_behindLooks c_X9_fromDay h nx l0 l1 l3 l4 l5 l6 l7 l8 l10 = some (v', h', n')) : Ok G mX9_behindLooks (d + 6) (Same (some (.long v')) h' n') 112 [some (.ref l0), some (.int l1), none, some (.int l3), some (.int l4), some (va_rf l5), some (.int l6), some (.int l7), some (.long l8), none, some (.long l10), none] [] h nx 0 0 := by
  unfold F_X9_behindLooks_112 at e
  refine Ok.iload dX9_behindLooks_112 rfl ?_
  refine Ok.ldc (v := (nI 1000000)) dX9_behindLooks_114 wd843 ?_
  refine X.icmp_ge (tgt := 144) dX9_behindLooks_116 (by decide) e (fun e1 => ?_) (fun e1 => ?_)
  · clear e
    exact Ok.weakL (k_X9_behindLooks_144 (d := d) C_X9_behindBestLooks C_X9_behindDay C_X9_behindLooks C_X9_fromDay e1) ⟨rfl, ⟨rfl, ⟨rfl, ⟨rfl, ⟨rfl, ⟨rfl, ⟨rfl, ⟨rfl, trivial⟩⟩⟩⟩⟩⟩⟩⟩
  · clear e
    refine Ok.aload_n dX9_behindLooks_119 rfl ?_
    refine X.rgfR fl_RX9_11 dX9_behindLooks_120 e1 (fun v1 e2 => ?_)
    clear e1
    refine Ok.iload_n dX9_behindLooks_123 rfl ?_
    refine X.rnn e2 (fun p2 q e3 => ?_)
    clear e2
    subst q
    refine X.gald dX9_behindLooks_124 e3 (fun v3 e4 => ?_)
    clear e3
    refine Ok.iload_n dX9_behindLooks_125 rfl ?_
    refine Ok.aload_n dX9_behindLooks_126 rfl ?_
    refine X.rgfR fl_RX9_43 dX9_behindLooks_127 e4 (fun v4 e5 => ?_)
    clear e4
    refine Ok.iload_n dX9_behindLooks_130 rfl ?_
    refine X.rnn e5 (fun p5 q e6 => ?_)
    clear e5
    subst q
    refine X.rck e6 (fun c fs hb hc e7 => ?_)
    clear e6
    obtain rfl := List.mem_singleton.mp hc
    refine X.callV (My := mX5_spotSeenIll) (n := 1) (As := [.int l3]) (T := (fun v => (some (.int v)))) (stk' := (fun v => [.int v, .int l3, va_rf v3])) (rest := [.int l3, va_rf v3]) (kc' := 0) (ks' := 0) dX9_behindLooks_131 e7 (fun v h n e => k_X5_spotSeenIll (d := d + 4) e) hb rfl wd847 wd78 wd845 wd846 wd844 (by decide +kernel) rfl (by decide) rfl rfl (cs_le (cs_c (a := 1) rfl (cs_c (a := 1) (va_rf_cat _) cs_n)) (by decide)) (Nat.le_of_ble_eq_true rfl) (Nat.le_of_ble_eq_true rfl) rfl rfl (fun _ => rfl) (fun r6 h7 n8 e8 => ?_)
    clear e7
    refine X.rnn e8 (fun p9 q e9 => ?_)
    clear e8
    subst q
    refine X.iast dX9_behindLooks_134 e9 (fun h10 e10 => ?_)
    clear e9
    refine Ok.aload_n dX9_behindLooks_135 rfl ?_
    refine Ok.iload_n dX9_behindLooks_136 rfl ?_
    refine Ok.iload dX9_behindLooks_137 rfl ?_
    refine X.rck e10 (fun c fs hb hc e11 => ?_)
    clear e10
    obtain rfl := List.mem_singleton.mp hc
    refine X.callV (My := mX9_behindLooks) (n := 2) (As := [.int l1, .int l4]) (T := (fun v => (some (.long v)))) (stk' := (fun v => [.long v])) (rest := []) (kc' := 0) (ks' := 0) dX9_behindLooks_139 e11 (fun v h n e => C_X9_behindLooks e) hb rfl wd830 wd79 wd829 wd16 wd827 (by decide +kernel) rfl (by decide) rfl rfl (Nat.le_of_ble_eq_true rfl) (Nat.le_of_ble_eq_true rfl) (Nat.le_of_ble_eq_true rfl) rfl rfl (fun _ => rfl) (fun r11 h12 n13 e12 => ?_)
    clear e11
    refine XL.lstore dX9_behindLooks_142 (by decide) (L := [some (.ref l0), some (.int l1), none, some (.int l3), some (.int l4), some (va_rf l5), some (.int l6), some (.int l7), some (.long l8), none, some (.long r11), none]) rfl ?_
    exact Ok.weakL (k_X9_behindLooks_144 (d := d) C_X9_behindBestLooks C_X9_behindDay C_X9_behindLooks C_X9_fromDay e12) ⟨rfl, ⟨rfl, ⟨rfl, ⟨rfl, ⟨rfl, ⟨rfl, ⟨rfl, ⟨rfl, trivial⟩⟩⟩⟩⟩⟩⟩⟩
noncomputable def B_X9_behindLooks (G : Gx) (c_X9_behindBestLooks : Hp → Nat → Nat → Int32 → Rz Int64) (c_X9_behindDay : Hp → Nat → Nat → Int32 → Rz Int64) (c_X9_behindLooks : Hp → Nat → Nat → Int32 → Int32 → Rz Int64) (c_X9_fromDay : Hp → Nat → Nat → Int32 → Rz Int64) (h : Hp) (nx : Nat) (a0 : Nat) (a1 : Int32) (a2 : Int32) : Rz Int64 :=
if a2 = 0 then
ck h a0 [9] (fun _ =>
cl (c_X9_behindDay h nx a0 a1) (fun r34 h35 n36 =>
some (r34, h35, n36)))
else
cl (F_J6_numberOfTrailingZeros_0f7a4 G h nx a2) (fun r1 h2 n3 =>
nm ((a2 &&& ((a2 - (nI 1))))) (fun v4 =>
gfR h2 a0 [9] 1 (fun v5 =>
nn v5 (fun p6 =>
ck h2 p6 [0] (fun _ =>
cl (F_X0_sortAt G h2 n3 p6 r1) (fun r7 h8 n9 =>
gfR h8 a0 [9] 2 (fun v10 =>
nn v10 (fun p11 =>
alR (g_c G 6) h8 p11 a1 (fun v12 =>
nn v12 (fun p13 =>
alI (g_c G 0) h8 p13 r1 (fun v14 =>
gfR h8 a0 [9] 0 (fun v15 =>
nn v15 (fun p16 =>
gfR h8 p16 [5] 1 (fun v17 =>
nn v17 (fun p18 =>
alR (g_c G 6) h8 p18 r1 (fun v19 =>
nn v19 (fun p20 =>
alI (g_c G 0) h8 p20 v14 (fun v21 =>
gfI h8 a0 [9] 8 (fun v22 =>
if a1 = ((v22 - (nI 1))) then
ck h8 a0 [9] (fun _ =>
cl (c_X9_behindLooks h8 n9 a0 a1 v4) (fun r31 h32 n33 =>
(F_X9_behindLooks_154 G c_X9_behindBestLooks c_X9_behindDay c_X9_behindLooks c_X9_fromDay h32 n33 r7 v21 r31 r31)))
else
if v21 ≤ 0 then
(F_X9_behindLooks_112 G c_X9_behindBestLooks c_X9_behindDay c_X9_behindLooks c_X9_fromDay h8 n9 a0 a1 r1 v4 r7 v14 v21 (0 : Int64) (0 : Int64))
else
gfR h8 a0 [9] 2 (fun v23 =>
nn v23 (fun p24 =>
alR (g_c G 6) h8 p24 a1 (fun v25 =>
nn v25 (fun p26 =>
asI (g_c G 0) id h8 p26 r1 (nI 11) (fun h27 =>
ck h27 a0 [9] (fun _ =>
cl (c_X9_behindLooks h27 n9 a0 a1 v4) (fun r28 h29 n30 =>
(F_X9_behindLooks_112 G c_X9_behindBestLooks c_X9_behindDay c_X9_behindLooks c_X9_fromDay h29 n30 a0 a1 r1 v4 r7 v14 v21 r28 (0 : Int64))))))))))))))))))))))))))))
set_option maxRecDepth 100000 in
set_option maxHeartbeats 4000000 in
theorem b_X9_behindLooks {G : Gx} {d : Nat} {c_X9_behindBestLooks : Hp → Nat → Nat → Int32 → Rz Int64} (C_X9_behindBestLooks : ∀ {h : Hp} {nx : Nat} {b0 : Nat} {b1 : Int32} {v : Int64} {h1 : Hp} {n1 : Nat}, c_X9_behindBestLooks h nx b0 b1 = some (v, h1, n1) → Ct G mX9_behindBestLooks (d + 5) (Same (some (.long v)) h1 n1) [.ref b0, .int b1] h nx) {c_X9_behindDay : Hp → Nat → Nat → Int32 → Rz Int64} (C_X9_behindDay : ∀ {h : Hp} {nx : Nat} {b0 : Nat} {b1 : Int32} {v : Int64} {h1 : Hp} {n1 : Nat}, c_X9_behindDay h nx b0 b1 = some (v, h1, n1) → Ct G mX9_behindDay (d + 5) (Same (some (.long v)) h1 n1) [.ref b0, .int b1] h nx) {c_X9_behindLooks : Hp → Nat → Nat → Int32 → Int32 → Rz Int64} (C_X9_behindLooks : ∀ {h : Hp} {nx : Nat} {b0 : Nat} {b1 : Int32} {b2 : Int32} {v : Int64} {h1 : Hp} {n1 : Nat}, c_X9_behindLooks h nx b0 b1 b2 = some (v, h1, n1) → Ct G mX9_behindLooks (d + 5) (Same (some (.long v)) h1 n1) [.ref b0, .int b1, .int b2] h nx) {c_X9_fromDay : Hp → Nat → Nat → Int32 → Rz Int64} (C_X9_fromDay : ∀ {h : Hp} {nx : Nat} {b0 : Nat} {b1 : Int32} {v : Int64} {h1 : Hp} {n1 : Nat}, c_X9_fromDay h nx b0 b1 = some (v, h1, n1) → Ct G mX9_fromDay (d + 5) (Same (some (.long v)) h1 n1) [.ref b0, .int b1] h nx) {h : Hp} {nx : Nat} {a0 : Nat} {a1 : Int32} {a2 : Int32} {v' : Int64} {h' : Hp} {n' : Nat} (e : B_X9_behindLooks G c_X9_behindBestLooks c_X9_behindDay c_X9_behindLooks c_X9_fromDay h nx a0 a1 a2 = some (v', h', n')) : Ct G mX9_behindLooks (d + 6) (Same (some (.long v')) h' n') [.ref a0, .int a1, .int a2] h nx := by
  unfold B_X9_behindLooks at e
  refine Ct.of (ls := [some (.ref a0), some (.int a1), some (.int a2), none, none, none, none, none, none, none, none, none]) (by decide +kernel) rfl (Nat.le_of_ble_eq_true rfl) rfl ?_
  refine Ok.iload_n dX9_behindLooks_0 rfl ?_
  refine X.if_ne (tgt := 10) dX9_behindLooks_1 (by decide) e (fun e1 => ?_) (fun e1 => ?_)
  · clear e
    refine Ok.iload_n dX9_behindLooks_10 rfl ?_
    refine X.callS (My := mJ6_numberOfTrailingZeros_0f7a4) (n := 1) (As := [.int a2]) (T := (fun v => (some (.int v)))) (stk' := (fun v => [.int v])) (rest := []) (kc' := 0) (ks' := 0) dX9_behindLooks_11 e1 (fun v h n e => k_J6_numberOfTrailingZeros_0f7a4 (d := d + 5) e) wd841 wd97 wd840 wd839 (by decide +kernel) rfl (by decide) rfl rfl (Nat.le_of_ble_eq_true rfl) (Nat.le_of_ble_eq_true rfl) (Nat.le_of_ble_eq_true rfl) rfl rfl (fun _ => rfl) (fun r1 h2 n3 e2 => ?_)
    clear e1
    refine XL.istore_n dX9_behindLooks_14 (by decide) (L := [some (.ref a0), some (.int a1), some (.int a2), some (.int r1), none, none, none, none, none, none, none, none]) rfl ?_
    refine Ok.iload_n dX9_behindLooks_15 rfl ?_
    refine Ok.iload_n dX9_behindLooks_16 rfl ?_
    refine Ok.iconstV (v := (nI 1)) dX9_behindLooks_17 (by decide +kernel) ?_
    refine Ok.isub dX9_behindLooks_18 ?_
    refine Ok.iand dX9_behindLooks_19 ?_
    refine X.istore dX9_behindLooks_20 (by decide) e2 (L := fun v4 => [some (.ref a0), some (.int a1), some (.int a2), some (.int r1), some (.int v4), none, none, none, none, none, none, none]) (fun _ => rfl) (fun v4 e3 => ?_)
    clear e2
    refine Ok.aload_n dX9_behindLooks_22 rfl ?_
    refine X.rgfR fl_RX9_53 dX9_behindLooks_23 e3 (fun v5 e4 => ?_)
    clear e3
    refine Ok.iload_n dX9_behindLooks_26 rfl ?_
    refine X.rnn e4 (fun p6 q e5 => ?_)
    clear e4
    subst q
    refine X.rck e5 (fun c fs hb hc e6 => ?_)
    clear e5
    obtain rfl := List.mem_singleton.mp hc
    refine X.callV (My := mX0_sortAt) (n := 1) (As := [.int r1]) (T := (fun v => (some (va_rf v)))) (stk' := (fun v => [va_rf v])) (rest := []) (kc' := 0) (ks' := 0) dX9_behindLooks_27 e6 (fun v h n e => k_X0_sortAt (d := d + 5) e) hb rfl wd533 wd77 wd531 wd532 wd842 (by decide +kernel) rfl (by decide) rfl rfl (Nat.le_of_ble_eq_true rfl) (Nat.le_of_ble_eq_true rfl) (Nat.le_of_ble_eq_true rfl) rfl rfl (fun _ => rfl) (fun r7 h8 n9 e7 => ?_)
    clear e6
    refine XL.astoreQ (r := r7) dX9_behindLooks_30 (by decide) (L := [some (.ref a0), some (.int a1), some (.int a2), some (.int r1), some (.int v4), some (va_rf r7), none, none, none, none, none, none]) rfl ?_
    refine Ok.aload_n dX9_behindLooks_32 rfl ?_
    refine X.rgfR fl_RX9_11 dX9_behindLooks_33 e7 (fun v10 e8 => ?_)
    clear e7
    refine Ok.iload_n dX9_behindLooks_36 rfl ?_
    refine X.rnn e8 (fun p11 q e9 => ?_)
    clear e8
    subst q
    refine X.gald dX9_behindLooks_37 e9 (fun v12 e10 => ?_)
    clear e9
    refine Ok.iload_n dX9_behindLooks_38 rfl ?_
    refine X.rnn e10 (fun p13 q e11 => ?_)
    clear e10
    subst q
    refine X.iald dX9_behindLooks_39 e11 (fun v14 e12 => ?_)
    clear e11
    refine XL.istore dX9_behindLooks_40 (by decide) (L := [some (.ref a0), some (.int a1), some (.int a2), some (.int r1), some (.int v4), some (va_rf r7), some (.int v14), none, none, none, none, none]) (by first | rfl | (simp only [lst1, lst2, unw_q])) ?_
    refine Ok.aload_n dX9_behindLooks_42 rfl ?_
    refine X.rgfR fl_RX9_43 dX9_behindLooks_43 e12 (fun v15 e13 => ?_)
    clear e12
    refine X.rnn e13 (fun p16 q e14 => ?_)
    clear e13
    subst q
    refine X.rgfR fl_RX9_135 dX9_behindLooks_46 e14 (fun v17 e15 => ?_)
    clear e14
    refine Ok.iload_n dX9_behindLooks_49 rfl ?_
    refine X.rnn e15 (fun p18 q e16 => ?_)
    clear e15
    subst q
    refine X.gald dX9_behindLooks_50 e16 (fun v19 e17 => ?_)
    clear e16
    refine Ok.iload dX9_behindLooks_51 rfl ?_
    refine X.rnn e17 (fun p20 q e18 => ?_)
    clear e17
    subst q
    refine X.iald dX9_behindLooks_53 e18 (fun v21 e19 => ?_)
    clear e18
    refine XL.istore dX9_behindLooks_54 (by decide) (L := [some (.ref a0), some (.int a1), some (.int a2), some (.int r1), some (.int v4), some (va_rf r7), some (.int v14), some (.int v21), none, none, none, none]) rfl ?_
    refine XL.lconst (v := 0) dX9_behindLooks_56 (by decide +kernel) ?_
    refine XL.lstore dX9_behindLooks_57 (by decide) (L := [some (.ref a0), some (.int a1), some (.int a2), some (.int r1), some (.int v4), some (va_rf r7), some (.int v14), some (.int v21), some (.long (0 : Int64)), none, none, none]) rfl ?_
    refine XL.lconst (v := 0) dX9_behindLooks_59 (by decide +kernel) ?_
    refine XL.lstore dX9_behindLooks_60 (by decide) (L := [some (.ref a0), some (.int a1), some (.int a2), some (.int r1), some (.int v4), some (va_rf r7), some (.int v14), some (.int v21), some (.long (0 : Int64)), none, some (.long (0 : Int64)), none]) rfl ?_
    refine Ok.iload_n dX9_behindLooks_62 rfl ?_
    refine Ok.aload_n dX9_behindLooks_63 rfl ?_
    refine X.rgfI fl_RX9_34 dX9_behindLooks_64 e19 (fun v22 e20 => ?_)
    clear e19
    refine Ok.iconstV (v := (nI 1)) dX9_behindLooks_67 (by decide +kernel) ?_
    refine Ok.isub dX9_behindLooks_68 ?_
    refine X.icmp_ne (tgt := 88) dX9_behindLooks_69 (by decide) e20 (fun e21 => ?_) (fun e21 => ?_)
    · clear e20
      refine Ok.iload dX9_behindLooks_88 rfl ?_
      refine X.if_le (tgt := 112) dX9_behindLooks_90 (by decide) e21 (fun e22 => ?_) (fun e22 => ?_)
      · clear e21
        exact Ok.weakL (k_X9_behindLooks_112 (d := d) C_X9_behindBestLooks C_X9_behindDay C_X9_behindLooks C_X9_fromDay e22) ⟨rfl, ⟨rfl, ⟨rfl, ⟨rfl, ⟨rfl, ⟨rfl, ⟨rfl, ⟨rfl, ⟨rfl, trivial⟩⟩⟩⟩⟩⟩⟩⟩⟩
      · clear e21
        refine Ok.aload_n dX9_behindLooks_93 rfl ?_
        refine X.rgfR fl_RX9_11 dX9_behindLooks_94 e22 (fun v23 e23 => ?_)
        clear e22
        refine Ok.iload_n dX9_behindLooks_97 rfl ?_
        refine X.rnn e23 (fun p24 q e24 => ?_)
        clear e23
        subst q
        refine X.gald dX9_behindLooks_98 e24 (fun v25 e25 => ?_)
        clear e24
        refine Ok.iload_n dX9_behindLooks_99 rfl ?_
        refine Ok.bipushV (v := (nI 11)) dX9_behindLooks_100 (by decide +kernel) ?_
        refine X.rnn e25 (fun p26 q e26 => ?_)
        clear e25
        subst q
        refine X.iast dX9_behindLooks_102 e26 (fun h27 e27 => ?_)
        clear e26
        refine Ok.aload_n dX9_behindLooks_103 rfl ?_
        refine Ok.iload_n dX9_behindLooks_104 rfl ?_
        refine Ok.iload dX9_behindLooks_105 rfl ?_
        refine X.rck e27 (fun c fs hb hc e28 => ?_)
        clear e27
        obtain rfl := List.mem_singleton.mp hc
        refine X.callV (My := mX9_behindLooks) (n := 2) (As := [.int a1, .int v4]) (T := (fun v => (some (.long v)))) (stk' := (fun v => [.long v])) (rest := []) (kc' := 0) (ks' := 0) dX9_behindLooks_107 e28 (fun v h n e => C_X9_behindLooks e) hb rfl wd830 wd79 wd829 wd16 wd827 (by decide +kernel) rfl (by decide) rfl rfl (Nat.le_of_ble_eq_true rfl) (Nat.le_of_ble_eq_true rfl) (Nat.le_of_ble_eq_true rfl) rfl rfl (fun _ => rfl) (fun r28 h29 n30 e29 => ?_)
        clear e28
        refine XL.lstore dX9_behindLooks_110 (by decide) (L := [some (.ref a0), some (.int a1), some (.int a2), some (.int r1), some (.int v4), some (va_rf r7), some (.int v14), some (.int v21), some (.long r28), none, some (.long (0 : Int64)), none]) rfl ?_
        exact Ok.weakL (k_X9_behindLooks_112 (d := d) C_X9_behindBestLooks C_X9_behindDay C_X9_behindLooks C_X9_fromDay e29) ⟨rfl, ⟨rfl, ⟨rfl, ⟨rfl, ⟨rfl, ⟨rfl, ⟨rfl, ⟨rfl, ⟨rfl, trivial⟩⟩⟩⟩⟩⟩⟩⟩⟩
    · clear e20
      refine Ok.aload_n dX9_behindLooks_72 rfl ?_
      refine Ok.iload_n dX9_behindLooks_73 rfl ?_
      refine Ok.iload dX9_behindLooks_74 rfl ?_
      refine X.rck e21 (fun c fs hb hc e22 => ?_)
      clear e21
      obtain rfl := List.mem_singleton.mp hc
      refine X.callV (My := mX9_behindLooks) (n := 2) (As := [.int a1, .int v4]) (T := (fun v => (some (.long v)))) (stk' := (fun v => [.long v])) (rest := []) (kc' := 0) (ks' := 0) dX9_behindLooks_76 e22 (fun v h n e => C_X9_behindLooks e) hb rfl wd830 wd79 wd829 wd16 wd827 (by decide +kernel) rfl (by decide) rfl rfl (Nat.le_of_ble_eq_true rfl) (Nat.le_of_ble_eq_true rfl) (Nat.le_of_ble_eq_true rfl) rfl rfl (fun _ => rfl) (fun r31 h32 n33 e23 => ?_)
      clear e22
      refine XL.lstore dX9_behindLooks_79 (by decide) (L := [some (.ref a0), some (.int a1), some (.int a2), some (.int r1), some (.int v4), some (va_rf r7), some (.int v14), some (.int v21), some (.long r31), none, some (.long (0 : Int64)), none]) rfl ?_
      refine Ok.lload dX9_behindLooks_81 rfl ?_
      refine XL.lstore dX9_behindLooks_83 (by decide) (L := [some (.ref a0), some (.int a1), some (.int a2), some (.int r1), some (.int v4), some (va_rf r7), some (.int v14), some (.int v21), some (.long r31), none, some (.long r31), none]) rfl ?_
      refine Ok.goto (tgt := 154) dX9_behindLooks_85 (by decide) ?_
      exact Ok.weakL (k_X9_behindLooks_154 (d := d) C_X9_behindBestLooks C_X9_behindDay C_X9_behindLooks C_X9_fromDay e23) ⟨rfl, ⟨rfl, ⟨rfl, ⟨rfl, trivial⟩⟩⟩⟩
  · clear e
    refine Ok.aload_n dX9_behindLooks_4 rfl ?_
    refine Ok.iload_n dX9_behindLooks_5 rfl ?_
    refine X.rck e1 (fun c fs hb hc e2 => ?_)
    clear e1
    obtain rfl := List.mem_singleton.mp hc
    refine X.callV (My := mX9_behindDay) (n := 1) (As := [.int a1]) (T := (fun v => (some (.long v)))) (stk' := (fun v => [.long v])) (rest := []) (kc' := 0) (ks' := 0) dX9_behindLooks_6 e2 (fun v h n e => C_X9_behindDay e) hb rfl wd834 wd79 wd833 wd17 wd831 (by decide +kernel) rfl (by decide) rfl rfl (Nat.le_of_ble_eq_true rfl) (Nat.le_of_ble_eq_true rfl) (Nat.le_of_ble_eq_true rfl) rfl rfl (fun _ => rfl) (fun r34 h35 n36 e3 => ?_)
    clear e2
    exact X.lret dX9_behindLooks_9 rfl (Nat.le_of_ble_eq_true rfl) (Nat.le_of_ble_eq_true rfl) e3
noncomputable def F_X9_fromDay_15 (G : Gx) (c_X9_behindBestLooks : Hp → Nat → Nat → Int32 → Rz Int64) (c_X9_behindDay : Hp → Nat → Nat → Int32 → Rz Int64) (c_X9_behindLooks : Hp → Nat → Nat → Int32 → Int32 → Rz Int64) (c_X9_fromDay : Hp → Nat → Nat → Int32 → Rz Int64) : Nat → Hp → Nat → Nat → Int32 → Int64 → Int32 → Rz Int64 := fun n => Nat.rec (motive := fun _ => Hp → Nat → Nat → Int32 → Int64 → Int32 → Rz Int64) (fun _ _ _ _ _ _ => none) (fun _ k15 => fun h nx l0 l1 l2 l4 =>
gfR h l0 [9] 1 (fun v1 =>
nn v1 (fun p2 =>
gfI h p2 [0] 11 (fun v3 =>
if v3 ≤ l4 then
gfR h l0 [9] 3 (fun v4 =>
qn v4 (gfI h l0 [9] 5 (fun v6 =>
if v6 ≤ 0 then
ck h l0 [9] (fun _ =>
cl (c_X9_behindBestLooks h nx l0 l1) (fun r7 h8 n9 =>
some (((l2 + r7)), h8, n9)))
else
gfR h l0 [9] 4 (fun v10 =>
gfI h l0 [9] 5 (fun v11 =>
dzI v11 (
nn v10 (fun p12 =>
alI (g_c G 0) h p12 ((l1 - l1 / v11 * v11)) (fun v13 =>
ck h l0 [9] (fun _ =>
cl (c_X9_behindLooks h nx l0 l1 (((nI 1) <<< (v13 &&& 31)))) (fun r14 h15 n16 =>
some (((l2 + r14)), h15, n16)))))))))) (fun p5 =>
gfR h l0 [9] 3 (fun v17 =>
gfR h l0 [9] 0 (fun v18 =>
gfR h l0 [9] 2 (fun v19 =>
nn v19 (fun p20 =>
alR (g_c G 6) h p20 l1 (fun v21 =>
gfR h l0 [9] 1 (fun v22 =>
nn v22 (fun p23 =>
gfI h p23 [0] 16 (fun v24 =>
nn v21 (fun p25 =>
nn v18 (fun p26 =>
nn v17 (fun p27 =>
cl (ck h p27 [1, 2, 3, 4, 6, 8, 10] (fun c => match c with
| 1 => F_X10_chosen G h nx p27 p26 p25 ((v24 + l1))
| 2 => F_X6_chosen G h nx p27 p26 p25 ((v24 + l1))
| 3 => F_X6_chosen G h nx p27 p26 p25 ((v24 + l1))
| 4 => F_X6_chosen G h nx p27 p26 p25 ((v24 + l1))
| 6 => F_X6_chosen G h nx p27 p26 p25 ((v24 + l1))
| 8 => F_X8_chosen G h nx p27 p26 p25 ((v24 + l1))
| 10 => F_X10_chosen G h nx p27 p26 p25 ((v24 + l1))
| _ => none)) (fun r28 h29 n30 =>
ck h29 l0 [9] (fun _ =>
cl (c_X9_behindLooks h29 n30 l0 l1 r28) (fun r31 h32 n33 =>
some (((l2 + r31)), h32, n33)))))))))))))))))
else
gfR h l0 [9] 0 (fun v34 =>
nn v34 (fun p35 =>
gfR h p35 [5] 3 (fun v36 =>
nn v36 (fun p37 =>
alR (g_c G 6) h p37 l4 (fun v38 =>
gfR h l0 [9] 2 (fun v39 =>
nn v39 (fun p40 =>
alR (g_c G 6) h p40 l1 (fun v41 =>
nn v41 (fun p42 =>
alI (g_c G 0) h p42 l4 (fun v43 =>
nn v38 (fun p44 =>
alI (g_c G 0) h p44 v43 (fun v45 =>
nm ((l2 + (v45.toInt64))) (fun v46 =>
nm (l4 + (nI 1)) (fun v47 =>
(k15 h nx l0 l1 v46 v47))))))))))))))))))) n
theorem F_X9_fromDay_15_0 {G : Gx} (c_X9_behindBestLooks : Hp → Nat → Nat → Int32 → Rz Int64) (c_X9_behindDay : Hp → Nat → Nat → Int32 → Rz Int64) (c_X9_behindLooks : Hp → Nat → Nat → Int32 → Int32 → Rz Int64) (c_X9_fromDay : Hp → Nat → Nat → Int32 → Rz Int64) {h : Hp} {nx : Nat} {l0 : Nat} {l1 : Int32} {l2 : Int64} {l4 : Int32} : F_X9_fromDay_15 G c_X9_behindBestLooks c_X9_behindDay c_X9_behindLooks c_X9_fromDay 0 h nx l0 l1 l2 l4 = none := rfl
theorem F_X9_fromDay_15_s {G : Gx} (c_X9_behindBestLooks : Hp → Nat → Nat → Int32 → Rz Int64) (c_X9_behindDay : Hp → Nat → Nat → Int32 → Rz Int64) (c_X9_behindLooks : Hp → Nat → Nat → Int32 → Int32 → Rz Int64) (c_X9_fromDay : Hp → Nat → Nat → Int32 → Rz Int64) {n : Nat} {h : Hp} {nx : Nat} {l0 : Nat} {l1 : Int32} {l2 : Int64} {l4 : Int32} : F_X9_fromDay_15 G c_X9_behindBestLooks c_X9_behindDay c_X9_behindLooks c_X9_fromDay (n + 1) h nx l0 l1 l2 l4 = (
gfR h l0 [9] 1 (fun v1 =>
nn v1 (fun p2 =>
gfI h p2 [0] 11 (fun v3 =>
if v3 ≤ l4 then
gfR h l0 [9] 3 (fun v4 =>
qn v4 (gfI h l0 [9] 5 (fun v6 =>
if v6 ≤ 0 then
ck h l0 [9] (fun _ =>
cl (c_X9_behindBestLooks h nx l0 l1) (fun r7 h8 n9 =>
some (((l2 + r7)), h8, n9)))
else
gfR h l0 [9] 4 (fun v10 =>
gfI h l0 [9] 5 (fun v11 =>
dzI v11 (
nn v10 (fun p12 =>
alI (g_c G 0) h p12 ((l1 - l1 / v11 * v11)) (fun v13 =>
ck h l0 [9] (fun _ =>
cl (c_X9_behindLooks h nx l0 l1 (((nI 1) <<< (v13 &&& 31)))) (fun r14 h15 n16 =>
some (((l2 + r14)), h15, n16)))))))))) (fun p5 =>
gfR h l0 [9] 3 (fun v17 =>
gfR h l0 [9] 0 (fun v18 =>
gfR h l0 [9] 2 (fun v19 =>
nn v19 (fun p20 =>
alR (g_c G 6) h p20 l1 (fun v21 =>
gfR h l0 [9] 1 (fun v22 =>
nn v22 (fun p23 =>
gfI h p23 [0] 16 (fun v24 =>
nn v21 (fun p25 =>
nn v18 (fun p26 =>
nn v17 (fun p27 =>
cl (ck h p27 [1, 2, 3, 4, 6, 8, 10] (fun c => match c with
| 1 => F_X10_chosen G h nx p27 p26 p25 ((v24 + l1))
| 2 => F_X6_chosen G h nx p27 p26 p25 ((v24 + l1))
| 3 => F_X6_chosen G h nx p27 p26 p25 ((v24 + l1))
| 4 => F_X6_chosen G h nx p27 p26 p25 ((v24 + l1))
| 6 => F_X6_chosen G h nx p27 p26 p25 ((v24 + l1))
| 8 => F_X8_chosen G h nx p27 p26 p25 ((v24 + l1))
| 10 => F_X10_chosen G h nx p27 p26 p25 ((v24 + l1))
| _ => none)) (fun r28 h29 n30 =>
ck h29 l0 [9] (fun _ =>
cl (c_X9_behindLooks h29 n30 l0 l1 r28) (fun r31 h32 n33 =>
some (((l2 + r31)), h32, n33)))))))))))))))))
else
gfR h l0 [9] 0 (fun v34 =>
nn v34 (fun p35 =>
gfR h p35 [5] 3 (fun v36 =>
nn v36 (fun p37 =>
alR (g_c G 6) h p37 l4 (fun v38 =>
gfR h l0 [9] 2 (fun v39 =>
nn v39 (fun p40 =>
alR (g_c G 6) h p40 l1 (fun v41 =>
nn v41 (fun p42 =>
alI (g_c G 0) h p42 l4 (fun v43 =>
nn v38 (fun p44 =>
alI (g_c G 0) h p44 v43 (fun v45 =>
nm ((l2 + (v45.toInt64))) (fun v46 =>
nm (l4 + (nI 1)) (fun v47 =>
((F_X9_fromDay_15 G c_X9_behindBestLooks c_X9_behindDay c_X9_behindLooks c_X9_fromDay n) h nx l0 l1 v46 v47))))))))))))))))))) := rfl
set_option maxRecDepth 100000 in
set_option maxHeartbeats 4000000 in
theorem k_X9_fromDay_15 {G : Gx} {d : Nat} {v' : Int64} {h' : Hp} {n' : Nat} {c_X9_behindBestLooks : Hp → Nat → Nat → Int32 → Rz Int64} (C_X9_behindBestLooks : ∀ {h : Hp} {nx : Nat} {b0 : Nat} {b1 : Int32} {v : Int64} {h1 : Hp} {n1 : Nat}, c_X9_behindBestLooks h nx b0 b1 = some (v, h1, n1) → Ct G mX9_behindBestLooks (d + 5) (Same (some (.long v)) h1 n1) [.ref b0, .int b1] h nx) {c_X9_behindDay : Hp → Nat → Nat → Int32 → Rz Int64} (C_X9_behindDay : ∀ {h : Hp} {nx : Nat} {b0 : Nat} {b1 : Int32} {v : Int64} {h1 : Hp} {n1 : Nat}, c_X9_behindDay h nx b0 b1 = some (v, h1, n1) → Ct G mX9_behindDay (d + 5) (Same (some (.long v)) h1 n1) [.ref b0, .int b1] h nx) {c_X9_behindLooks : Hp → Nat → Nat → Int32 → Int32 → Rz Int64} (C_X9_behindLooks : ∀ {h : Hp} {nx : Nat} {b0 : Nat} {b1 : Int32} {b2 : Int32} {v : Int64} {h1 : Hp} {n1 : Nat}, c_X9_behindLooks h nx b0 b1 b2 = some (v, h1, n1) → Ct G mX9_behindLooks (d + 5) (Same (some (.long v)) h1 n1) [.ref b0, .int b1, .int b2] h nx) {c_X9_fromDay : Hp → Nat → Nat → Int32 → Rz Int64} (C_X9_fromDay : ∀ {h : Hp} {nx : Nat} {b0 : Nat} {b1 : Int32} {v : Int64} {h1 : Hp} {n1 : Nat}, c_X9_fromDay h nx b0 b1 = some (v, h1, n1) → Ct G mX9_fromDay (d + 5) (Same (some (.long v)) h1 n1) [.ref b0, .int b1] h nx) : ∀ (n : Nat) {h : Hp} {nx : Nat} {l0 : Nat} {l1 : Int32} {l2 : Int64} {l4 : Int32}, F_X9_fromDay_15 G c_X9_behindBestLooks c_X9_behindDay c_X9_behindLooks c_X9_fromDay n h nx l0 l1 l2 l4 = some (v', h', n') → Ok G mX9_fromDay (d + 6) (Same (some (.long v')) h' n') 15 [some (.ref l0), some (.int l1), some (.long l2), none, some (.int l4)] [] h nx 0 0 := by
  intro n
  induction n with
  | zero =>
    intro h nx l0 l1 l2 l4 e
    rw [F_X9_fromDay_15_0] at e
    cases e
  | succ n K15 =>
    intro h nx l0 l1 l2 l4 e
    rw [F_X9_fromDay_15_s] at e
    refine Ok.iload dX9_fromDay_15 rfl ?_
    refine Ok.aload_n dX9_fromDay_17 rfl ?_
    refine X.rgfR fl_RX9_53 dX9_fromDay_18 e (fun v1 e1 => ?_)
    clear e
    refine X.rnn e1 (fun p2 q e2 => ?_)
    clear e1
    subst q
    refine X.rgfI fl_RX9_83 dX9_fromDay_21 e2 (fun v3 e3 => ?_)
    clear e2
    refine X.icmp_ge (tgt := 57) dX9_fromDay_24 (by decide) e3 (fun e4 => ?_) (fun e4 => ?_)
    · clear e3
      refine Ok.aload_n dX9_fromDay_57 rfl ?_
      refine X.rgfR fl_RX9_16 dX9_fromDay_58 e4 (fun v4 e5 => ?_)
      clear e4
      refine X.ifnull (tgt := 98) dX9_fromDay_61 (by decide) e5 (fun q e6 => ?_) (fun p5 q e6 => ?_)
      · clear e5
        subst q
        refine Ok.aload_n dX9_fromDay_98 rfl ?_
        refine X.rgfI fl_RX9_24 dX9_fromDay_99 e6 (fun v6 e7 => ?_)
        clear e6
        refine X.if_le (tgt := 126) dX9_fromDay_102 (by decide) e7 (fun e8 => ?_) (fun e8 => ?_)
        · clear e7
          refine Ok.lload_n dX9_fromDay_126 rfl ?_
          refine Ok.aload_n dX9_fromDay_127 rfl ?_
          refine Ok.iload_n dX9_fromDay_128 rfl ?_
          refine X.rck e8 (fun c fs hb hc e9 => ?_)
          clear e8
          obtain rfl := List.mem_singleton.mp hc
          refine X.callV (My := mX9_behindBestLooks) (n := 1) (As := [.int l1]) (T := (fun v => (some (.long v)))) (stk' := (fun v => [.long v, .long l2])) (rest := [.long l2]) (kc' := 0) (ks' := 0) dX9_fromDay_129 e9 (fun v h n e => C_X9_behindBestLooks e) hb rfl wd854 wd79 wd853 wd19 wd851 (by decide +kernel) rfl (by decide) rfl rfl (Nat.le_of_ble_eq_true rfl) (Nat.le_of_ble_eq_true rfl) (Nat.le_of_ble_eq_true rfl) rfl rfl (fun _ => rfl) (fun r7 h8 n9 e10 => ?_)
          clear e9
          refine Ok.ladd dX9_fromDay_132 ?_
          exact X.lret dX9_fromDay_133 rfl (Nat.le_of_ble_eq_true rfl) (Nat.le_of_ble_eq_true rfl) e10
        · clear e7
          refine Ok.lload_n dX9_fromDay_105 rfl ?_
          refine Ok.aload_n dX9_fromDay_106 rfl ?_
          refine Ok.iload_n dX9_fromDay_107 rfl ?_
          refine Ok.iconstV (v := (nI 1)) dX9_fromDay_108 (by decide +kernel) ?_
          refine Ok.aload_n dX9_fromDay_109 rfl ?_
          refine X.rgfR fl_RX9_20 dX9_fromDay_110 e8 (fun v10 e9 => ?_)
          clear e8
          refine Ok.iload_n dX9_fromDay_113 rfl ?_
          refine Ok.aload_n dX9_fromDay_114 rfl ?_
          refine X.rgfI fl_RX9_24 dX9_fromDay_115 e9 (fun v11 e10 => ?_)
          clear e9
          refine X.rdzI e10 (fun z e11 => ?_)
          clear e10
          refine Ok.irem dX9_fromDay_118 z ?_
          refine X.rnn e11 (fun p12 q e12 => ?_)
          clear e11
          subst q
          refine X.iald dX9_fromDay_119 e12 (fun v13 e13 => ?_)
          clear e12
          refine Ok.ishl dX9_fromDay_120 ?_
          refine X.rck e13 (fun c fs hb hc e14 => ?_)
          clear e13
          obtain rfl := List.mem_singleton.mp hc
          refine X.callV (My := mX9_behindLooks) (n := 2) (As := [.int l1, .int (((nI 1) <<< (v13 &&& 31)))]) (T := (fun v => (some (.long v)))) (stk' := (fun v => [.long v, .long l2])) (rest := [.long l2]) (kc' := 0) (ks' := 0) dX9_fromDay_121 e14 (fun v h n e => C_X9_behindLooks e) hb rfl wd830 wd79 wd829 wd16 wd827 (by decide +kernel) rfl (by decide) rfl rfl (Nat.le_of_ble_eq_true rfl) (Nat.le_of_ble_eq_true rfl) (Nat.le_of_ble_eq_true rfl) rfl rfl (fun _ => rfl) (fun r14 h15 n16 e15 => ?_)
          clear e14
          refine Ok.ladd dX9_fromDay_124 ?_
          exact X.lret dX9_fromDay_125 rfl (Nat.le_of_ble_eq_true rfl) (Nat.le_of_ble_eq_true rfl) e15
      · clear e5
        subst q
        refine Ok.lload_n dX9_fromDay_64 rfl ?_
        refine Ok.aload_n dX9_fromDay_65 rfl ?_
        refine Ok.iload_n dX9_fromDay_66 rfl ?_
        refine Ok.aload_n dX9_fromDay_67 rfl ?_
        refine X.rgfR fl_RX9_16 dX9_fromDay_68 e6 (fun v17 e7 => ?_)
        clear e6
        refine Ok.aload_n dX9_fromDay_71 rfl ?_
        refine X.rgfR fl_RX9_43 dX9_fromDay_72 e7 (fun v18 e8 => ?_)
        clear e7
        refine Ok.aload_n dX9_fromDay_75 rfl ?_
        refine X.rgfR fl_RX9_11 dX9_fromDay_76 e8 (fun v19 e9 => ?_)
        clear e8
        refine Ok.iload_n dX9_fromDay_79 rfl ?_
        refine X.rnn e9 (fun p20 q e10 => ?_)
        clear e9
        subst q
        refine X.gald dX9_fromDay_80 e10 (fun v21 e11 => ?_)
        clear e10
        refine Ok.aload_n dX9_fromDay_81 rfl ?_
        refine X.rgfR fl_RX9_53 dX9_fromDay_82 e11 (fun v22 e12 => ?_)
        clear e11
        refine X.rnn e12 (fun p23 q e13 => ?_)
        clear e12
        subst q
        refine X.rgfI fl_RX9_109 dX9_fromDay_85 e13 (fun v24 e14 => ?_)
        clear e13
        refine Ok.iload_n dX9_fromDay_88 rfl ?_
        refine Ok.iadd dX9_fromDay_89 ?_
        refine X.rnn e14 (fun p25 q e15 => ?_)
        clear e14
        subst q
        refine X.rnn e15 (fun p26 q e16 => ?_)
        clear e15
        subst q
        refine X.rnn e16 (fun p27 q e17 => ?_)
        clear e16
        subst q
        refine X.callC (n := 3) (As := [.ref p26, .ref p25, .int ((v24 + l1))]) (T := (fun v => (some (.int v)))) (stk' := (fun v => [.int v, .int l1, .ref l0, .long l2])) (rest := [.int l1, .ref l0, .long l2]) dX9_fromDay_90 (Nat.le_of_ble_eq_true rfl) e17 (fun c hc => ?_) rfl rfl (Nat.le_of_ble_eq_true rfl) (Nat.le_of_ble_eq_true rfl) (fun _ => rfl) (fun r28 h29 n30 e18 => ?_)
        · simp only [List.mem_cons, List.not_mem_nil, or_false] at hc
          rcases hc with rfl | rfl | rfl | rfl | rfl | rfl | rfl
          · exact ⟨mX10_chosen, vu_RX9_112_1, fun v h n e18 => k_X10_chosen (d := d + 4) e18⟩
          · exact ⟨mX6_chosen, vu_RX9_112_2, fun v h n e18 => k_X6_chosen (d := d + 1) e18⟩
          · exact ⟨mX6_chosen, vu_RX9_112_3, fun v h n e18 => k_X6_chosen (d := d + 1) e18⟩
          · exact ⟨mX6_chosen, vu_RX9_112_4, fun v h n e18 => k_X6_chosen (d := d + 1) e18⟩
          · exact ⟨mX6_chosen, vu_RX9_112_6, fun v h n e18 => k_X6_chosen (d := d + 1) e18⟩
          · exact ⟨mX8_chosen, vu_RX9_112_8, fun v h n e18 => k_X8_chosen (d := d + 3) e18⟩
          · exact ⟨mX10_chosen, vu_RX9_112_10, fun v h n e18 => k_X10_chosen (d := d + 4) e18⟩
        clear e17
        refine X.rck e18 (fun c fs hb hc e19 => ?_)
        clear e18
        obtain rfl := List.mem_singleton.mp hc
        refine X.callV (My := mX9_behindLooks) (n := 2) (As := [.int l1, .int r28]) (T := (fun v => (some (.long v)))) (stk' := (fun v => [.long v, .long l2])) (rest := [.long l2]) (kc' := 0) (ks' := 0) dX9_fromDay_93 e19 (fun v h n e => C_X9_behindLooks e) hb rfl wd830 wd79 wd829 wd16 wd827 (by decide +kernel) rfl (by decide) rfl rfl (Nat.le_of_ble_eq_true rfl) (Nat.le_of_ble_eq_true rfl) (Nat.le_of_ble_eq_true rfl) rfl rfl (fun _ => rfl) (fun r31 h32 n33 e20 => ?_)
        clear e19
        refine Ok.ladd dX9_fromDay_96 ?_
        exact X.lret dX9_fromDay_97 rfl (Nat.le_of_ble_eq_true rfl) (Nat.le_of_ble_eq_true rfl) e20
    · clear e3
      refine Ok.lload_n dX9_fromDay_27 rfl ?_
      refine Ok.aload_n dX9_fromDay_28 rfl ?_
      refine X.rgfR fl_RX9_43 dX9_fromDay_29 e4 (fun v34 e5 => ?_)
      clear e4
      refine X.rnn e5 (fun p35 q e6 => ?_)
      clear e5
      subst q
      refine X.rgfR fl_RX9_106 dX9_fromDay_32 e6 (fun v36 e7 => ?_)
      clear e6
      refine Ok.iload dX9_fromDay_35 rfl ?_
      refine X.rnn e7 (fun p37 q e8 => ?_)
      clear e7
      subst q
      refine X.gald dX9_fromDay_37 e8 (fun v38 e9 => ?_)
      clear e8
      refine Ok.aload_n dX9_fromDay_38 rfl ?_
      refine X.rgfR fl_RX9_11 dX9_fromDay_39 e9 (fun v39 e10 => ?_)
      clear e9
      refine Ok.iload_n dX9_fromDay_42 rfl ?_
      refine X.rnn e10 (fun p40 q e11 => ?_)
      clear e10
      subst q
      refine X.gald dX9_fromDay_43 e11 (fun v41 e12 => ?_)
      clear e11
      refine Ok.iload dX9_fromDay_44 rfl ?_
      refine X.rnn e12 (fun p42 q e13 => ?_)
      clear e12
      subst q
      refine X.iald dX9_fromDay_46 e13 (fun v43 e14 => ?_)
      clear e13
      refine X.rnn e14 (fun p44 q e15 => ?_)
      clear e14
      subst q
      refine X.iald dX9_fromDay_47 e15 (fun v45 e16 => ?_)
      clear e15
      refine Ok.i2l dX9_fromDay_48 ?_
      refine Ok.ladd dX9_fromDay_49 ?_
      refine X.lstore_n dX9_fromDay_50 (by decide) e16 (L := fun v46 => [some (.ref l0), some (.int l1), some (.long v46), none, some (.int l4)]) (fun _ => rfl) (fun v46 e17 => ?_)
      clear e16
      refine X.iinc dX9_fromDay_51 rfl (by decide) (by decide +kernel) e17 (L := fun v47 => [some (.ref l0), some (.int l1), some (.long v46), none, some (.int v47)]) (fun _ => rfl) (fun v47 e18 => ?_)
      clear e17
      refine Ok.goto (tgt := 15) dX9_fromDay_54 (by decide) ?_
      exact Ok.weakL (K15 e18) ⟨rfl, ⟨rfl, ⟨rfl, ⟨rfl, trivial⟩⟩⟩⟩
noncomputable def B_X9_fromDay (G : Gx) (c_X9_behindBestLooks : Hp → Nat → Nat → Int32 → Rz Int64) (c_X9_behindDay : Hp → Nat → Nat → Int32 → Rz Int64) (c_X9_behindLooks : Hp → Nat → Nat → Int32 → Int32 → Rz Int64) (c_X9_fromDay : Hp → Nat → Nat → Int32 → Rz Int64) (h : Hp) (nx : Nat) (a0 : Nat) (a1 : Int32) : Rz Int64 :=
gfI h a0 [9] 8 (fun v1 =>
if a1 < v1 then
(F_X9_fromDay_15 G c_X9_behindBestLooks c_X9_behindDay c_X9_behindLooks c_X9_fromDay fuelL h nx a0 a1 (0 : Int64) (nI 0))
else
some ((0 : Int64), h, nx))
set_option maxRecDepth 100000 in
set_option maxHeartbeats 4000000 in
theorem b_X9_fromDay {G : Gx} {d : Nat} {c_X9_behindBestLooks : Hp → Nat → Nat → Int32 → Rz Int64} (C_X9_behindBestLooks : ∀ {h : Hp} {nx : Nat} {b0 : Nat} {b1 : Int32} {v : Int64} {h1 : Hp} {n1 : Nat}, c_X9_behindBestLooks h nx b0 b1 = some (v, h1, n1) → Ct G mX9_behindBestLooks (d + 5) (Same (some (.long v)) h1 n1) [.ref b0, .int b1] h nx) {c_X9_behindDay : Hp → Nat → Nat → Int32 → Rz Int64} (C_X9_behindDay : ∀ {h : Hp} {nx : Nat} {b0 : Nat} {b1 : Int32} {v : Int64} {h1 : Hp} {n1 : Nat}, c_X9_behindDay h nx b0 b1 = some (v, h1, n1) → Ct G mX9_behindDay (d + 5) (Same (some (.long v)) h1 n1) [.ref b0, .int b1] h nx) {c_X9_behindLooks : Hp → Nat → Nat → Int32 → Int32 → Rz Int64} (C_X9_behindLooks : ∀ {h : Hp} {nx : Nat} {b0 : Nat} {b1 : Int32} {b2 : Int32} {v : Int64} {h1 : Hp} {n1 : Nat}, c_X9_behindLooks h nx b0 b1 b2 = some (v, h1, n1) → Ct G mX9_behindLooks (d + 5) (Same (some (.long v)) h1 n1) [.ref b0, .int b1, .int b2] h nx) {c_X9_fromDay : Hp → Nat → Nat → Int32 → Rz Int64} (C_X9_fromDay : ∀ {h : Hp} {nx : Nat} {b0 : Nat} {b1 : Int32} {v : Int64} {h1 : Hp} {n1 : Nat}, c_X9_fromDay h nx b0 b1 = some (v, h1, n1) → Ct G mX9_fromDay (d + 5) (Same (some (.long v)) h1 n1) [.ref b0, .int b1] h nx) {h : Hp} {nx : Nat} {a0 : Nat} {a1 : Int32} {v' : Int64} {h' : Hp} {n' : Nat} (e : B_X9_fromDay G c_X9_behindBestLooks c_X9_behindDay c_X9_behindLooks c_X9_fromDay h nx a0 a1 = some (v', h', n')) : Ct G mX9_fromDay (d + 6) (Same (some (.long v')) h' n') [.ref a0, .int a1] h nx := by
  unfold B_X9_fromDay at e
  refine Ct.of (ls := [some (.ref a0), some (.int a1), none, none, none]) (by decide +kernel) rfl (Nat.le_of_ble_eq_true rfl) rfl ?_
  refine Ok.iload_n dX9_fromDay_0 rfl ?_
  refine Ok.aload_n dX9_fromDay_1 rfl ?_
  refine X.rgfI fl_RX9_34 dX9_fromDay_2 e (fun v1 e1 => ?_)
  clear e
  refine X.icmp_lt (tgt := 10) dX9_fromDay_5 (by decide) e1 (fun e2 => ?_) (fun e2 => ?_)
  · clear e1
    refine XL.lconst (v := 0) dX9_fromDay_10 (by decide +kernel) ?_
    refine XL.lstore_n dX9_fromDay_11 (by decide) (L := [some (.ref a0), some (.int a1), some (.long (0 : Int64)), none, none]) rfl ?_
    refine Ok.iconstV (v := (nI 0)) dX9_fromDay_12 (by decide +kernel) ?_
    refine XL.istore dX9_fromDay_13 (by decide) (L := [some (.ref a0), some (.int a1), some (.long (0 : Int64)), none, some (.int (nI 0))]) rfl ?_
    exact Ok.weakL (k_X9_fromDay_15 (d := d) C_X9_behindBestLooks C_X9_behindDay C_X9_behindLooks C_X9_fromDay fuelL e2) ⟨rfl, ⟨rfl, ⟨rfl, ⟨rfl, trivial⟩⟩⟩⟩
  · clear e1
    refine XL.lconst (v := 0) dX9_fromDay_8 (by decide +kernel) ?_
    exact X.lret dX9_fromDay_9 rfl (Nat.le_of_ble_eq_true rfl) (Nat.le_of_ble_eq_true rfl) e2
noncomputable def R_X9_behindBestLooks (G : Gx) : Nat → ((Hp → Nat → Nat → Int32 → Rz Int64) × (Hp → Nat → Nat → Int32 → Rz Int64) × (Hp → Nat → Nat → Int32 → Int32 → Rz Int64) × (Hp → Nat → Nat → Int32 → Rz Int64)) := fun n => Nat.rec (motive := fun _ => ((Hp → Nat → Nat → Int32 → Rz Int64) × (Hp → Nat → Nat → Int32 → Rz Int64) × (Hp → Nat → Nat → Int32 → Int32 → Rz Int64) × (Hp → Nat → Nat → Int32 → Rz Int64))) ((fun _ _ _ _ => none), (fun _ _ _ _ => none), (fun _ _ _ _ _ => none), (fun _ _ _ _ => none)) (fun _ p => (B_X9_behindBestLooks G p.1 p.2.1 p.2.2.1 p.2.2.2, B_X9_behindDay G p.1 p.2.1 p.2.2.1 p.2.2.2, B_X9_behindLooks G p.1 p.2.1 p.2.2.1 p.2.2.2, B_X9_fromDay G p.1 p.2.1 p.2.2.1 p.2.2.2)) n
noncomputable def F_X9_behindBestLooks (G : Gx) (n : Nat) : Hp → Nat → Nat → Int32 → Rz Int64 := (R_X9_behindBestLooks G n).1
noncomputable def F_X9_behindDay (G : Gx) (n : Nat) : Hp → Nat → Nat → Int32 → Rz Int64 := (R_X9_behindBestLooks G n).2.1
noncomputable def F_X9_behindLooks (G : Gx) (n : Nat) : Hp → Nat → Nat → Int32 → Int32 → Rz Int64 := (R_X9_behindBestLooks G n).2.2.1
noncomputable def F_X9_fromDay (G : Gx) (n : Nat) : Hp → Nat → Nat → Int32 → Rz Int64 := (R_X9_behindBestLooks G n).2.2.2
set_option maxRecDepth 100000 in
theorem R_X9_behindBestLooks_s {G : Gx} {n : Nat} : R_X9_behindBestLooks G (n + 1) = (B_X9_behindBestLooks G (F_X9_behindBestLooks G n) (F_X9_behindDay G n) (F_X9_behindLooks G n) (F_X9_fromDay G n), B_X9_behindDay G (F_X9_behindBestLooks G n) (F_X9_behindDay G n) (F_X9_behindLooks G n) (F_X9_fromDay G n), B_X9_behindLooks G (F_X9_behindBestLooks G n) (F_X9_behindDay G n) (F_X9_behindLooks G n) (F_X9_fromDay G n), B_X9_fromDay G (F_X9_behindBestLooks G n) (F_X9_behindDay G n) (F_X9_behindLooks G n) (F_X9_fromDay G n)) := rfl
set_option maxRecDepth 100000 in
theorem F_X9_behindBestLooks_s {G : Gx} {n : Nat} : F_X9_behindBestLooks G (n + 1) = B_X9_behindBestLooks G (F_X9_behindBestLooks G n) (F_X9_behindDay G n) (F_X9_behindLooks G n) (F_X9_fromDay G n) := congrArg (fun p => p.1) R_X9_behindBestLooks_s
theorem F_X9_behindBestLooks_0 {G : Gx} : F_X9_behindBestLooks G 0 = (fun _ _ _ _ => none) := rfl
set_option maxRecDepth 100000 in
theorem F_X9_behindDay_s {G : Gx} {n : Nat} : F_X9_behindDay G (n + 1) = B_X9_behindDay G (F_X9_behindBestLooks G n) (F_X9_behindDay G n) (F_X9_behindLooks G n) (F_X9_fromDay G n) := congrArg (fun p => p.2.1) R_X9_behindBestLooks_s
theorem F_X9_behindDay_0 {G : Gx} : F_X9_behindDay G 0 = (fun _ _ _ _ => none) := rfl
set_option maxRecDepth 100000 in
theorem F_X9_behindLooks_s {G : Gx} {n : Nat} : F_X9_behindLooks G (n + 1) = B_X9_behindLooks G (F_X9_behindBestLooks G n) (F_X9_behindDay G n) (F_X9_behindLooks G n) (F_X9_fromDay G n) := congrArg (fun p => p.2.2.1) R_X9_behindBestLooks_s
theorem F_X9_behindLooks_0 {G : Gx} : F_X9_behindLooks G 0 = (fun _ _ _ _ _ => none) := rfl
set_option maxRecDepth 100000 in
theorem F_X9_fromDay_s {G : Gx} {n : Nat} : F_X9_fromDay G (n + 1) = B_X9_fromDay G (F_X9_behindBestLooks G n) (F_X9_behindDay G n) (F_X9_behindLooks G n) (F_X9_fromDay G n) := congrArg (fun p => p.2.2.2) R_X9_behindBestLooks_s
theorem F_X9_fromDay_0 {G : Gx} : F_X9_fromDay G 0 = (fun _ _ _ _ => none) := rfl
set_option maxRecDepth 100000 in
set_option maxHeartbeats 4000000 in
theorem kk_X9_behindBestLooks {G : Gx} {d : Nat} : ∀ n : Nat, (∀ {h : Hp} {nx : Nat} {a0 : Nat} {a1 : Int32} {v : Int64} {h1 : Hp} {n1 : Nat}, F_X9_behindBestLooks G n h nx a0 a1 = some (v, h1, n1) → Ct G mX9_behindBestLooks (d + (n + 5)) (Same (some (.long v)) h1 n1) [.ref a0, .int a1] h nx) ∧ (∀ {h : Hp} {nx : Nat} {a0 : Nat} {a1 : Int32} {v : Int64} {h1 : Hp} {n1 : Nat}, F_X9_behindDay G n h nx a0 a1 = some (v, h1, n1) → Ct G mX9_behindDay (d + (n + 5)) (Same (some (.long v)) h1 n1) [.ref a0, .int a1] h nx) ∧ (∀ {h : Hp} {nx : Nat} {a0 : Nat} {a1 : Int32} {a2 : Int32} {v : Int64} {h1 : Hp} {n1 : Nat}, F_X9_behindLooks G n h nx a0 a1 a2 = some (v, h1, n1) → Ct G mX9_behindLooks (d + (n + 5)) (Same (some (.long v)) h1 n1) [.ref a0, .int a1, .int a2] h nx) ∧ (∀ {h : Hp} {nx : Nat} {a0 : Nat} {a1 : Int32} {v : Int64} {h1 : Hp} {n1 : Nat}, F_X9_fromDay G n h nx a0 a1 = some (v, h1, n1) → Ct G mX9_fromDay (d + (n + 5)) (Same (some (.long v)) h1 n1) [.ref a0, .int a1] h nx) := by
  intro n
  induction n with
  | zero => exact ⟨(fun e => (by have e9 : (none : Rz Int64) = some _ := e; cases e9)), (fun e => (by have e9 : (none : Rz Int64) = some _ := e; cases e9)), (fun e => (by have e9 : (none : Rz Int64) = some _ := e; cases e9)), (fun e => (by have e9 : (none : Rz Int64) = some _ := e; cases e9))⟩
  | succ n ih =>
    obtain ⟨i0, i1, i2, i3⟩ := ih
    exact ⟨(by
      intro h nx a0 a1 v h1 n1 e
      rw [F_X9_behindBestLooks_s] at e
      rw [show d + (n + 1 + 5) = (d + n) + 6 by omega]
      exact b_X9_behindBestLooks (d := d + n) (fun e => by rw [show d + n + 5 = d + (n + 5) by omega]; exact i0 e) (fun e => by rw [show d + n + 5 = d + (n + 5) by omega]; exact i1 e) (fun e => by rw [show d + n + 5 = d + (n + 5) by omega]; exact i2 e) (fun e => by rw [show d + n + 5 = d + (n + 5) by omega]; exact i3 e) e), (by
      intro h nx a0 a1 v h1 n1 e
      rw [F_X9_behindDay_s] at e
      rw [show d + (n + 1 + 5) = (d + n) + 6 by omega]
      exact b_X9_behindDay (d := d + n) (fun e => by rw [show d + n + 5 = d + (n + 5) by omega]; exact i0 e) (fun e => by rw [show d + n + 5 = d + (n + 5) by omega]; exact i1 e) (fun e => by rw [show d + n + 5 = d + (n + 5) by omega]; exact i2 e) (fun e => by rw [show d + n + 5 = d + (n + 5) by omega]; exact i3 e) e), (by
      intro h nx a0 a1 a2 v h1 n1 e
      rw [F_X9_behindLooks_s] at e
      rw [show d + (n + 1 + 5) = (d + n) + 6 by omega]
      exact b_X9_behindLooks (d := d + n) (fun e => by rw [show d + n + 5 = d + (n + 5) by omega]; exact i0 e) (fun e => by rw [show d + n + 5 = d + (n + 5) by omega]; exact i1 e) (fun e => by rw [show d + n + 5 = d + (n + 5) by omega]; exact i2 e) (fun e => by rw [show d + n + 5 = d + (n + 5) by omega]; exact i3 e) e), (by
      intro h nx a0 a1 v h1 n1 e
      rw [F_X9_fromDay_s] at e
      rw [show d + (n + 1 + 5) = (d + n) + 6 by omega]
      exact b_X9_fromDay (d := d + n) (fun e => by rw [show d + n + 5 = d + (n + 5) by omega]; exact i0 e) (fun e => by rw [show d + n + 5 = d + (n + 5) by omega]; exact i1 e) (fun e => by rw [show d + n + 5 = d + (n + 5) by omega]; exact i2 e) (fun e => by rw [show d + n + 5 = d + (n + 5) by omega]; exact i3 e) e)⟩
theorem k_X9_behindBestLooks {G : Gx} {d : Nat} (n : Nat) : ∀ {h : Hp} {nx : Nat} {a0 : Nat} {a1 : Int32} {v : Int64} {h1 : Hp} {n1 : Nat}, F_X9_behindBestLooks G n h nx a0 a1 = some (v, h1, n1) → Ct G mX9_behindBestLooks (d + (n + 5)) (Same (some (.long v)) h1 n1) [.ref a0, .int a1] h nx := (@kk_X9_behindBestLooks G d n).1
theorem k_X9_behindDay {G : Gx} {d : Nat} (n : Nat) : ∀ {h : Hp} {nx : Nat} {a0 : Nat} {a1 : Int32} {v : Int64} {h1 : Hp} {n1 : Nat}, F_X9_behindDay G n h nx a0 a1 = some (v, h1, n1) → Ct G mX9_behindDay (d + (n + 5)) (Same (some (.long v)) h1 n1) [.ref a0, .int a1] h nx := (@kk_X9_behindBestLooks G d n).2.1
theorem k_X9_behindLooks {G : Gx} {d : Nat} (n : Nat) : ∀ {h : Hp} {nx : Nat} {a0 : Nat} {a1 : Int32} {a2 : Int32} {v : Int64} {h1 : Hp} {n1 : Nat}, F_X9_behindLooks G n h nx a0 a1 a2 = some (v, h1, n1) → Ct G mX9_behindLooks (d + (n + 5)) (Same (some (.long v)) h1 n1) [.ref a0, .int a1, .int a2] h nx := (@kk_X9_behindBestLooks G d n).2.2.1
theorem k_X9_fromDay {G : Gx} {d : Nat} (n : Nat) : ∀ {h : Hp} {nx : Nat} {a0 : Nat} {a1 : Int32} {v : Int64} {h1 : Hp} {n1 : Nat}, F_X9_fromDay G n h nx a0 a1 = some (v, h1, n1) → Ct G mX9_fromDay (d + (n + 5)) (Same (some (.long v)) h1 n1) [.ref a0, .int a1] h nx := (@kk_X9_behindBestLooks G d n).2.2.2
noncomputable def F_X9_meanOf (G : Gx) (h : Hp) (nx : Nat) (a0 : Nat) (a1 : Nat) (a2 : Int32) : Rz Int64 :=
pfV h a0 [9] 3 (va_rf (some a1)) (fun h1 =>
ck h1 a0 [9] (fun _ =>
cl (F_X9_begin G h1 nx a0 a2) (fun _ h3 n4 =>
ck h3 a0 [9] (fun _ =>
cl (F_X9_fromDay G 64 h3 n4 a0 (nI 0)) (fun r5 h6 n7 =>
some (r5, h6, n7))))))
set_option maxRecDepth 100000 in
set_option maxHeartbeats 4000000 in
theorem k_X9_meanOf {G : Gx} {d : Nat} {h : Hp} {nx : Nat} {a0 : Nat} {a1 : Nat} {a2 : Int32} {v' : Int64} {h' : Hp} {n' : Nat} (e : F_X9_meanOf G h nx a0 a1 a2 = some (v', h', n')) : Ct G mX9_meanOf (d + 70) (Same (some (.long v')) h' n') [.ref a0, .ref a1, .int a2] h nx := by
  unfold F_X9_meanOf at e
  refine Ct.of (ls := [some (.ref a0), some (.ref a1), some (.int a2)]) (by decide +kernel) rfl (Nat.le_of_ble_eq_true rfl) rfl ?_
  refine Ok.aload_n dX9_meanOf_0 rfl ?_
  refine Ok.aload_n dX9_meanOf_1 rfl ?_
  refine X.rpfV (v := (va_rf (some a1))) fp_RX9_16 (nar_q (Or.inl ⟨_, rfl⟩) (some a1)) (fits_q (Or.inl ⟨_, rfl⟩) (some a1)) dX9_meanOf_2 e (fun h1 e1 => ?_)
  clear e
  refine Ok.aload_n dX9_meanOf_5 rfl ?_
  refine Ok.iload_n dX9_meanOf_6 rfl ?_
  refine X.rck e1 (fun c fs hb hc e2 => ?_)
  clear e1
  obtain rfl := List.mem_singleton.mp hc
  refine X.callV (My := mX9_begin) (n := 1) (As := [.int a2]) (T := (fun v => none)) (stk' := (fun _ => [])) (rest := []) (kc' := 0) (ks' := 0) dX9_meanOf_7 e2 (fun v h n e => k_X9_begin (d := d + 68) e) hb rfl wd819 wd79 wd818 wd14 wd816 (by decide +kernel) rfl (by decide) rfl rfl (Nat.le_of_ble_eq_true rfl) (Nat.le_of_ble_eq_true rfl) (Nat.le_of_ble_eq_true rfl) rfl rfl (fun _ => rfl) (fun _ h3 n4 e3 => ?_)
  clear e2
  refine Ok.aload_n dX9_meanOf_10 rfl ?_
  refine Ok.iconstV (v := (nI 0)) dX9_meanOf_11 (by decide +kernel) ?_
  refine X.rck e3 (fun c fs hb hc e4 => ?_)
  clear e3
  obtain rfl := List.mem_singleton.mp hc
  refine X.callV (My := mX9_fromDay) (n := 1) (As := [.int (nI 0)]) (T := (fun v => (some (.long v)))) (stk' := (fun v => [.long v])) (rest := []) (kc' := 0) (ks' := 0) dX9_meanOf_12 e4 (fun v h n e => k_X9_fromDay 64 (d := d + 0) e) hb rfl wd825 wd79 wd824 wd15 wd822 (by decide +kernel) rfl (by decide) rfl rfl (Nat.le_of_ble_eq_true rfl) (Nat.le_of_ble_eq_true rfl) (Nat.le_of_ble_eq_true rfl) rfl rfl (fun _ => rfl) (fun r5 h6 n7 e5 => ?_)
  clear e4
  exact X.lret dX9_meanOf_15 rfl (Nat.le_of_ble_eq_true rfl) (Nat.le_of_ble_eq_true rfl) e5
noncomputable def F_X9_gatherSets_65 (G : Gx) (k15 : Hp → Nat → Nat → Int32 → Int32 → Rz Unit) (h : Hp) (nx : Nat) (l0 : Nat) (l1 : Int32) (l2 : Int32) : Rz Unit :=
nm (l2 + (nI 1)) (fun v1 =>
(k15 h nx l0 l1 v1))
set_option maxRecDepth 100000 in
set_option maxHeartbeats 4000000 in
theorem k_X9_gatherSets_65 {G : Gx} {d : Nat} {v' : Unit} {h' : Hp} {n' : Nat} {k15 : Hp → Nat → Nat → Int32 → Int32 → Rz Unit} (K15 : ∀ {h : Hp} {nx : Nat} {l0 : Nat} {l1 : Int32} {l2 : Int32}, k15 h nx l0 l1 l2 = some (v', h', n') → Ok G mX9_gatherSets (d + 1) (Same none h' n') 15 [some (.ref l0), some (.int l1), some (.int l2)] [] h nx 0 0) {h : Hp} {nx : Nat} {l0 : Nat} {l1 : Int32} {l2 : Int32} (e : F_X9_gatherSets_65 G k15 h nx l0 l1 l2 = some (v', h', n')) : Ok G mX9_gatherSets (d + 1) (Same none h' n') 65 [some (.ref l0), some (.int l1), some (.int l2)] [] h nx 0 0 := by
  unfold F_X9_gatherSets_65 at e
  refine X.iinc dX9_gatherSets_65 rfl (by decide) (by decide +kernel) e (L := fun v1 => [some (.ref l0), some (.int l1), some (.int v1)]) (fun _ => rfl) (fun v1 e1 => ?_)
  clear e
  refine Ok.goto (tgt := 15) dX9_gatherSets_68 (by decide) ?_
  exact Ok.weakL (K15 e1) ⟨rfl, ⟨rfl, ⟨rfl, trivial⟩⟩⟩
noncomputable def F_X9_gatherSets_15 (G : Gx) : Nat → Hp → Nat → Nat → Int32 → Int32 → Rz Unit := fun n => Nat.rec (motive := fun _ => Hp → Nat → Nat → Int32 → Int32 → Rz Unit) (fun _ _ _ _ _ => none) (fun _ k15 => fun h nx l0 l1 l2 =>
gfR h l0 [9] 1 (fun v1 =>
nn v1 (fun p2 =>
gfI h p2 [0] 11 (fun v3 =>
if (((nI 1) <<< (v3 &&& 31))) ≤ l2 then
some ((), h, nx)
else
cl (F_J6_bitCount_0f7a4 G h nx l2) (fun r4 h5 n6 =>
if r4 = l1 then
gfI h5 l0 [9] 7 (fun v7 =>
if (nI 56) ≤ v7 then
(F_X9_gatherSets_65 G k15 h5 n6 l0 l1 l2)
else
gfR h5 l0 [9] 6 (fun v8 =>
gfI h5 l0 [9] 7 (fun v9 =>
nn v8 (fun p10 =>
asI (g_c G 0) id h5 p10 v9 l2 (fun h11 =>
gfI h11 l0 [9] 7 (fun v12 =>
pfV h11 l0 [9] 7 (.int ((v12 + (nI 1)))) (fun h13 =>
(F_X9_gatherSets_65 G k15 h13 n6 l0 l1 l2))))))))
else
(F_X9_gatherSets_65 G k15 h5 n6 l0 l1 l2)))))) n
theorem F_X9_gatherSets_15_0 {G : Gx} {h : Hp} {nx : Nat} {l0 : Nat} {l1 : Int32} {l2 : Int32} : F_X9_gatherSets_15 G 0 h nx l0 l1 l2 = none := rfl
theorem F_X9_gatherSets_15_s {G : Gx} {n : Nat} {h : Hp} {nx : Nat} {l0 : Nat} {l1 : Int32} {l2 : Int32} : F_X9_gatherSets_15 G (n + 1) h nx l0 l1 l2 = (
gfR h l0 [9] 1 (fun v1 =>
nn v1 (fun p2 =>
gfI h p2 [0] 11 (fun v3 =>
if (((nI 1) <<< (v3 &&& 31))) ≤ l2 then
some ((), h, nx)
else
cl (F_J6_bitCount_0f7a4 G h nx l2) (fun r4 h5 n6 =>
if r4 = l1 then
gfI h5 l0 [9] 7 (fun v7 =>
if (nI 56) ≤ v7 then
(F_X9_gatherSets_65 G (F_X9_gatherSets_15 G n) h5 n6 l0 l1 l2)
else
gfR h5 l0 [9] 6 (fun v8 =>
gfI h5 l0 [9] 7 (fun v9 =>
nn v8 (fun p10 =>
asI (g_c G 0) id h5 p10 v9 l2 (fun h11 =>
gfI h11 l0 [9] 7 (fun v12 =>
pfV h11 l0 [9] 7 (.int ((v12 + (nI 1)))) (fun h13 =>
(F_X9_gatherSets_65 G (F_X9_gatherSets_15 G n) h13 n6 l0 l1 l2))))))))
else
(F_X9_gatherSets_65 G (F_X9_gatherSets_15 G n) h5 n6 l0 l1 l2)))))) := rfl
set_option maxRecDepth 100000 in
set_option maxHeartbeats 4000000 in
theorem k_X9_gatherSets_15 {G : Gx} {d : Nat} {v' : Unit} {h' : Hp} {n' : Nat} : ∀ (n : Nat) {h : Hp} {nx : Nat} {l0 : Nat} {l1 : Int32} {l2 : Int32}, F_X9_gatherSets_15 G n h nx l0 l1 l2 = some (v', h', n') → Ok G mX9_gatherSets (d + 1) (Same none h' n') 15 [some (.ref l0), some (.int l1), some (.int l2)] [] h nx 0 0 := by
  intro n
  induction n with
  | zero =>
    intro h nx l0 l1 l2 e
    rw [F_X9_gatherSets_15_0] at e
    cases e
  | succ n K15 =>
    intro h nx l0 l1 l2 e
    rw [F_X9_gatherSets_15_s] at e
    refine Ok.iload_n dX9_gatherSets_15 rfl ?_
    refine Ok.iconstV (v := (nI 1)) dX9_gatherSets_16 (by decide +kernel) ?_
    refine Ok.aload_n dX9_gatherSets_17 rfl ?_
    refine X.rgfR fl_RX9_53 dX9_gatherSets_18 e (fun v1 e1 => ?_)
    clear e
    refine X.rnn e1 (fun p2 q e2 => ?_)
    clear e1
    subst q
    refine X.rgfI fl_RX9_83 dX9_gatherSets_21 e2 (fun v3 e3 => ?_)
    clear e2
    refine Ok.ishl dX9_gatherSets_24 ?_
    refine X.icmp_ge (tgt := 71) dX9_gatherSets_25 (by decide) e3 (fun e4 => ?_) (fun e4 => ?_)
    · clear e3
      exact X.vret dX9_gatherSets_71 rfl (Nat.le_of_ble_eq_true rfl) (Nat.le_of_ble_eq_true rfl) e4
    · clear e3
      refine Ok.iload_n dX9_gatherSets_28 rfl ?_
      refine X.callS (My := mJ6_bitCount_0f7a4) (n := 1) (As := [.int l2]) (T := (fun v => (some (.int v)))) (stk' := (fun v => [.int v])) (rest := []) (kc' := 0) (ks' := 0) dX9_gatherSets_29 e4 (fun v h n e => k_J6_bitCount_0f7a4 (d := d + 0) e) wd769 wd97 wd768 wd869 (by decide +kernel) rfl (by decide) rfl rfl (Nat.le_of_ble_eq_true rfl) (Nat.le_of_ble_eq_true rfl) (Nat.le_of_ble_eq_true rfl) rfl rfl (fun _ => rfl) (fun r4 h5 n6 e5 => ?_)
      clear e4
      refine Ok.iload_n dX9_gatherSets_32 rfl ?_
      refine X.icmp_ne (tgt := 65) dX9_gatherSets_33 (by decide) e5 (fun e6 => ?_) (fun e6 => ?_)
      · clear e5
        exact Ok.weakL (k_X9_gatherSets_65 (d := d) K15 e6) ⟨rfl, ⟨rfl, ⟨rfl, trivial⟩⟩⟩
      · clear e5
        refine Ok.aload_n dX9_gatherSets_36 rfl ?_
        refine X.rgfI fl_RX9_31 dX9_gatherSets_37 e6 (fun v7 e7 => ?_)
        clear e6
        refine Ok.bipushV (v := (nI 56)) dX9_gatherSets_40 (by decide +kernel) ?_
        refine X.icmp_ge (tgt := 65) dX9_gatherSets_42 (by decide) e7 (fun e8 => ?_) (fun e8 => ?_)
        · clear e7
          exact Ok.weakL (k_X9_gatherSets_65 (d := d) K15 e8) ⟨rfl, ⟨rfl, ⟨rfl, trivial⟩⟩⟩
        · clear e7
          refine Ok.aload_n dX9_gatherSets_45 rfl ?_
          refine X.rgfR fl_RX9_28 dX9_gatherSets_46 e8 (fun v8 e9 => ?_)
          clear e8
          refine Ok.aload_n dX9_gatherSets_49 rfl ?_
          refine X.rgfI fl_RX9_31 dX9_gatherSets_50 e9 (fun v9 e10 => ?_)
          clear e9
          refine Ok.iload_n dX9_gatherSets_53 rfl ?_
          refine X.rnn e10 (fun p10 q e11 => ?_)
          clear e10
          subst q
          refine X.iast dX9_gatherSets_54 e11 (fun h11 e12 => ?_)
          clear e11
          refine Ok.aload_n dX9_gatherSets_55 rfl ?_
          refine Ok.dup dX9_gatherSets_56 rfl ?_
          refine X.rgfI fl_RX9_31 dX9_gatherSets_57 e12 (fun v12 e13 => ?_)
          clear e12
          refine Ok.iconstV (v := (nI 1)) dX9_gatherSets_60 (by decide +kernel) ?_
          refine Ok.iadd dX9_gatherSets_61 ?_
          refine X.rpfV (v := (.int ((v12 + (nI 1))))) fp_RX9_31 rfl rfl dX9_gatherSets_62 e13 (fun h13 e14 => ?_)
          clear e13
          exact Ok.weakL (k_X9_gatherSets_65 (d := d) K15 e14) ⟨rfl, ⟨rfl, ⟨rfl, trivial⟩⟩⟩
noncomputable def F_X9_gatherSets (G : Gx) (h : Hp) (nx : Nat) (a0 : Nat) : Rz Unit :=
gfR h a0 [9] 1 (fun v1 =>
nn v1 (fun p2 =>
ck h p2 [0] (fun _ =>
cl (F_X0_looksOrAll G h nx p2) (fun r3 h4 n5 =>
pfV h4 a0 [9] 7 (.int (nI 0)) (fun h6 =>
(F_X9_gatherSets_15 G fuelL h6 n5 a0 r3 (nI 0)))))))
set_option maxRecDepth 100000 in
set_option maxHeartbeats 4000000 in
theorem k_X9_gatherSets {G : Gx} {d : Nat} {h : Hp} {nx : Nat} {a0 : Nat} {v' : Unit} {h' : Hp} {n' : Nat} (e : F_X9_gatherSets G h nx a0 = some (v', h', n')) : Ct G mX9_gatherSets (d + 1) (Same none h' n') [.ref a0] h nx := by
  unfold F_X9_gatherSets at e
  refine Ct.of (ls := [some (.ref a0), none, none]) (by decide +kernel) rfl (Nat.le_of_ble_eq_true rfl) rfl ?_
  refine Ok.aload_n dX9_gatherSets_0 rfl ?_
  refine X.rgfR fl_RX9_53 dX9_gatherSets_1 e (fun v1 e1 => ?_)
  clear e
  refine X.rnn e1 (fun p2 q e2 => ?_)
  clear e1
  subst q
  refine X.rck e2 (fun c fs hb hc e3 => ?_)
  clear e2
  obtain rfl := List.mem_singleton.mp hc
  refine X.callV (My := mX0_looksOrAll) (n := 0) (As := []) (T := (fun v => (some (.int v)))) (stk' := (fun v => [.int v])) (rest := []) (kc' := 0) (ks' := 0) dX9_gatherSets_4 e3 (fun v h n e => k_X0_looksOrAll (d := d + 0) e) hb rfl wd752 wd77 wd750 wd751 wd868 (by decide +kernel) rfl (by decide) rfl rfl (Nat.le_of_ble_eq_true rfl) (Nat.le_of_ble_eq_true rfl) (Nat.le_of_ble_eq_true rfl) rfl rfl (fun _ => rfl) (fun r3 h4 n5 e4 => ?_)
  clear e3
  refine XL.istore_n dX9_gatherSets_7 (by decide) (L := [some (.ref a0), some (.int r3), none]) rfl ?_
  refine Ok.aload_n dX9_gatherSets_8 rfl ?_
  refine Ok.iconstV (v := (nI 0)) dX9_gatherSets_9 (by decide +kernel) ?_
  refine X.rpfV (v := (.int (nI 0))) fp_RX9_31 rfl rfl dX9_gatherSets_10 e4 (fun h6 e5 => ?_)
  clear e4
  refine Ok.iconstV (v := (nI 0)) dX9_gatherSets_13 (by decide +kernel) ?_
  refine XL.istore_n dX9_gatherSets_14 (by decide) (L := [some (.ref a0), some (.int r3), some (.int (nI 0))]) rfl ?_
  exact Ok.weakL (k_X9_gatherSets_15 (d := d) fuelL e5) ⟨rfl, ⟨rfl, ⟨rfl, trivial⟩⟩⟩
noncomputable def F_X9_greatestMean (G : Gx) (h : Hp) (nx : Nat) (a0 : Nat) (a1 : Int32) : Rz Int64 :=
pfV h a0 [9] 3 (va_rf none) (fun h1 =>
pfV h1 a0 [9] 5 (.int (nI 0)) (fun h2 =>
ck h2 a0 [9] (fun _ =>
cl (F_X9_begin G h2 nx a0 a1) (fun _ h4 n5 =>
ck h4 a0 [9] (fun _ =>
cl (F_X9_gatherSets G h4 n5 a0) (fun _ h7 n8 =>
ck h7 a0 [9] (fun _ =>
cl (F_X9_fromDay G 64 h7 n8 a0 (nI 0)) (fun r9 h10 n11 =>
some (r9, h10, n11)))))))))
set_option maxRecDepth 100000 in
set_option maxHeartbeats 4000000 in
theorem k_X9_greatestMean {G : Gx} {d : Nat} {h : Hp} {nx : Nat} {a0 : Nat} {a1 : Int32} {v' : Int64} {h' : Hp} {n' : Nat} (e : F_X9_greatestMean G h nx a0 a1 = some (v', h', n')) : Ct G mX9_greatestMean (d + 70) (Same (some (.long v')) h' n') [.ref a0, .int a1] h nx := by
  unfold F_X9_greatestMean at e
  refine Ct.of (ls := [some (.ref a0), some (.int a1)]) (by decide +kernel) rfl (Nat.le_of_ble_eq_true rfl) rfl ?_
  refine Ok.aload_n dX9_greatestMean_0 rfl ?_
  refine XL.aconst_null dX9_greatestMean_1 ?_
  refine X.rpfV (v := (va_rf none)) fp_RX9_16 (nar_q (Or.inl ⟨_, rfl⟩) none) (fits_q (Or.inl ⟨_, rfl⟩) none) dX9_greatestMean_2 e (fun h1 e1 => ?_)
  clear e
  refine Ok.aload_n dX9_greatestMean_5 rfl ?_
  refine Ok.iconstV (v := (nI 0)) dX9_greatestMean_6 (by decide +kernel) ?_
  refine X.rpfV (v := (.int (nI 0))) fp_RX9_24 rfl rfl dX9_greatestMean_7 e1 (fun h2 e2 => ?_)
  clear e1
  refine Ok.aload_n dX9_greatestMean_10 rfl ?_
  refine Ok.iload_n dX9_greatestMean_11 rfl ?_
  refine X.rck e2 (fun c fs hb hc e3 => ?_)
  clear e2
  obtain rfl := List.mem_singleton.mp hc
  refine X.callV (My := mX9_begin) (n := 1) (As := [.int a1]) (T := (fun v => none)) (stk' := (fun _ => [])) (rest := []) (kc' := 0) (ks' := 0) dX9_greatestMean_12 e3 (fun v h n e => k_X9_begin (d := d + 68) e) hb rfl wd819 wd79 wd818 wd14 wd816 (by decide +kernel) rfl (by decide) rfl rfl (Nat.le_of_ble_eq_true rfl) (Nat.le_of_ble_eq_true rfl) (Nat.le_of_ble_eq_true rfl) rfl rfl (fun _ => rfl) (fun _ h4 n5 e4 => ?_)
  clear e3
  refine Ok.aload_n dX9_greatestMean_15 rfl ?_
  refine X.rck e4 (fun c fs hb hc e5 => ?_)
  clear e4
  obtain rfl := List.mem_singleton.mp hc
  refine X.callV (My := mX9_gatherSets) (n := 0) (As := []) (T := (fun v => none)) (stk' := (fun _ => [])) (rest := []) (kc' := 0) (ks' := 0) dX9_greatestMean_16 e5 (fun v h n e => k_X9_gatherSets (d := d + 68) e) hb rfl wd867 wd79 wd866 wd20 wd864 (by decide +kernel) rfl (by decide) rfl rfl (Nat.le_of_ble_eq_true rfl) (Nat.le_of_ble_eq_true rfl) (Nat.le_of_ble_eq_true rfl) rfl rfl (fun _ => rfl) (fun _ h7 n8 e6 => ?_)
  clear e5
  refine Ok.aload_n dX9_greatestMean_19 rfl ?_
  refine Ok.iconstV (v := (nI 0)) dX9_greatestMean_20 (by decide +kernel) ?_
  refine X.rck e6 (fun c fs hb hc e7 => ?_)
  clear e6
  obtain rfl := List.mem_singleton.mp hc
  refine X.callV (My := mX9_fromDay) (n := 1) (As := [.int (nI 0)]) (T := (fun v => (some (.long v)))) (stk' := (fun v => [.long v])) (rest := []) (kc' := 0) (ks' := 0) dX9_greatestMean_21 e7 (fun v h n e => k_X9_fromDay 64 (d := d + 0) e) hb rfl wd825 wd79 wd824 wd15 wd822 (by decide +kernel) rfl (by decide) rfl rfl (Nat.le_of_ble_eq_true rfl) (Nat.le_of_ble_eq_true rfl) (Nat.le_of_ble_eq_true rfl) rfl rfl (fun _ => rfl) (fun r9 h10 n11 e8 => ?_)
  clear e7
  exact X.lret dX9_greatestMean_24 rfl (Nat.le_of_ble_eq_true rfl) (Nat.le_of_ble_eq_true rfl) e8
noncomputable def F_X9_spellRow_54 (G : Gx) (h : Hp) (nx : Nat) : Rz Unit :=
some ((), h, nx)
set_option maxRecDepth 100000 in
set_option maxHeartbeats 4000000 in
theorem k_X9_spellRow_54 {G : Gx} {d : Nat} {v' : Unit} {h' : Hp} {n' : Nat} {h : Hp} {nx : Nat} (e : F_X9_spellRow_54 G h nx = some (v', h', n')) : Ok G mX9_spellRow (d + 0) (Same none h' n') 54 [none, none, none, none] [] h nx 0 0 := by
  unfold F_X9_spellRow_54 at e
  exact X.vret dX9_spellRow_54 rfl (Nat.le_of_ble_eq_true rfl) (Nat.le_of_ble_eq_true rfl) e
noncomputable def F_X9_spellRow_9 (G : Gx) : Nat → Hp → Nat → Nat → Int32 → Int32 → Rz Unit := fun n => Nat.rec (motive := fun _ => Hp → Nat → Nat → Int32 → Int32 → Rz Unit) (fun _ _ _ _ _ => none) (fun _ k9 => fun h nx l0 l2 l3 =>
if l3 < 0 then
(F_X9_spellRow_54 G h nx)
else
gfR h l0 [9] 1 (fun v1 =>
nn v1 (fun p2 =>
gfI h p2 [0] 11 (fun v3 =>
if v3 ≤ 0 then
(F_X9_spellRow_54 G h nx)
else
gfR h l0 [9] 4 (fun v4 =>
gfR h l0 [9] 1 (fun v5 =>
nn v5 (fun p6 =>
gfI h p6 [0] 11 (fun v7 =>
dzI v7 (
nn v4 (fun p8 =>
asI (g_c G 0) id h p8 l3 ((l2 - l2 / v7 * v7)) (fun h9 =>
gfR h9 l0 [9] 1 (fun v10 =>
nn v10 (fun p11 =>
gfI h9 p11 [0] 11 (fun v12 =>
dzI v12 (
nm ((l2 / v12)) (fun v13 =>
nm (l3 + (-1 : Int32)) (fun v14 =>
(k9 h9 nx l0 v13 v14)))))))))))))))))) n
theorem F_X9_spellRow_9_0 {G : Gx} {h : Hp} {nx : Nat} {l0 : Nat} {l2 : Int32} {l3 : Int32} : F_X9_spellRow_9 G 0 h nx l0 l2 l3 = none := rfl
theorem F_X9_spellRow_9_s {G : Gx} {n : Nat} {h : Hp} {nx : Nat} {l0 : Nat} {l2 : Int32} {l3 : Int32} : F_X9_spellRow_9 G (n + 1) h nx l0 l2 l3 = (
if l3 < 0 then
(F_X9_spellRow_54 G h nx)
else
gfR h l0 [9] 1 (fun v1 =>
nn v1 (fun p2 =>
gfI h p2 [0] 11 (fun v3 =>
if v3 ≤ 0 then
(F_X9_spellRow_54 G h nx)
else
gfR h l0 [9] 4 (fun v4 =>
gfR h l0 [9] 1 (fun v5 =>
nn v5 (fun p6 =>
gfI h p6 [0] 11 (fun v7 =>
dzI v7 (
nn v4 (fun p8 =>
asI (g_c G 0) id h p8 l3 ((l2 - l2 / v7 * v7)) (fun h9 =>
gfR h9 l0 [9] 1 (fun v10 =>
nn v10 (fun p11 =>
gfI h9 p11 [0] 11 (fun v12 =>
dzI v12 (
nm ((l2 / v12)) (fun v13 =>
nm (l3 + (-1 : Int32)) (fun v14 =>
((F_X9_spellRow_9 G n) h9 nx l0 v13 v14)))))))))))))))))) := rfl
set_option maxRecDepth 100000 in
set_option maxHeartbeats 4000000 in
theorem k_X9_spellRow_9 {G : Gx} {d : Nat} {v' : Unit} {h' : Hp} {n' : Nat} : ∀ (n : Nat) {h : Hp} {nx : Nat} {l0 : Nat} {l2 : Int32} {l3 : Int32}, F_X9_spellRow_9 G n h nx l0 l2 l3 = some (v', h', n') → Ok G mX9_spellRow (d + 0) (Same none h' n') 9 [some (.ref l0), none, some (.int l2), some (.int l3)] [] h nx 0 0 := by
  intro n
  induction n with
  | zero =>
    intro h nx l0 l2 l3 e
    rw [F_X9_spellRow_9_0] at e
    cases e
  | succ n K9 =>
    intro h nx l0 l2 l3 e
    rw [F_X9_spellRow_9_s] at e
    refine Ok.iload_n dX9_spellRow_9 rfl ?_
    refine X.if_lt (tgt := 54) dX9_spellRow_10 (by decide) e (fun e1 => ?_) (fun e1 => ?_)
    · clear e
      exact Ok.weakL (k_X9_spellRow_54 (d := d) e1) trivial
    · clear e
      refine Ok.aload_n dX9_spellRow_13 rfl ?_
      refine X.rgfR fl_RX9_53 dX9_spellRow_14 e1 (fun v1 e2 => ?_)
      clear e1
      refine X.rnn e2 (fun p2 q e3 => ?_)
      clear e2
      subst q
      refine X.rgfI fl_RX9_83 dX9_spellRow_17 e3 (fun v3 e4 => ?_)
      clear e3
      refine X.if_le (tgt := 54) dX9_spellRow_20 (by decide) e4 (fun e5 => ?_) (fun e5 => ?_)
      · clear e4
        exact Ok.weakL (k_X9_spellRow_54 (d := d) e5) trivial
      · clear e4
        refine Ok.aload_n dX9_spellRow_23 rfl ?_
        refine X.rgfR fl_RX9_20 dX9_spellRow_24 e5 (fun v4 e6 => ?_)
        clear e5
        refine Ok.iload_n dX9_spellRow_27 rfl ?_
        refine Ok.iload_n dX9_spellRow_28 rfl ?_
        refine Ok.aload_n dX9_spellRow_29 rfl ?_
        refine X.rgfR fl_RX9_53 dX9_spellRow_30 e6 (fun v5 e7 => ?_)
        clear e6
        refine X.rnn e7 (fun p6 q e8 => ?_)
        clear e7
        subst q
        refine X.rgfI fl_RX9_83 dX9_spellRow_33 e8 (fun v7 e9 => ?_)
        clear e8
        refine X.rdzI e9 (fun z e10 => ?_)
        clear e9
        refine Ok.irem dX9_spellRow_36 z ?_
        refine X.rnn e10 (fun p8 q e11 => ?_)
        clear e10
        subst q
        refine X.iast dX9_spellRow_37 e11 (fun h9 e12 => ?_)
        clear e11
        refine Ok.iload_n dX9_spellRow_38 rfl ?_
        refine Ok.aload_n dX9_spellRow_39 rfl ?_
        refine X.rgfR fl_RX9_53 dX9_spellRow_40 e12 (fun v10 e13 => ?_)
        clear e12
        refine X.rnn e13 (fun p11 q e14 => ?_)
        clear e13
        subst q
        refine X.rgfI fl_RX9_83 dX9_spellRow_43 e14 (fun v12 e15 => ?_)
        clear e14
        refine X.rdzI e15 (fun z e16 => ?_)
        clear e15
        refine Ok.idiv dX9_spellRow_46 z ?_
        refine X.istore_n dX9_spellRow_47 (by decide) e16 (L := fun v13 => [some (.ref l0), none, some (.int v13), some (.int l3)]) (fun _ => rfl) (fun v13 e17 => ?_)
        clear e16
        refine X.iinc dX9_spellRow_48 rfl (by decide) (by decide +kernel) e17 (L := fun v14 => [some (.ref l0), none, some (.int v13), some (.int v14)]) (fun _ => rfl) (fun v14 e18 => ?_)
        clear e17
        refine Ok.goto (tgt := 9) dX9_spellRow_51 (by decide) ?_
        exact Ok.weakL (K9 e18) ⟨rfl, ⟨rfl, ⟨rfl, trivial⟩⟩⟩
noncomputable def F_X9_spellRow (G : Gx) (h : Hp) (nx : Nat) (a0 : Nat) (a1 : Int32) : Rz Unit :=
gfI h a0 [9] 5 (fun v1 =>
nm ((v1 - (nI 1))) (fun v2 =>
(F_X9_spellRow_9 G fuelL h nx a0 a1 v2)))
set_option maxRecDepth 100000 in
set_option maxHeartbeats 4000000 in
theorem k_X9_spellRow {G : Gx} {d : Nat} {h : Hp} {nx : Nat} {a0 : Nat} {a1 : Int32} {v' : Unit} {h' : Hp} {n' : Nat} (e : F_X9_spellRow G h nx a0 a1 = some (v', h', n')) : Ct G mX9_spellRow (d + 0) (Same none h' n') [.ref a0, .int a1] h nx := by
  unfold F_X9_spellRow at e
  refine Ct.of (ls := [some (.ref a0), some (.int a1), none, none]) (by decide +kernel) rfl (Nat.le_of_ble_eq_true rfl) rfl ?_
  refine Ok.iload_n dX9_spellRow_0 rfl ?_
  refine XL.istore_n dX9_spellRow_1 (by decide) (L := [some (.ref a0), some (.int a1), some (.int a1), none]) rfl ?_
  refine Ok.aload_n dX9_spellRow_2 rfl ?_
  refine X.rgfI fl_RX9_24 dX9_spellRow_3 e (fun v1 e1 => ?_)
  clear e
  refine Ok.iconstV (v := (nI 1)) dX9_spellRow_6 (by decide +kernel) ?_
  refine Ok.isub dX9_spellRow_7 ?_
  refine X.istore_n dX9_spellRow_8 (by decide) e1 (L := fun v2 => [some (.ref a0), some (.int a1), some (.int a1), some (.int v2)]) (fun _ => rfl) (fun v2 e2 => ?_)
  clear e1
  exact Ok.weakL (k_X9_spellRow_9 (d := d) fuelL e2) ⟨rfl, ⟨rfl, ⟨rfl, trivial⟩⟩⟩
noncomputable def F_X9_greatestRound_104 (G : Gx) (k58 : Hp → Nat → Nat → Int32 → Int64 → Int32 → Rz Int64) (h : Hp) (nx : Nat) (l0 : Nat) (l2 : Int32) (l3 : Int64) (l5 : Int32) : Rz Int64 :=
nm (l5 + (nI 1)) (fun v1 =>
(k58 h nx l0 l2 l3 v1))
set_option maxRecDepth 100000 in
set_option maxHeartbeats 4000000 in
theorem k_X9_greatestRound_104 {G : Gx} {d : Nat} {v' : Int64} {h' : Hp} {n' : Nat} {k58 : Hp → Nat → Nat → Int32 → Int64 → Int32 → Rz Int64} (K58 : ∀ {h : Hp} {nx : Nat} {l0 : Nat} {l2 : Int32} {l3 : Int64} {l5 : Int32}, k58 h nx l0 l2 l3 l5 = some (v', h', n') → Ok G mX9_greatestRound (d + 70) (Same (some (.long v')) h' n') 58 [some (.ref l0), none, some (.int l2), some (.long l3), none, some (.int l5), none, none] [] h nx 0 0) {h : Hp} {nx : Nat} {l0 : Nat} {l2 : Int32} {l3 : Int64} {l5 : Int32} (e : F_X9_greatestRound_104 G k58 h nx l0 l2 l3 l5 = some (v', h', n')) : Ok G mX9_greatestRound (d + 70) (Same (some (.long v')) h' n') 104 [some (.ref l0), none, some (.int l2), some (.long l3), none, some (.int l5), none, none] [] h nx 0 0 := by
  unfold F_X9_greatestRound_104 at e
  refine X.iinc dX9_greatestRound_104 rfl (by decide) (by decide +kernel) e (L := fun v1 => [some (.ref l0), none, some (.int l2), some (.long l3), none, some (.int v1), none, none]) (fun _ => rfl) (fun v1 e1 => ?_)
  clear e
  refine Ok.goto (tgt := 58) dX9_greatestRound_107 (by decide) ?_
  exact Ok.weakL (K58 e1) ⟨rfl, ⟨rfl, ⟨rfl, ⟨rfl, trivial⟩⟩⟩⟩
noncomputable def F_X9_greatestRound_58 (G : Gx) : Nat → Hp → Nat → Nat → Int32 → Int64 → Int32 → Rz Int64 := fun n => Nat.rec (motive := fun _ => Hp → Nat → Nat → Int32 → Int64 → Int32 → Rz Int64) (fun _ _ _ _ _ _ => none) (fun _ k58 => fun h nx l0 l2 l3 l5 =>
if l2 ≤ l5 then
some (l3, h, nx)
else
ck h l0 [9] (fun _ =>
cl (F_X9_spellRow G h nx l0 l5) (fun _ h2 n3 =>
ck h2 l0 [9] (fun _ =>
cl (F_X9_fromDay G 64 h2 n3 l0 (nI 0)) (fun r4 h5 n6 =>
if ((lg_cmp r4 l3)) ≤ 0 then
(F_X9_greatestRound_104 G k58 h5 n6 l0 l2 l3 l5)
else
gfR h5 l0 [9] 4 (fun v7 =>
gfR h5 l0 [9] 10 (fun v8 =>
gfI h5 l0 [9] 5 (fun v9 =>
nn v7 (fun p10 =>
nn v8 (fun p11 =>
acI (g_c G 0) .int h5 p10 (nI 0) p11 (nI 0) v9 (fun h12 =>
(F_X9_greatestRound_104 G k58 h12 n6 l0 l2 r4 l5)))))))))))) n
theorem F_X9_greatestRound_58_0 {G : Gx} {h : Hp} {nx : Nat} {l0 : Nat} {l2 : Int32} {l3 : Int64} {l5 : Int32} : F_X9_greatestRound_58 G 0 h nx l0 l2 l3 l5 = none := rfl
theorem F_X9_greatestRound_58_s {G : Gx} {n : Nat} {h : Hp} {nx : Nat} {l0 : Nat} {l2 : Int32} {l3 : Int64} {l5 : Int32} : F_X9_greatestRound_58 G (n + 1) h nx l0 l2 l3 l5 = (
if l2 ≤ l5 then
some (l3, h, nx)
else
ck h l0 [9] (fun _ =>
cl (F_X9_spellRow G h nx l0 l5) (fun _ h2 n3 =>
ck h2 l0 [9] (fun _ =>
cl (F_X9_fromDay G 64 h2 n3 l0 (nI 0)) (fun r4 h5 n6 =>
if ((lg_cmp r4 l3)) ≤ 0 then
(F_X9_greatestRound_104 G (F_X9_greatestRound_58 G n) h5 n6 l0 l2 l3 l5)
else
gfR h5 l0 [9] 4 (fun v7 =>
gfR h5 l0 [9] 10 (fun v8 =>
gfI h5 l0 [9] 5 (fun v9 =>
nn v7 (fun p10 =>
nn v8 (fun p11 =>
acI (g_c G 0) .int h5 p10 (nI 0) p11 (nI 0) v9 (fun h12 =>
(F_X9_greatestRound_104 G (F_X9_greatestRound_58 G n) h12 n6 l0 l2 r4 l5)))))))))))) := rfl
set_option maxRecDepth 100000 in
set_option maxHeartbeats 4000000 in
theorem k_X9_greatestRound_58 {G : Gx} {d : Nat} {v' : Int64} {h' : Hp} {n' : Nat} : ∀ (n : Nat) {h : Hp} {nx : Nat} {l0 : Nat} {l2 : Int32} {l3 : Int64} {l5 : Int32}, F_X9_greatestRound_58 G n h nx l0 l2 l3 l5 = some (v', h', n') → Ok G mX9_greatestRound (d + 70) (Same (some (.long v')) h' n') 58 [some (.ref l0), none, some (.int l2), some (.long l3), none, some (.int l5), none, none] [] h nx 0 0 := by
  intro n
  induction n with
  | zero =>
    intro h nx l0 l2 l3 l5 e
    rw [F_X9_greatestRound_58_0] at e
    cases e
  | succ n K58 =>
    intro h nx l0 l2 l3 l5 e
    rw [F_X9_greatestRound_58_s] at e
    refine Ok.iload dX9_greatestRound_58 rfl ?_
    refine Ok.iload_n dX9_greatestRound_60 rfl ?_
    refine X.icmp_ge (tgt := 110) dX9_greatestRound_61 (by decide) e (fun e1 => ?_) (fun e1 => ?_)
    · clear e
      refine Ok.lload_n dX9_greatestRound_110 rfl ?_
      exact X.lret dX9_greatestRound_111 rfl (Nat.le_of_ble_eq_true rfl) (Nat.le_of_ble_eq_true rfl) e1
    · clear e
      refine Ok.aload_n dX9_greatestRound_64 rfl ?_
      refine Ok.iload dX9_greatestRound_65 rfl ?_
      refine X.rck e1 (fun c fs hb hc e2 => ?_)
      clear e1
      obtain rfl := List.mem_singleton.mp hc
      refine X.callV (My := mX9_spellRow) (n := 1) (As := [.int l5]) (T := (fun v => none)) (stk' := (fun _ => [])) (rest := []) (kc' := 0) (ks' := 0) dX9_greatestRound_67 e2 (fun v h n e => k_X9_spellRow (d := d + 69) e) hb rfl wd938 wd79 wd937 wd23 wd935 (by decide +kernel) rfl (by decide) rfl rfl (Nat.le_of_ble_eq_true rfl) (Nat.le_of_ble_eq_true rfl) (Nat.le_of_ble_eq_true rfl) rfl rfl (fun _ => rfl) (fun _ h2 n3 e3 => ?_)
      clear e2
      refine Ok.aload_n dX9_greatestRound_70 rfl ?_
      refine Ok.iconstV (v := (nI 0)) dX9_greatestRound_71 (by decide +kernel) ?_
      refine X.rck e3 (fun c fs hb hc e4 => ?_)
      clear e3
      obtain rfl := List.mem_singleton.mp hc
      refine X.callV (My := mX9_fromDay) (n := 1) (As := [.int (nI 0)]) (T := (fun v => (some (.long v)))) (stk' := (fun v => [.long v])) (rest := []) (kc' := 0) (ks' := 0) dX9_greatestRound_72 e4 (fun v h n e => k_X9_fromDay 64 (d := d + 0) e) hb rfl wd825 wd79 wd824 wd15 wd822 (by decide +kernel) rfl (by decide) rfl rfl (Nat.le_of_ble_eq_true rfl) (Nat.le_of_ble_eq_true rfl) (Nat.le_of_ble_eq_true rfl) rfl rfl (fun _ => rfl) (fun r4 h5 n6 e5 => ?_)
      clear e4
      refine XL.lstore dX9_greatestRound_75 (by decide) (L := [some (.ref l0), none, some (.int l2), some (.long l3), none, some (.int l5), some (.long r4), none]) rfl ?_
      refine Ok.lload dX9_greatestRound_77 rfl ?_
      refine Ok.lload_n dX9_greatestRound_79 rfl ?_
      refine Ok.lcmp dX9_greatestRound_80 ?_
      refine X.if_le (tgt := 104) dX9_greatestRound_81 (by decide) e5 (fun e6 => ?_) (fun e6 => ?_)
      · clear e5
        exact Ok.weakL (k_X9_greatestRound_104 (d := d) K58 e6) ⟨rfl, ⟨rfl, ⟨rfl, ⟨rfl, trivial⟩⟩⟩⟩
      · clear e5
        refine Ok.lload dX9_greatestRound_84 rfl ?_
        refine XL.lstore_n dX9_greatestRound_86 (by decide) (L := [some (.ref l0), none, some (.int l2), some (.long r4), none, some (.int l5), some (.long r4), none]) rfl ?_
        refine Ok.aload_n dX9_greatestRound_87 rfl ?_
        refine X.rgfR fl_RX9_20 dX9_greatestRound_88 e6 (fun v7 e7 => ?_)
        clear e6
        refine Ok.iconstV (v := (nI 0)) dX9_greatestRound_91 (by decide +kernel) ?_
        refine Ok.aload_n dX9_greatestRound_92 rfl ?_
        refine X.rgfR fl_RX9_40 dX9_greatestRound_93 e7 (fun v8 e8 => ?_)
        clear e7
        refine Ok.iconstV (v := (nI 0)) dX9_greatestRound_96 (by decide +kernel) ?_
        refine Ok.aload_n dX9_greatestRound_97 rfl ?_
        refine X.rgfI fl_RX9_24 dX9_greatestRound_98 e8 (fun v9 e9 => ?_)
        clear e8
        refine X.rnn e9 (fun p10 q e10 => ?_)
        clear e9
        subst q
        refine X.rnn e10 (fun p11 q e11 => ?_)
        clear e10
        subst q
        refine X.racI dX9_greatestRound_101 wd939 wa_st wa_na wd84 (Nat.le_of_ble_eq_true rfl) e11 (fun h12 e12 => ?_)
        clear e11
        exact Ok.weakL (k_X9_greatestRound_104 (d := d) K58 e12) ⟨rfl, ⟨rfl, ⟨rfl, ⟨rfl, trivial⟩⟩⟩⟩
noncomputable def F_X9_greatestRound_27 (G : Gx) : Nat → Hp → Nat → Nat → Int32 → Int32 → Rz Int64 := fun n => Nat.rec (motive := fun _ => Hp → Nat → Nat → Int32 → Int32 → Rz Int64) (fun _ _ _ _ _ => none) (fun _ k27 => fun h nx l0 l2 l3 =>
gfI h l0 [9] 5 (fun v1 =>
if v1 ≤ l3 then
(F_X9_greatestRound_58 G fuelL h nx l0 l2 (-9223372036854775808 : Int64) (nI 0))
else
gfR h l0 [9] 1 (fun v2 =>
nn v2 (fun p3 =>
gfI h p3 [0] 11 (fun v4 =>
nm ((l2 * v4)) (fun v5 =>
nm (l3 + (nI 1)) (fun v6 =>
(k27 h nx l0 v5 v6)))))))) n
theorem F_X9_greatestRound_27_0 {G : Gx} {h : Hp} {nx : Nat} {l0 : Nat} {l2 : Int32} {l3 : Int32} : F_X9_greatestRound_27 G 0 h nx l0 l2 l3 = none := rfl
theorem F_X9_greatestRound_27_s {G : Gx} {n : Nat} {h : Hp} {nx : Nat} {l0 : Nat} {l2 : Int32} {l3 : Int32} : F_X9_greatestRound_27 G (n + 1) h nx l0 l2 l3 = (
gfI h l0 [9] 5 (fun v1 =>
if v1 ≤ l3 then
(F_X9_greatestRound_58 G fuelL h nx l0 l2 (-9223372036854775808 : Int64) (nI 0))
else
gfR h l0 [9] 1 (fun v2 =>
nn v2 (fun p3 =>
gfI h p3 [0] 11 (fun v4 =>
nm ((l2 * v4)) (fun v5 =>
nm (l3 + (nI 1)) (fun v6 =>
((F_X9_greatestRound_27 G n) h nx l0 v5 v6)))))))) := rfl
set_option maxRecDepth 100000 in
set_option maxHeartbeats 4000000 in
theorem k_X9_greatestRound_27 {G : Gx} {d : Nat} {v' : Int64} {h' : Hp} {n' : Nat} : ∀ (n : Nat) {h : Hp} {nx : Nat} {l0 : Nat} {l2 : Int32} {l3 : Int32}, F_X9_greatestRound_27 G n h nx l0 l2 l3 = some (v', h', n') → Ok G mX9_greatestRound (d + 70) (Same (some (.long v')) h' n') 27 [some (.ref l0), none, some (.int l2), some (.int l3), none, none, none, none] [] h nx 0 0 := by
  intro n
  induction n with
  | zero =>
    intro h nx l0 l2 l3 e
    rw [F_X9_greatestRound_27_0] at e
    cases e
  | succ n K27 =>
    intro h nx l0 l2 l3 e
    rw [F_X9_greatestRound_27_s] at e
    refine Ok.iload_n dX9_greatestRound_27 rfl ?_
    refine Ok.aload_n dX9_greatestRound_28 rfl ?_
    refine X.rgfI fl_RX9_24 dX9_greatestRound_29 e (fun v1 e1 => ?_)
    clear e
    refine X.icmp_ge (tgt := 51) dX9_greatestRound_32 (by decide) e1 (fun e2 => ?_) (fun e2 => ?_)
    · clear e1
      refine Ok.ldc2_w (v := -9223372036854775808) dX9_greatestRound_51 wd855 ?_
      refine XL.lstore_n dX9_greatestRound_54 (by decide) (L := [some (.ref l0), none, some (.int l2), some (.long (-9223372036854775808 : Int64)), none, none, none, none]) rfl ?_
      refine Ok.iconstV (v := (nI 0)) dX9_greatestRound_55 (by decide +kernel) ?_
      refine XL.istore dX9_greatestRound_56 (by decide) (L := [some (.ref l0), none, some (.int l2), some (.long (-9223372036854775808 : Int64)), none, some (.int (nI 0)), none, none]) rfl ?_
      exact Ok.weakL (k_X9_greatestRound_58 (d := d) fuelL e2) ⟨rfl, ⟨rfl, ⟨rfl, ⟨rfl, trivial⟩⟩⟩⟩
    · clear e1
      refine Ok.iload_n dX9_greatestRound_35 rfl ?_
      refine Ok.aload_n dX9_greatestRound_36 rfl ?_
      refine X.rgfR fl_RX9_53 dX9_greatestRound_37 e2 (fun v2 e3 => ?_)
      clear e2
      refine X.rnn e3 (fun p3 q e4 => ?_)
      clear e3
      subst q
      refine X.rgfI fl_RX9_83 dX9_greatestRound_40 e4 (fun v4 e5 => ?_)
      clear e4
      refine Ok.imul dX9_greatestRound_43 ?_
      refine X.istore_n dX9_greatestRound_44 (by decide) e5 (L := fun v5 => [some (.ref l0), none, some (.int v5), some (.int l3), none, none, none, none]) (fun _ => rfl) (fun v5 e6 => ?_)
      clear e5
      refine X.iinc dX9_greatestRound_45 rfl (by decide) (by decide +kernel) e6 (L := fun v6 => [some (.ref l0), none, some (.int v5), some (.int v6), none, none, none, none]) (fun _ => rfl) (fun v6 e7 => ?_)
      clear e6
      refine Ok.goto (tgt := 27) dX9_greatestRound_48 (by decide) ?_
      exact Ok.weakL (K27 e7) ⟨rfl, ⟨rfl, ⟨rfl, trivial⟩⟩⟩
noncomputable def F_X9_greatestRound (G : Gx) (h : Hp) (nx : Nat) (a0 : Nat) (a1 : Int32) : Rz Int64 :=
pfV h a0 [9] 3 (va_rf none) (fun h1 =>
pfV h1 a0 [9] 5 (.int (mxI (nI 1) (mnI a1 (nI 3)))) (fun h2 =>
ck h2 a0 [9] (fun _ =>
cl (F_X9_begin G h2 nx a0 (nI 3)) (fun _ h4 n5 =>
(F_X9_greatestRound_27 G fuelL h4 n5 a0 (nI 1) (nI 0))))))
set_option maxRecDepth 100000 in
set_option maxHeartbeats 4000000 in
theorem k_X9_greatestRound {G : Gx} {d : Nat} {h : Hp} {nx : Nat} {a0 : Nat} {a1 : Int32} {v' : Int64} {h' : Hp} {n' : Nat} (e : F_X9_greatestRound G h nx a0 a1 = some (v', h', n')) : Ct G mX9_greatestRound (d + 70) (Same (some (.long v')) h' n') [.ref a0, .int a1] h nx := by
  unfold F_X9_greatestRound at e
  refine Ct.of (ls := [some (.ref a0), some (.int a1), none, none, none, none, none, none]) (by decide +kernel) rfl (Nat.le_of_ble_eq_true rfl) rfl ?_
  refine Ok.aload_n dX9_greatestRound_0 rfl ?_
  refine XL.aconst_null dX9_greatestRound_1 ?_
  refine X.rpfV (v := (va_rf none)) fp_RX9_16 (nar_q (Or.inl ⟨_, rfl⟩) none) (fits_q (Or.inl ⟨_, rfl⟩) none) dX9_greatestRound_2 e (fun h1 e1 => ?_)
  clear e
  refine Ok.aload_n dX9_greatestRound_5 rfl ?_
  refine Ok.iconstV (v := (nI 1)) dX9_greatestRound_6 (by decide +kernel) ?_
  refine Ok.iload_n dX9_greatestRound_7 rfl ?_
  refine Ok.iconstV (v := (nI 3)) dX9_greatestRound_8 (by decide +kernel) ?_
  refine Ok.mminI dX9_greatestRound_9 wd821 wd343 wd83 wd344 (Nat.le_of_ble_eq_true rfl) (Nat.le_of_ble_eq_true rfl) (Nat.le_of_ble_eq_true rfl) ?_
  refine Ok.mmaxI dX9_greatestRound_12 wd934 wd455 wd83 wd456 (Nat.le_of_ble_eq_true rfl) (Nat.le_of_ble_eq_true rfl) (Nat.le_of_ble_eq_true rfl) ?_
  refine X.rpfV (v := (.int (mxI (nI 1) (mnI a1 (nI 3))))) fp_RX9_24 rfl rfl dX9_greatestRound_15 e1 (fun h2 e2 => ?_)
  clear e1
  refine Ok.aload_n dX9_greatestRound_18 rfl ?_
  refine Ok.iconstV (v := (nI 3)) dX9_greatestRound_19 (by decide +kernel) ?_
  refine X.rck e2 (fun c fs hb hc e3 => ?_)
  clear e2
  obtain rfl := List.mem_singleton.mp hc
  refine X.callV (My := mX9_begin) (n := 1) (As := [.int (nI 3)]) (T := (fun v => none)) (stk' := (fun _ => [])) (rest := []) (kc' := 0) (ks' := 0) dX9_greatestRound_20 e3 (fun v h n e => k_X9_begin (d := d + 68) e) hb rfl wd819 wd79 wd818 wd14 wd816 (by decide +kernel) rfl (by decide) rfl rfl (Nat.le_of_ble_eq_true rfl) (Nat.le_of_ble_eq_true rfl) (Nat.le_of_ble_eq_true rfl) rfl rfl (fun _ => rfl) (fun _ h4 n5 e4 => ?_)
  clear e3
  refine Ok.iconstV (v := (nI 1)) dX9_greatestRound_23 (by decide +kernel) ?_
  refine XL.istore_n dX9_greatestRound_24 (by decide) (L := [some (.ref a0), some (.int a1), some (.int (nI 1)), none, none, none, none, none]) rfl ?_
  refine Ok.iconstV (v := (nI 0)) dX9_greatestRound_25 (by decide +kernel) ?_
  refine XL.istore_n dX9_greatestRound_26 (by decide) (L := [some (.ref a0), some (.int a1), some (.int (nI 1)), some (.int (nI 0)), none, none, none, none]) rfl ?_
  exact Ok.weakL (k_X9_greatestRound_27 (d := d) fuelL e4) ⟨rfl, ⟨rfl, ⟨rfl, trivial⟩⟩⟩
noncomputable def F_X9_showLikely_78 (G : Gx) (k2 : Hp → Nat → Nat → Int32 → Int32 → Int32 → Rz Unit) (h : Hp) (nx : Nat) (l0 : Nat) (l1 : Int32) (l2 : Int32) (l3 : Int32) : Rz Unit :=
nm (l3 + (nI 1)) (fun v1 =>
(k2 h nx l0 l1 l2 v1))
set_option maxRecDepth 100000 in
set_option maxHeartbeats 4000000 in
theorem k_X9_showLikely_78 {G : Gx} {d : Nat} {v' : Unit} {h' : Hp} {n' : Nat} {k2 : Hp → Nat → Nat → Int32 → Int32 → Int32 → Rz Unit} (K2 : ∀ {h : Hp} {nx : Nat} {l0 : Nat} {l1 : Int32} {l2 : Int32} {l3 : Int32}, k2 h nx l0 l1 l2 l3 = some (v', h', n') → Ok G mX9_showLikely (d + 2) (Same none h' n') 2 [some (.ref l0), some (.int l1), some (.int l2), some (.int l3), none] [] h nx 0 0) {h : Hp} {nx : Nat} {l0 : Nat} {l1 : Int32} {l2 : Int32} {l3 : Int32} (e : F_X9_showLikely_78 G k2 h nx l0 l1 l2 l3 = some (v', h', n')) : Ok G mX9_showLikely (d + 2) (Same none h' n') 78 [some (.ref l0), some (.int l1), some (.int l2), some (.int l3), none] [] h nx 0 0 := by
  unfold F_X9_showLikely_78 at e
  refine X.iinc dX9_showLikely_78 rfl (by decide) (by decide +kernel) e (L := fun v1 => [some (.ref l0), some (.int l1), some (.int l2), some (.int v1), none]) (fun _ => rfl) (fun v1 e1 => ?_)
  clear e
  refine Ok.goto (tgt := 2) dX9_showLikely_81 (by decide) ?_
  exact Ok.weakL (K2 e1) ⟨rfl, ⟨rfl, ⟨rfl, ⟨rfl, trivial⟩⟩⟩⟩
noncomputable def F_X9_showLikely_77 (G : Gx) (k2 : Hp → Nat → Nat → Int32 → Int32 → Int32 → Rz Unit) (h : Hp) (nx : Nat) (s0 : Option Nat) (s1 : Int32) (s2 : Int32) (l0 : Nat) (l1 : Int32) (l2 : Int32) (l3 : Int32) : Rz Unit :=
nn s0 (fun p1 =>
asI (g_c G 0) id h p1 s1 s2 (fun h2 =>
(F_X9_showLikely_78 G k2 h2 nx l0 l1 l2 l3)))
set_option maxRecDepth 100000 in
set_option maxHeartbeats 4000000 in
theorem k_X9_showLikely_77 {G : Gx} {d : Nat} {v' : Unit} {h' : Hp} {n' : Nat} {k2 : Hp → Nat → Nat → Int32 → Int32 → Int32 → Rz Unit} (K2 : ∀ {h : Hp} {nx : Nat} {l0 : Nat} {l1 : Int32} {l2 : Int32} {l3 : Int32}, k2 h nx l0 l1 l2 l3 = some (v', h', n') → Ok G mX9_showLikely (d + 2) (Same none h' n') 2 [some (.ref l0), some (.int l1), some (.int l2), some (.int l3), none] [] h nx 0 0) {h : Hp} {nx : Nat} {s0 : Option Nat} {s1 : Int32} {s2 : Int32} {l0 : Nat} {l1 : Int32} {l2 : Int32} {l3 : Int32} (e : F_X9_showLikely_77 G k2 h nx s0 s1 s2 l0 l1 l2 l3 = some (v', h', n')) : Ok G mX9_showLikely (d + 2) (Same none h' n') 77 [some (.ref l0), some (.int l1), some (.int l2), some (.int l3), none] [.int s2, .int s1, va_rf s0] h nx 0 0 := by
  unfold F_X9_showLikely_77 at e
  refine X.rnn e (fun p1 q e1 => ?_)
  clear e
  subst q
  refine X.iast dX9_showLikely_77 e1 (fun h2 e2 => ?_)
  clear e1
  exact Ok.weakL (k_X9_showLikely_78 (d := d) K2 e2) ⟨rfl, ⟨rfl, ⟨rfl, ⟨rfl, trivial⟩⟩⟩⟩
noncomputable def F_X9_showLikely_50 (G : Gx) (k2 : Hp → Nat → Nat → Int32 → Int32 → Int32 → Rz Unit) (h : Hp) (nx : Nat) (s0 : Int32) (l0 : Nat) (l1 : Int32) (l2 : Int32) (l3 : Int32) : Rz Unit :=
gfR h l0 [9] 2 (fun v1 =>
nn v1 (fun p2 =>
alR (g_c G 6) h p2 l1 (fun v3 =>
if s0 = 0 then
gfR h l0 [9] 0 (fun v4 =>
nn v4 (fun p5 =>
ck h p5 [5] (fun _ =>
cl (F_X5_spotSeenIll G h nx p5 l3) (fun r6 h7 n8 =>
(F_X9_showLikely_77 G k2 h7 n8 v3 l3 r6 l0 l1 l2 l3)))))
else
(F_X9_showLikely_77 G k2 h nx v3 l3 (nI 11) l0 l1 l2 l3))))
set_option maxRecDepth 100000 in
set_option maxHeartbeats 4000000 in
theorem k_X9_showLikely_50 {G : Gx} {d : Nat} {v' : Unit} {h' : Hp} {n' : Nat} {k2 : Hp → Nat → Nat → Int32 → Int32 → Int32 → Rz Unit} (K2 : ∀ {h : Hp} {nx : Nat} {l0 : Nat} {l1 : Int32} {l2 : Int32} {l3 : Int32}, k2 h nx l0 l1 l2 l3 = some (v', h', n') → Ok G mX9_showLikely (d + 2) (Same none h' n') 2 [some (.ref l0), some (.int l1), some (.int l2), some (.int l3), none] [] h nx 0 0) {h : Hp} {nx : Nat} {s0 : Int32} {l0 : Nat} {l1 : Int32} {l2 : Int32} {l3 : Int32} (e : F_X9_showLikely_50 G k2 h nx s0 l0 l1 l2 l3 = some (v', h', n')) : Ok G mX9_showLikely (d + 2) (Same none h' n') 50 [some (.ref l0), some (.int l1), some (.int l2), some (.int l3), none] [.int s0] h nx 0 0 := by
  unfold F_X9_showLikely_50 at e
  refine XL.istore dX9_showLikely_50 (by decide) (L := [some (.ref l0), some (.int l1), some (.int l2), some (.int l3), some (.int s0)]) rfl ?_
  refine Ok.aload_n dX9_showLikely_52 rfl ?_
  refine X.rgfR fl_RX9_11 dX9_showLikely_53 e (fun v1 e1 => ?_)
  clear e
  refine Ok.iload_n dX9_showLikely_56 rfl ?_
  refine X.rnn e1 (fun p2 q e2 => ?_)
  clear e1
  subst q
  refine X.gald dX9_showLikely_57 e2 (fun v3 e3 => ?_)
  clear e2
  refine Ok.iload_n dX9_showLikely_58 rfl ?_
  refine Ok.iload dX9_showLikely_59 rfl ?_
  refine X.if_eq (tgt := 69) dX9_showLikely_61 (by decide) e3 (fun e4 => ?_) (fun e4 => ?_)
  · clear e3
    refine Ok.aload_n dX9_showLikely_69 rfl ?_
    refine X.rgfR fl_RX9_43 dX9_showLikely_70 e4 (fun v4 e5 => ?_)
    clear e4
    refine Ok.iload_n dX9_showLikely_73 rfl ?_
    refine X.rnn e5 (fun p5 q e6 => ?_)
    clear e5
    subst q
    refine X.rck e6 (fun c fs hb hc e7 => ?_)
    clear e6
    obtain rfl := List.mem_singleton.mp hc
    refine X.callV (My := mX5_spotSeenIll) (n := 1) (As := [.int l3]) (T := (fun v => (some (.int v)))) (stk' := (fun v => [.int v, .int l3, va_rf v3])) (rest := [.int l3, va_rf v3]) (kc' := 0) (ks' := 0) dX9_showLikely_74 e7 (fun v h n e => k_X5_spotSeenIll (d := d + 0) e) hb rfl wd847 wd78 wd845 wd846 wd844 (by decide +kernel) rfl (by decide) rfl rfl (cs_le (cs_c (a := 1) rfl (cs_c (a := 1) (va_rf_cat _) cs_n)) (by decide)) (Nat.le_of_ble_eq_true rfl) (Nat.le_of_ble_eq_true rfl) rfl rfl (fun _ => rfl) (fun r6 h7 n8 e8 => ?_)
    clear e7
    exact Ok.weakL (k_X9_showLikely_77 (d := d) K2 e8) ⟨rfl, ⟨rfl, ⟨rfl, ⟨rfl, trivial⟩⟩⟩⟩
  · clear e3
    refine Ok.bipushV (v := (nI 11)) dX9_showLikely_64 (by decide +kernel) ?_
    refine Ok.goto (tgt := 77) dX9_showLikely_66 (by decide) ?_
    exact Ok.weakL (k_X9_showLikely_77 (d := d) K2 e4) ⟨rfl, ⟨rfl, ⟨rfl, ⟨rfl, trivial⟩⟩⟩⟩
noncomputable def F_X9_showLikely_2 (G : Gx) : Nat → Hp → Nat → Nat → Int32 → Int32 → Int32 → Rz Unit := fun n => Nat.rec (motive := fun _ => Hp → Nat → Nat → Int32 → Int32 → Int32 → Rz Unit) (fun _ _ _ _ _ _ => none) (fun _ k2 => fun h nx l0 l1 l2 l3 =>
gfR h l0 [9] 1 (fun v1 =>
nn v1 (fun p2 =>
gfI h p2 [0] 11 (fun v3 =>
if v3 ≤ l3 then
some ((), h, nx)
else
if ((((l2 >>> (l3 &&& 31))) &&& (nI 1))) = (nI 1) then
gfR h l0 [9] 0 (fun v4 =>
nn v4 (fun p5 =>
gfR h p5 [5] 1 (fun v6 =>
nn v6 (fun p7 =>
alR (g_c G 6) h p7 l3 (fun v8 =>
gfR h l0 [9] 2 (fun v9 =>
nn v9 (fun p10 =>
alR (g_c G 6) h p10 l1 (fun v11 =>
nn v11 (fun p12 =>
alI (g_c G 0) h p12 l3 (fun v13 =>
nn v8 (fun p14 =>
alI (g_c G 0) h p14 v13 (fun v15 =>
if v15 < (nI 500000) then
(F_X9_showLikely_50 G k2 h nx (nI 0) l0 l1 l2 l3)
else
(F_X9_showLikely_50 G k2 h nx (nI 1) l0 l1 l2 l3)))))))))))))
else
(F_X9_showLikely_78 G k2 h nx l0 l1 l2 l3))))) n
theorem F_X9_showLikely_2_0 {G : Gx} {h : Hp} {nx : Nat} {l0 : Nat} {l1 : Int32} {l2 : Int32} {l3 : Int32} : F_X9_showLikely_2 G 0 h nx l0 l1 l2 l3 = none := rfl
theorem F_X9_showLikely_2_s {G : Gx} {n : Nat} {h : Hp} {nx : Nat} {l0 : Nat} {l1 : Int32} {l2 : Int32} {l3 : Int32} : F_X9_showLikely_2 G (n + 1) h nx l0 l1 l2 l3 = (
gfR h l0 [9] 1 (fun v1 =>
nn v1 (fun p2 =>
gfI h p2 [0] 11 (fun v3 =>
if v3 ≤ l3 then
some ((), h, nx)
else
if ((((l2 >>> (l3 &&& 31))) &&& (nI 1))) = (nI 1) then
gfR h l0 [9] 0 (fun v4 =>
nn v4 (fun p5 =>
gfR h p5 [5] 1 (fun v6 =>
nn v6 (fun p7 =>
alR (g_c G 6) h p7 l3 (fun v8 =>
gfR h l0 [9] 2 (fun v9 =>
nn v9 (fun p10 =>
alR (g_c G 6) h p10 l1 (fun v11 =>
nn v11 (fun p12 =>
alI (g_c G 0) h p12 l3 (fun v13 =>
nn v8 (fun p14 =>
alI (g_c G 0) h p14 v13 (fun v15 =>
if v15 < (nI 500000) then
(F_X9_showLikely_50 G (F_X9_showLikely_2 G n) h nx (nI 0) l0 l1 l2 l3)
else
(F_X9_showLikely_50 G (F_X9_showLikely_2 G n) h nx (nI 1) l0 l1 l2 l3)))))))))))))
else
(F_X9_showLikely_78 G (F_X9_showLikely_2 G n) h nx l0 l1 l2 l3))))) := rfl
set_option maxRecDepth 100000 in
set_option maxHeartbeats 4000000 in
theorem k_X9_showLikely_2 {G : Gx} {d : Nat} {v' : Unit} {h' : Hp} {n' : Nat} : ∀ (n : Nat) {h : Hp} {nx : Nat} {l0 : Nat} {l1 : Int32} {l2 : Int32} {l3 : Int32}, F_X9_showLikely_2 G n h nx l0 l1 l2 l3 = some (v', h', n') → Ok G mX9_showLikely (d + 2) (Same none h' n') 2 [some (.ref l0), some (.int l1), some (.int l2), some (.int l3), none] [] h nx 0 0 := by
  intro n
  induction n with
  | zero =>
    intro h nx l0 l1 l2 l3 e
    rw [F_X9_showLikely_2_0] at e
    cases e
  | succ n K2 =>
    intro h nx l0 l1 l2 l3 e
    rw [F_X9_showLikely_2_s] at e
    refine Ok.iload_n dX9_showLikely_2 rfl ?_
    refine Ok.aload_n dX9_showLikely_3 rfl ?_
    refine X.rgfR fl_RX9_53 dX9_showLikely_4 e (fun v1 e1 => ?_)
    clear e
    refine X.rnn e1 (fun p2 q e2 => ?_)
    clear e1
    subst q
    refine X.rgfI fl_RX9_83 dX9_showLikely_7 e2 (fun v3 e3 => ?_)
    clear e2
    refine X.icmp_ge (tgt := 84) dX9_showLikely_10 (by decide) e3 (fun e4 => ?_) (fun e4 => ?_)
    · clear e3
      exact X.vret dX9_showLikely_84 rfl (Nat.le_of_ble_eq_true rfl) (Nat.le_of_ble_eq_true rfl) e4
    · clear e3
      refine Ok.iload_n dX9_showLikely_13 rfl ?_
      refine Ok.iload_n dX9_showLikely_14 rfl ?_
      refine Ok.ishr dX9_showLikely_15 ?_
      refine Ok.iconstV (v := (nI 1)) dX9_showLikely_16 (by decide +kernel) ?_
      refine Ok.iand dX9_showLikely_17 ?_
      refine Ok.iconstV (v := (nI 1)) dX9_showLikely_18 (by decide +kernel) ?_
      refine X.icmp_ne (tgt := 78) dX9_showLikely_19 (by decide) e4 (fun e5 => ?_) (fun e5 => ?_)
      · clear e4
        exact Ok.weakL (k_X9_showLikely_78 (d := d) K2 e5) ⟨rfl, ⟨rfl, ⟨rfl, ⟨rfl, trivial⟩⟩⟩⟩
      · clear e4
        refine Ok.aload_n dX9_showLikely_22 rfl ?_
        refine X.rgfR fl_RX9_43 dX9_showLikely_23 e5 (fun v4 e6 => ?_)
        clear e5
        refine X.rnn e6 (fun p5 q e7 => ?_)
        clear e6
        subst q
        refine X.rgfR fl_RX9_135 dX9_showLikely_26 e7 (fun v6 e8 => ?_)
        clear e7
        refine Ok.iload_n dX9_showLikely_29 rfl ?_
        refine X.rnn e8 (fun p7 q e9 => ?_)
        clear e8
        subst q
        refine X.gald dX9_showLikely_30 e9 (fun v8 e10 => ?_)
        clear e9
        refine Ok.aload_n dX9_showLikely_31 rfl ?_
        refine X.rgfR fl_RX9_11 dX9_showLikely_32 e10 (fun v9 e11 => ?_)
        clear e10
        refine Ok.iload_n dX9_showLikely_35 rfl ?_
        refine X.rnn e11 (fun p10 q e12 => ?_)
        clear e11
        subst q
        refine X.gald dX9_showLikely_36 e12 (fun v11 e13 => ?_)
        clear e12
        refine Ok.iload_n dX9_showLikely_37 rfl ?_
        refine X.rnn e13 (fun p12 q e14 => ?_)
        clear e13
        subst q
        refine X.iald dX9_showLikely_38 e14 (fun v13 e15 => ?_)
        clear e14
        refine X.rnn e15 (fun p14 q e16 => ?_)
        clear e15
        subst q
        refine X.iald dX9_showLikely_39 e16 (fun v15 e17 => ?_)
        clear e16
        refine Ok.ldc (v := (nI 500000)) dX9_showLikely_40 wd904 ?_
        refine X.icmp_lt (tgt := 49) dX9_showLikely_42 (by decide) e17 (fun e18 => ?_) (fun e18 => ?_)
        · clear e17
          refine Ok.iconstV (v := (nI 0)) dX9_showLikely_49 (by decide +kernel) ?_
          exact Ok.weakL (k_X9_showLikely_50 (d := d) K2 e18) ⟨rfl, ⟨rfl, ⟨rfl, ⟨rfl, trivial⟩⟩⟩⟩
        · clear e17
          refine Ok.iconstV (v := (nI 1)) dX9_showLikely_45 (by decide +kernel) ?_
          refine Ok.goto (tgt := 50) dX9_showLikely_46 (by decide) ?_
          exact Ok.weakL (k_X9_showLikely_50 (d := d) K2 e18) ⟨rfl, ⟨rfl, ⟨rfl, ⟨rfl, trivial⟩⟩⟩⟩
noncomputable def F_X9_showLikely (G : Gx) (h : Hp) (nx : Nat) (a0 : Nat) (a1 : Int32) (a2 : Int32) : Rz Unit :=
(F_X9_showLikely_2 G fuelL h nx a0 a1 a2 (nI 0))
set_option maxRecDepth 100000 in
set_option maxHeartbeats 4000000 in
theorem k_X9_showLikely {G : Gx} {d : Nat} {h : Hp} {nx : Nat} {a0 : Nat} {a1 : Int32} {a2 : Int32} {v' : Unit} {h' : Hp} {n' : Nat} (e : F_X9_showLikely G h nx a0 a1 a2 = some (v', h', n')) : Ct G mX9_showLikely (d + 2) (Same none h' n') [.ref a0, .int a1, .int a2] h nx := by
  unfold F_X9_showLikely at e
  refine Ct.of (ls := [some (.ref a0), some (.int a1), some (.int a2), none, none]) (by decide +kernel) rfl (Nat.le_of_ble_eq_true rfl) rfl ?_
  refine Ok.iconstV (v := (nI 0)) dX9_showLikely_0 (by decide +kernel) ?_
  refine XL.istore_n dX9_showLikely_1 (by decide) (L := [some (.ref a0), some (.int a1), some (.int a2), some (.int (nI 0)), none]) rfl ?_
  exact Ok.weakL (k_X9_showLikely_2 (d := d) fuelL e) ⟨rfl, ⟨rfl, ⟨rfl, ⟨rfl, trivial⟩⟩⟩⟩
noncomputable def F_X9_firstOutdone_143 (G : Gx) (h : Hp) (nx : Nat) : Rz Int32 :=
some ((-5 : Int32), h, nx)
set_option maxRecDepth 100000 in
set_option maxHeartbeats 4000000 in
theorem k_X9_firstOutdone_143 {G : Gx} {d : Nat} {v' : Int32} {h' : Hp} {n' : Nat} {h : Hp} {nx : Nat} (e : F_X9_firstOutdone_143 G h nx = some (v', h', n')) : Ok G mX9_firstOutdone (d + 5) (Same (some (.int v')) h' n') 143 [none, none, none, none, none, none] [] h nx 0 0 := by
  unfold F_X9_firstOutdone_143 at e
  refine Ok.bipushV (v := (-5 : Int32)) dX9_firstOutdone_143 (by decide +kernel) ?_
  exact X.iret dX9_firstOutdone_145 rfl (Nat.le_of_ble_eq_true rfl) (Nat.le_of_ble_eq_true rfl) e
noncomputable def F_X9_firstOutdone_46 (G : Gx) (k7 : Hp → Nat → Nat → Nat → Int32 → Int32 → Rz Int32) : Nat → Hp → Nat → Nat → Nat → Int32 → Int32 → Int32 → Int32 → Rz Int32 := fun n => Nat.rec (motive := fun _ => Hp → Nat → Nat → Nat → Int32 → Int32 → Int32 → Int32 → Rz Int32) (fun _ _ _ _ _ _ _ _ => none) (fun _ k46 => fun h nx l0 l1 l2 l3 l4 l5 =>
gfR h l0 [9] 1 (fun v1 =>
nn v1 (fun p2 =>
gfI h p2 [0] 11 (fun v3 =>
if v3 ≤ l5 then
gfR h l0 [9] 0 (fun v4 =>
gfR h l0 [9] 0 (fun v5 =>
nn v5 (fun p6 =>
ck h p6 [5] (fun _ =>
cl (F_X5_worthiestSet G h nx p6) (fun r7 h8 n9 =>
nn v4 (fun p10 =>
ck h8 p10 [5] (fun _ =>
cl (F_X5_worthOf G h8 n9 p10 r7) (fun r11 h12 n13 =>
gfR h12 l0 [9] 0 (fun v14 =>
nn v14 (fun p15 =>
ck h12 p15 [5] (fun _ =>
cl (F_X5_worthOf G h12 n13 p15 l4) (fun r16 h17 n18 =>
if r11 ≤ r16 then
ck h17 l0 [9] (fun _ =>
cl (F_X9_showLikely G h17 n18 l0 l3 l4) (fun _ h20 n21 =>
ck h20 l0 [9] (fun _ =>
cl (F_X9_goOver G h20 n21 l0 l3) (fun _ h23 n24 =>
nm (l3 + (nI 1)) (fun v25 =>
(k7 h23 n24 l0 l1 l2 v25))))))
else
some (l3, h17, n18)))))))))))))
else
gfR h l0 [9] 0 (fun v26 =>
nn v26 (fun p27 =>
gfR h p27 [5] 5 (fun v28 =>
gfR h l0 [9] 0 (fun v29 =>
nn v29 (fun p30 =>
gfR h p30 [5] 1 (fun v31 =>
nn v31 (fun p32 =>
alR (g_c G 6) h p32 l5 (fun v33 =>
gfR h l0 [9] 2 (fun v34 =>
nn v34 (fun p35 =>
alR (g_c G 6) h p35 l3 (fun v36 =>
nn v36 (fun p37 =>
alI (g_c G 0) h p37 l5 (fun v38 =>
nn v33 (fun p39 =>
alI (g_c G 0) h p39 v38 (fun v40 =>
nn v28 (fun p41 =>
asI (g_c G 0) id h p41 l5 (((nI 1000000) - v40)) (fun h42 =>
nm (l5 + (nI 1)) (fun v43 =>
(k46 h42 nx l0 l1 l2 l3 l4 v43))))))))))))))))))))))) n
theorem F_X9_firstOutdone_46_0 {G : Gx} (k7 : Hp → Nat → Nat → Nat → Int32 → Int32 → Rz Int32) {h : Hp} {nx : Nat} {l0 : Nat} {l1 : Nat} {l2 : Int32} {l3 : Int32} {l4 : Int32} {l5 : Int32} : F_X9_firstOutdone_46 G k7 0 h nx l0 l1 l2 l3 l4 l5 = none := rfl
theorem F_X9_firstOutdone_46_s {G : Gx} (k7 : Hp → Nat → Nat → Nat → Int32 → Int32 → Rz Int32) {n : Nat} {h : Hp} {nx : Nat} {l0 : Nat} {l1 : Nat} {l2 : Int32} {l3 : Int32} {l4 : Int32} {l5 : Int32} : F_X9_firstOutdone_46 G k7 (n + 1) h nx l0 l1 l2 l3 l4 l5 = (
gfR h l0 [9] 1 (fun v1 =>
nn v1 (fun p2 =>
gfI h p2 [0] 11 (fun v3 =>
if v3 ≤ l5 then
gfR h l0 [9] 0 (fun v4 =>
gfR h l0 [9] 0 (fun v5 =>
nn v5 (fun p6 =>
ck h p6 [5] (fun _ =>
cl (F_X5_worthiestSet G h nx p6) (fun r7 h8 n9 =>
nn v4 (fun p10 =>
ck h8 p10 [5] (fun _ =>
cl (F_X5_worthOf G h8 n9 p10 r7) (fun r11 h12 n13 =>
gfR h12 l0 [9] 0 (fun v14 =>
nn v14 (fun p15 =>
ck h12 p15 [5] (fun _ =>
cl (F_X5_worthOf G h12 n13 p15 l4) (fun r16 h17 n18 =>
if r11 ≤ r16 then
ck h17 l0 [9] (fun _ =>
cl (F_X9_showLikely G h17 n18 l0 l3 l4) (fun _ h20 n21 =>
ck h20 l0 [9] (fun _ =>
cl (F_X9_goOver G h20 n21 l0 l3) (fun _ h23 n24 =>
nm (l3 + (nI 1)) (fun v25 =>
(k7 h23 n24 l0 l1 l2 v25))))))
else
some (l3, h17, n18)))))))))))))
else
gfR h l0 [9] 0 (fun v26 =>
nn v26 (fun p27 =>
gfR h p27 [5] 5 (fun v28 =>
gfR h l0 [9] 0 (fun v29 =>
nn v29 (fun p30 =>
gfR h p30 [5] 1 (fun v31 =>
nn v31 (fun p32 =>
alR (g_c G 6) h p32 l5 (fun v33 =>
gfR h l0 [9] 2 (fun v34 =>
nn v34 (fun p35 =>
alR (g_c G 6) h p35 l3 (fun v36 =>
nn v36 (fun p37 =>
alI (g_c G 0) h p37 l5 (fun v38 =>
nn v33 (fun p39 =>
alI (g_c G 0) h p39 v38 (fun v40 =>
nn v28 (fun p41 =>
asI (g_c G 0) id h p41 l5 (((nI 1000000) - v40)) (fun h42 =>
nm (l5 + (nI 1)) (fun v43 =>
((F_X9_firstOutdone_46 G k7 n) h42 nx l0 l1 l2 l3 l4 v43))))))))))))))))))))))) := rfl
set_option maxRecDepth 100000 in
set_option maxHeartbeats 4000000 in
theorem k_X9_firstOutdone_46 {G : Gx} {d : Nat} {v' : Int32} {h' : Hp} {n' : Nat} {k7 : Hp → Nat → Nat → Nat → Int32 → Int32 → Rz Int32} (K7 : ∀ {h : Hp} {nx : Nat} {l0 : Nat} {l1 : Nat} {l2 : Int32} {l3 : Int32}, k7 h nx l0 l1 l2 l3 = some (v', h', n') → Ok G mX9_firstOutdone (d + 5) (Same (some (.int v')) h' n') 7 [some (.ref l0), some (.ref l1), some (.int l2), some (.int l3), none, none] [] h nx 0 0) : ∀ (n : Nat) {h : Hp} {nx : Nat} {l0 : Nat} {l1 : Nat} {l2 : Int32} {l3 : Int32} {l4 : Int32} {l5 : Int32}, F_X9_firstOutdone_46 G k7 n h nx l0 l1 l2 l3 l4 l5 = some (v', h', n') → Ok G mX9_firstOutdone (d + 5) (Same (some (.int v')) h' n') 46 [some (.ref l0), some (.ref l1), some (.int l2), some (.int l3), some (.int l4), some (.int l5)] [] h nx 0 0 := by
  intro n
  induction n with
  | zero =>
    intro h nx l0 l1 l2 l3 l4 l5 e
    rw [F_X9_firstOutdone_46_0] at e
    cases e
  | succ n K46 =>
    intro h nx l0 l1 l2 l3 l4 l5 e
    rw [F_X9_firstOutdone_46_s] at e
    refine Ok.iload dX9_firstOutdone_46 rfl ?_
    refine Ok.aload_n dX9_firstOutdone_48 rfl ?_
    refine X.rgfR fl_RX9_53 dX9_firstOutdone_49 e (fun v1 e1 => ?_)
    clear e
    refine X.rnn e1 (fun p2 q e2 => ?_)
    clear e1
    subst q
    refine X.rgfI fl_RX9_83 dX9_firstOutdone_52 e2 (fun v3 e3 => ?_)
    clear e2
    refine X.icmp_ge (tgt := 97) dX9_firstOutdone_55 (by decide) e3 (fun e4 => ?_) (fun e4 => ?_)
    · clear e3
      refine Ok.aload_n dX9_firstOutdone_97 rfl ?_
      refine X.rgfR fl_RX9_43 dX9_firstOutdone_98 e4 (fun v4 e5 => ?_)
      clear e4
      refine Ok.aload_n dX9_firstOutdone_101 rfl ?_
      refine X.rgfR fl_RX9_43 dX9_firstOutdone_102 e5 (fun v5 e6 => ?_)
      clear e5
      refine X.rnn e6 (fun p6 q e7 => ?_)
      clear e6
      subst q
      refine X.rck e7 (fun c fs hb hc e8 => ?_)
      clear e7
      obtain rfl := List.mem_singleton.mp hc
      refine X.callV (My := mX5_worthiestSet) (n := 0) (As := []) (T := (fun v => (some (.int v)))) (stk' := (fun v => [.int v, va_rf v4])) (rest := [va_rf v4]) (kc' := 0) (ks' := 0) dX9_firstOutdone_105 e8 (fun v h n e => k_X5_worthiestSet (d := d + 3) e) hb rfl wd806 wd78 wd804 wd805 wd895 (by decide +kernel) rfl (by decide) rfl rfl (cs_le (cs_c (a := 1) (va_rf_cat _) cs_n) (by decide)) (Nat.le_of_ble_eq_true rfl) (Nat.le_of_ble_eq_true rfl) rfl rfl (fun _ => rfl) (fun r7 h8 n9 e9 => ?_)
      clear e8
      refine X.rnn e9 (fun p10 q e10 => ?_)
      clear e9
      subst q
      refine X.rck e10 (fun c fs hb hc e11 => ?_)
      clear e10
      obtain rfl := List.mem_singleton.mp hc
      refine X.callV (My := mX5_worthOf) (n := 1) (As := [.int r7]) (T := (fun v => (some (.int v)))) (stk' := (fun v => [.int v])) (rest := []) (kc' := 0) (ks' := 0) dX9_firstOutdone_108 e11 (fun v h n e => k_X5_worthOf (d := d + 4) e) hb rfl wd899 wd78 wd897 wd898 wd896 (by decide +kernel) rfl (by decide) rfl rfl (Nat.le_of_ble_eq_true rfl) (Nat.le_of_ble_eq_true rfl) (Nat.le_of_ble_eq_true rfl) rfl rfl (fun _ => rfl) (fun r11 h12 n13 e12 => ?_)
      clear e11
      refine Ok.aload_n dX9_firstOutdone_111 rfl ?_
      refine X.rgfR fl_RX9_43 dX9_firstOutdone_112 e12 (fun v14 e13 => ?_)
      clear e12
      refine Ok.iload dX9_firstOutdone_115 rfl ?_
      refine X.rnn e13 (fun p15 q e14 => ?_)
      clear e13
      subst q
      refine X.rck e14 (fun c fs hb hc e15 => ?_)
      clear e14
      obtain rfl := List.mem_singleton.mp hc
      refine X.callV (My := mX5_worthOf) (n := 1) (As := [.int l4]) (T := (fun v => (some (.int v)))) (stk' := (fun v => [.int v, .int r11])) (rest := [.int r11]) (kc' := 0) (ks' := 0) dX9_firstOutdone_117 e15 (fun v h n e => k_X5_worthOf (d := d + 4) e) hb rfl wd899 wd78 wd897 wd898 wd896 (by decide +kernel) rfl (by decide) rfl rfl (Nat.le_of_ble_eq_true rfl) (Nat.le_of_ble_eq_true rfl) (Nat.le_of_ble_eq_true rfl) rfl rfl (fun _ => rfl) (fun r16 h17 n18 e16 => ?_)
      clear e15
      refine X.icmp_le (tgt := 125) dX9_firstOutdone_120 (by decide) e16 (fun e17 => ?_) (fun e17 => ?_)
      · clear e16
        refine Ok.aload_n dX9_firstOutdone_125 rfl ?_
        refine Ok.iload_n dX9_firstOutdone_126 rfl ?_
        refine Ok.iload dX9_firstOutdone_127 rfl ?_
        refine X.rck e17 (fun c fs hb hc e18 => ?_)
        clear e17
        obtain rfl := List.mem_singleton.mp hc
        refine X.callV (My := mX9_showLikely) (n := 2) (As := [.int l3, .int l4]) (T := (fun v => none)) (stk' := (fun _ => [])) (rest := []) (kc' := 0) (ks' := 0) dX9_firstOutdone_129 e18 (fun v h n e => k_X9_showLikely (d := d + 2) e) hb rfl wd903 wd79 wd902 wd21 wd900 (by decide +kernel) rfl (by decide) rfl rfl (Nat.le_of_ble_eq_true rfl) (Nat.le_of_ble_eq_true rfl) (Nat.le_of_ble_eq_true rfl) rfl rfl (fun _ => rfl) (fun _ h20 n21 e19 => ?_)
        clear e18
        refine Ok.aload_n dX9_firstOutdone_132 rfl ?_
        refine Ok.iload_n dX9_firstOutdone_133 rfl ?_
        refine X.rck e19 (fun c fs hb hc e20 => ?_)
        clear e19
        obtain rfl := List.mem_singleton.mp hc
        refine X.callV (My := mX9_goOver) (n := 1) (As := [.int l3]) (T := (fun v => none)) (stk' := (fun _ => [])) (rest := []) (kc' := 0) (ks' := 0) dX9_firstOutdone_134 e20 (fun v h n e => k_X9_goOver (d := d + 4) e) hb rfl wd838 wd79 wd837 wd18 wd835 (by decide +kernel) rfl (by decide) rfl rfl (Nat.le_of_ble_eq_true rfl) (Nat.le_of_ble_eq_true rfl) (Nat.le_of_ble_eq_true rfl) rfl rfl (fun _ => rfl) (fun _ h23 n24 e21 => ?_)
        clear e20
        refine X.iinc dX9_firstOutdone_137 rfl (by decide) (by decide +kernel) e21 (L := fun v25 => [some (.ref l0), some (.ref l1), some (.int l2), some (.int v25), some (.int l4), some (.int l5)]) (fun _ => rfl) (fun v25 e22 => ?_)
        clear e21
        refine Ok.goto (tgt := 7) dX9_firstOutdone_140 (by decide) ?_
        exact Ok.weakL (K7 e22) ⟨rfl, ⟨rfl, ⟨rfl, ⟨rfl, trivial⟩⟩⟩⟩
      · clear e16
        refine Ok.iload_n dX9_firstOutdone_123 rfl ?_
        exact X.iret dX9_firstOutdone_124 rfl (Nat.le_of_ble_eq_true rfl) (Nat.le_of_ble_eq_true rfl) e17
    · clear e3
      refine Ok.aload_n dX9_firstOutdone_58 rfl ?_
      refine X.rgfR fl_RX9_43 dX9_firstOutdone_59 e4 (fun v26 e5 => ?_)
      clear e4
      refine X.rnn e5 (fun p27 q e6 => ?_)
      clear e5
      subst q
      refine X.rgfR fl_RX9_158 dX9_firstOutdone_62 e6 (fun v28 e7 => ?_)
      clear e6
      refine Ok.iload dX9_firstOutdone_65 rfl ?_
      refine Ok.ldc (v := (nI 1000000)) dX9_firstOutdone_67 wd843 ?_
      refine Ok.aload_n dX9_firstOutdone_69 rfl ?_
      refine X.rgfR fl_RX9_43 dX9_firstOutdone_70 e7 (fun v29 e8 => ?_)
      clear e7
      refine X.rnn e8 (fun p30 q e9 => ?_)
      clear e8
      subst q
      refine X.rgfR fl_RX9_135 dX9_firstOutdone_73 e9 (fun v31 e10 => ?_)
      clear e9
      refine Ok.iload dX9_firstOutdone_76 rfl ?_
      refine X.rnn e10 (fun p32 q e11 => ?_)
      clear e10
      subst q
      refine X.gald dX9_firstOutdone_78 e11 (fun v33 e12 => ?_)
      clear e11
      refine Ok.aload_n dX9_firstOutdone_79 rfl ?_
      refine X.rgfR fl_RX9_11 dX9_firstOutdone_80 e12 (fun v34 e13 => ?_)
      clear e12
      refine Ok.iload_n dX9_firstOutdone_83 rfl ?_
      refine X.rnn e13 (fun p35 q e14 => ?_)
      clear e13
      subst q
      refine X.gald dX9_firstOutdone_84 e14 (fun v36 e15 => ?_)
      clear e14
      refine Ok.iload dX9_firstOutdone_85 rfl ?_
      refine X.rnn e15 (fun p37 q e16 => ?_)
      clear e15
      subst q
      refine X.iald dX9_firstOutdone_87 e16 (fun v38 e17 => ?_)
      clear e16
      refine X.rnn e17 (fun p39 q e18 => ?_)
      clear e17
      subst q
      refine X.iald dX9_firstOutdone_88 e18 (fun v40 e19 => ?_)
      clear e18
      refine Ok.isub dX9_firstOutdone_89 ?_
      refine X.rnn e19 (fun p41 q e20 => ?_)
      clear e19
      subst q
      refine X.iast dX9_firstOutdone_90 e20 (fun h42 e21 => ?_)
      clear e20
      refine X.iinc dX9_firstOutdone_91 rfl (by decide) (by decide +kernel) e21 (L := fun v43 => [some (.ref l0), some (.ref l1), some (.int l2), some (.int l3), some (.int l4), some (.int v43)]) (fun _ => rfl) (fun v43 e22 => ?_)
      clear e21
      refine Ok.goto (tgt := 46) dX9_firstOutdone_94 (by decide) ?_
      exact Ok.weakL (K46 e22) ⟨rfl, ⟨rfl, ⟨rfl, ⟨rfl, ⟨rfl, ⟨rfl, trivial⟩⟩⟩⟩⟩⟩
noncomputable def F_X9_firstOutdone_7 (G : Gx) : Nat → Hp → Nat → Nat → Nat → Int32 → Int32 → Rz Int32 := fun n => Nat.rec (motive := fun _ => Hp → Nat → Nat → Nat → Int32 → Int32 → Rz Int32) (fun _ _ _ _ _ _ => none) (fun _ k7 => fun h nx l0 l1 l2 l3 =>
if l2 ≤ l3 then
(F_X9_firstOutdone_143 G h nx)
else
if (nI 10) ≤ l3 then
(F_X9_firstOutdone_143 G h nx)
else
gfR h l0 [9] 0 (fun v1 =>
gfR h l0 [9] 2 (fun v2 =>
nn v2 (fun p3 =>
alR (g_c G 6) h p3 l3 (fun v4 =>
gfR h l0 [9] 1 (fun v5 =>
nn v5 (fun p6 =>
gfI h p6 [0] 16 (fun v7 =>
nn v4 (fun p8 =>
nn v1 (fun p9 =>
cl (ck h l1 [1, 2, 3, 4, 6, 8, 10] (fun c => match c with
| 1 => F_X10_chosen G h nx l1 p9 p8 ((v7 + l3))
| 2 => F_X6_chosen G h nx l1 p9 p8 ((v7 + l3))
| 3 => F_X6_chosen G h nx l1 p9 p8 ((v7 + l3))
| 4 => F_X6_chosen G h nx l1 p9 p8 ((v7 + l3))
| 6 => F_X6_chosen G h nx l1 p9 p8 ((v7 + l3))
| 8 => F_X8_chosen G h nx l1 p9 p8 ((v7 + l3))
| 10 => F_X10_chosen G h nx l1 p9 p8 ((v7 + l3))
| _ => none)) (fun r10 h11 n12 =>
(F_X9_firstOutdone_46 G k7 fuelL h11 n12 l0 l1 l2 l3 r10 (nI 0))))))))))))) n
theorem F_X9_firstOutdone_7_0 {G : Gx} {h : Hp} {nx : Nat} {l0 : Nat} {l1 : Nat} {l2 : Int32} {l3 : Int32} : F_X9_firstOutdone_7 G 0 h nx l0 l1 l2 l3 = none := rfl
theorem F_X9_firstOutdone_7_s {G : Gx} {n : Nat} {h : Hp} {nx : Nat} {l0 : Nat} {l1 : Nat} {l2 : Int32} {l3 : Int32} : F_X9_firstOutdone_7 G (n + 1) h nx l0 l1 l2 l3 = (
if l2 ≤ l3 then
(F_X9_firstOutdone_143 G h nx)
else
if (nI 10) ≤ l3 then
(F_X9_firstOutdone_143 G h nx)
else
gfR h l0 [9] 0 (fun v1 =>
gfR h l0 [9] 2 (fun v2 =>
nn v2 (fun p3 =>
alR (g_c G 6) h p3 l3 (fun v4 =>
gfR h l0 [9] 1 (fun v5 =>
nn v5 (fun p6 =>
gfI h p6 [0] 16 (fun v7 =>
nn v4 (fun p8 =>
nn v1 (fun p9 =>
cl (ck h l1 [1, 2, 3, 4, 6, 8, 10] (fun c => match c with
| 1 => F_X10_chosen G h nx l1 p9 p8 ((v7 + l3))
| 2 => F_X6_chosen G h nx l1 p9 p8 ((v7 + l3))
| 3 => F_X6_chosen G h nx l1 p9 p8 ((v7 + l3))
| 4 => F_X6_chosen G h nx l1 p9 p8 ((v7 + l3))
| 6 => F_X6_chosen G h nx l1 p9 p8 ((v7 + l3))
| 8 => F_X8_chosen G h nx l1 p9 p8 ((v7 + l3))
| 10 => F_X10_chosen G h nx l1 p9 p8 ((v7 + l3))
| _ => none)) (fun r10 h11 n12 =>
(F_X9_firstOutdone_46 G (F_X9_firstOutdone_7 G n) fuelL h11 n12 l0 l1 l2 l3 r10 (nI 0))))))))))))) := rfl
set_option maxRecDepth 100000 in
set_option maxHeartbeats 4000000 in
theorem k_X9_firstOutdone_7 {G : Gx} {d : Nat} {v' : Int32} {h' : Hp} {n' : Nat} : ∀ (n : Nat) {h : Hp} {nx : Nat} {l0 : Nat} {l1 : Nat} {l2 : Int32} {l3 : Int32}, F_X9_firstOutdone_7 G n h nx l0 l1 l2 l3 = some (v', h', n') → Ok G mX9_firstOutdone (d + 5) (Same (some (.int v')) h' n') 7 [some (.ref l0), some (.ref l1), some (.int l2), some (.int l3), none, none] [] h nx 0 0 := by
  intro n
  induction n with
  | zero =>
    intro h nx l0 l1 l2 l3 e
    rw [F_X9_firstOutdone_7_0] at e
    cases e
  | succ n K7 =>
    intro h nx l0 l1 l2 l3 e
    rw [F_X9_firstOutdone_7_s] at e
    refine Ok.iload_n dX9_firstOutdone_7 rfl ?_
    refine Ok.iload_n dX9_firstOutdone_8 rfl ?_
    refine X.icmp_ge (tgt := 143) dX9_firstOutdone_9 (by decide) e (fun e1 => ?_) (fun e1 => ?_)
    · clear e
      exact Ok.weakL (k_X9_firstOutdone_143 (d := d) e1) trivial
    · clear e
      refine Ok.iload_n dX9_firstOutdone_12 rfl ?_
      refine Ok.bipushV (v := (nI 10)) dX9_firstOutdone_13 (by decide +kernel) ?_
      refine X.icmp_ge (tgt := 143) dX9_firstOutdone_15 (by decide) e1 (fun e2 => ?_) (fun e2 => ?_)
      · clear e1
        exact Ok.weakL (k_X9_firstOutdone_143 (d := d) e2) trivial
      · clear e1
        refine Ok.aload_n dX9_firstOutdone_18 rfl ?_
        refine Ok.aload_n dX9_firstOutdone_19 rfl ?_
        refine X.rgfR fl_RX9_43 dX9_firstOutdone_20 e2 (fun v1 e3 => ?_)
        clear e2
        refine Ok.aload_n dX9_firstOutdone_23 rfl ?_
        refine X.rgfR fl_RX9_11 dX9_firstOutdone_24 e3 (fun v2 e4 => ?_)
        clear e3
        refine Ok.iload_n dX9_firstOutdone_27 rfl ?_
        refine X.rnn e4 (fun p3 q e5 => ?_)
        clear e4
        subst q
        refine X.gald dX9_firstOutdone_28 e5 (fun v4 e6 => ?_)
        clear e5
        refine Ok.aload_n dX9_firstOutdone_29 rfl ?_
        refine X.rgfR fl_RX9_53 dX9_firstOutdone_30 e6 (fun v5 e7 => ?_)
        clear e6
        refine X.rnn e7 (fun p6 q e8 => ?_)
        clear e7
        subst q
        refine X.rgfI fl_RX9_109 dX9_firstOutdone_33 e8 (fun v7 e9 => ?_)
        clear e8
        refine Ok.iload_n dX9_firstOutdone_36 rfl ?_
        refine Ok.iadd dX9_firstOutdone_37 ?_
        refine X.rnn e9 (fun p8 q e10 => ?_)
        clear e9
        subst q
        refine X.rnn e10 (fun p9 q e11 => ?_)
        clear e10
        subst q
        refine X.callC (n := 3) (As := [.ref p9, .ref p8, .int ((v7 + l3))]) (T := (fun v => (some (.int v)))) (stk' := (fun v => [.int v])) (rest := []) dX9_firstOutdone_38 (Nat.le_of_ble_eq_true rfl) e11 (fun c hc => ?_) rfl rfl (Nat.le_of_ble_eq_true rfl) (Nat.le_of_ble_eq_true rfl) (fun _ => rfl) (fun r10 h11 n12 e12 => ?_)
        · simp only [List.mem_cons, List.not_mem_nil, or_false] at hc
          rcases hc with rfl | rfl | rfl | rfl | rfl | rfl | rfl
          · exact ⟨mX10_chosen, vu_RX9_112_1, fun v h n e12 => k_X10_chosen (d := d + 3) e12⟩
          · exact ⟨mX6_chosen, vu_RX9_112_2, fun v h n e12 => k_X6_chosen (d := d + 0) e12⟩
          · exact ⟨mX6_chosen, vu_RX9_112_3, fun v h n e12 => k_X6_chosen (d := d + 0) e12⟩
          · exact ⟨mX6_chosen, vu_RX9_112_4, fun v h n e12 => k_X6_chosen (d := d + 0) e12⟩
          · exact ⟨mX6_chosen, vu_RX9_112_6, fun v h n e12 => k_X6_chosen (d := d + 0) e12⟩
          · exact ⟨mX8_chosen, vu_RX9_112_8, fun v h n e12 => k_X8_chosen (d := d + 2) e12⟩
          · exact ⟨mX10_chosen, vu_RX9_112_10, fun v h n e12 => k_X10_chosen (d := d + 3) e12⟩
        clear e11
        refine XL.istore dX9_firstOutdone_41 (by decide) (L := [some (.ref l0), some (.ref l1), some (.int l2), some (.int l3), some (.int r10), none]) rfl ?_
        refine Ok.iconstV (v := (nI 0)) dX9_firstOutdone_43 (by decide +kernel) ?_
        refine XL.istore dX9_firstOutdone_44 (by decide) (L := [some (.ref l0), some (.ref l1), some (.int l2), some (.int l3), some (.int r10), some (.int (nI 0))]) rfl ?_
        exact Ok.weakL (k_X9_firstOutdone_46 (d := d) K7 fuelL e12) ⟨rfl, ⟨rfl, ⟨rfl, ⟨rfl, ⟨rfl, ⟨rfl, trivial⟩⟩⟩⟩⟩⟩
noncomputable def F_X9_firstOutdone (G : Gx) (h : Hp) (nx : Nat) (a0 : Nat) (a1 : Nat) (a2 : Int32) : Rz Int32 :=
ck h a0 [9] (fun _ =>
cl (F_X9_begin G h nx a0 a2) (fun _ h2 n3 =>
(F_X9_firstOutdone_7 G fuelL h2 n3 a0 a1 a2 (nI 0))))
set_option maxRecDepth 100000 in
set_option maxHeartbeats 4000000 in
theorem k_X9_firstOutdone {G : Gx} {d : Nat} {h : Hp} {nx : Nat} {a0 : Nat} {a1 : Nat} {a2 : Int32} {v' : Int32} {h' : Hp} {n' : Nat} (e : F_X9_firstOutdone G h nx a0 a1 a2 = some (v', h', n')) : Ct G mX9_firstOutdone (d + 5) (Same (some (.int v')) h' n') [.ref a0, .ref a1, .int a2] h nx := by
  unfold F_X9_firstOutdone at e
  refine Ct.of (ls := [some (.ref a0), some (.ref a1), some (.int a2), none, none, none]) (by decide +kernel) rfl (Nat.le_of_ble_eq_true rfl) rfl ?_
  refine Ok.aload_n dX9_firstOutdone_0 rfl ?_
  refine Ok.iload_n dX9_firstOutdone_1 rfl ?_
  refine X.rck e (fun c fs hb hc e1 => ?_)
  clear e
  obtain rfl := List.mem_singleton.mp hc
  refine X.callV (My := mX9_begin) (n := 1) (As := [.int a2]) (T := (fun v => none)) (stk' := (fun _ => [])) (rest := []) (kc' := 0) (ks' := 0) dX9_firstOutdone_2 e1 (fun v h n e => k_X9_begin (d := d + 3) e) hb rfl wd819 wd79 wd818 wd14 wd816 (by decide +kernel) rfl (by decide) rfl rfl (Nat.le_of_ble_eq_true rfl) (Nat.le_of_ble_eq_true rfl) (Nat.le_of_ble_eq_true rfl) rfl rfl (fun _ => rfl) (fun _ h2 n3 e2 => ?_)
  clear e1
  refine Ok.iconstV (v := (nI 0)) dX9_firstOutdone_5 (by decide +kernel) ?_
  refine XL.istore_n dX9_firstOutdone_6 (by decide) (L := [some (.ref a0), some (.ref a1), some (.int a2), some (.int (nI 0)), none, none]) rfl ?_
  exact Ok.weakL (k_X9_firstOutdone_7 (d := d) fuelL e2) ⟨rfl, ⟨rfl, ⟨rfl, ⟨rfl, trivial⟩⟩⟩⟩
