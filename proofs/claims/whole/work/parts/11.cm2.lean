noncomputable def F_X12_best_39 (G : Gx) (h : Hp) (nx : Nat) : Rz Int64 :=
some ((-9223372036854775808 : Int64), h, nx)
set_option maxRecDepth 100000 in
set_option maxHeartbeats 4000000 in
theorem k_X12_best_39 {G : Gx} {d : Nat} {v' : Int64} {h' : Hp} {n' : Nat} {h : Hp} {nx : Nat} (e : F_X12_best_39 G h nx = some (v', h', n')) : Ok G mX12_best (d + 68) (Same (some (.long v')) h' n') 39 [none, none, none, none, none, none, none] [] h nx 0 0 := by
  unfold F_X12_best_39 at e
  refine Ok.ldc2_w (v := -9223372036854775808) dX12_best_39 wd1311 ?_
  exact X.lret dX12_best_42 rfl (Nat.le_of_ble_eq_true rfl) (Nat.le_of_ble_eq_true rfl) e
noncomputable def F_X12_best_87 (G : Gx) (h : Hp) (nx : Nat) (s0 : Int64) : Rz Int64 :=
some (s0, h, nx)
set_option maxRecDepth 100000 in
set_option maxHeartbeats 4000000 in
theorem k_X12_best_87 {G : Gx} {d : Nat} {v' : Int64} {h' : Hp} {n' : Nat} {h : Hp} {nx : Nat} {s0 : Int64} (e : F_X12_best_87 G h nx s0 = some (v', h', n')) : Ok G mX12_best (d + 68) (Same (some (.long v')) h' n') 87 [none, none, none, none, none, none, none] [.long s0] h nx 0 0 := by
  unfold F_X12_best_87 at e
  exact X.lret dX12_best_87 rfl (Nat.le_of_ble_eq_true rfl) (Nat.le_of_ble_eq_true rfl) e
noncomputable def F_X12_best (G : Gx) (h : Hp) (nx : Nat) (a0 : Nat) (a1 : Int32) (a2 : Int32) (a3 : Int32) (a4 : Int32) : Rz Int64 :=
ck h a0 [12] (fun _ =>
cl (F_X12_isThing G h nx a0 a1) (fun r1 h2 n3 =>
if r1 = 0 then
(F_X12_best_39 G h2 n3)
else
cl (F_X12_in G h2 n3 a2 (nI 0) (nI 200)) (fun r4 h5 n6 =>
if r4 = 0 then
(F_X12_best_39 G h5 n6)
else
cl (F_X12_in G h5 n6 a3 (nI 1) (nI 8)) (fun r7 h8 n9 =>
if r7 = 0 then
(F_X12_best_39 G h8 n9)
else
cl (F_X12_in G h8 n9 a4 (nI 0) (nI 2)) (fun r10 h11 n12 =>
if r10 = 0 then
(F_X12_best_39 G h11 n12)
else
ck h11 a0 [12] (fun _ =>
cl (F_X12_rowsOf G h11 n12 a0 a1) (fun _ h14 n15 =>
ck h14 a0 [12] (fun _ =>
cl (F_X12_bestBy G h14 n15 a0 a2 a3) (fun r16 h17 n18 =>
if a4 = 0 then
(F_X12_best_87 G h17 n18 r16)
else
if a4 = (nI 1) then
gfR h17 a0 [12] 15 (fun v22 =>
nn v22 (fun p23 =>
alJ (g_c G 1) h17 p23 a3 (fun v24 =>
(F_X12_best_87 G h17 n18 v24))))
else
gfR h17 a0 [12] 16 (fun v19 =>
nn v19 (fun p20 =>
alJ (g_c G 1) h17 p20 a3 (fun v21 =>
(F_X12_best_87 G h17 n18 v21)))))))))))))
set_option maxRecDepth 100000 in
set_option maxHeartbeats 4000000 in
theorem k_X12_best {G : Gx} {d : Nat} {h : Hp} {nx : Nat} {a0 : Nat} {a1 : Int32} {a2 : Int32} {a3 : Int32} {a4 : Int32} {v' : Int64} {h' : Hp} {n' : Nat} (e : F_X12_best G h nx a0 a1 a2 a3 a4 = some (v', h', n')) : Ct G mX12_best (d + 68) (Same (some (.long v')) h' n') [.ref a0, .int a1, .int a2, .int a3, .int a4] h nx := by
  unfold F_X12_best at e
  refine Ct.of (ls := [some (.ref a0), some (.int a1), some (.int a2), some (.int a3), some (.int a4), none, none]) (by decide +kernel) rfl (Nat.le_of_ble_eq_true rfl) rfl ?_
  refine Ok.aload_n dX12_best_0 rfl ?_
  refine Ok.iload_n dX12_best_1 rfl ?_
  refine X.rck e (fun c fs hb hc e1 => ?_)
  clear e
  obtain rfl := List.mem_singleton.mp hc
  refine X.callV (My := mX12_isThing) (n := 1) (As := [.int a1]) (T := (fun v => (some (.int v)))) (stk' := (fun v => [.int v])) (rest := []) (kc' := 0) (ks' := 0) dX12_best_2 e1 (fun v h n e => k_X12_isThing (d := d + 66) e) hb rfl wd1278 wd80 wd1277 wd38 wd1275 (by decide +kernel) rfl (by decide) rfl rfl (Nat.le_of_ble_eq_true rfl) (Nat.le_of_ble_eq_true rfl) (Nat.le_of_ble_eq_true rfl) rfl rfl (fun _ => rfl) (fun r1 h2 n3 e2 => ?_)
  clear e1
  refine X.if_eq (tgt := 39) dX12_best_5 (by decide) e2 (fun e3 => ?_) (fun e3 => ?_)
  · clear e2
    exact Ok.weakL (k_X12_best_39 (d := d) e3) trivial
  · clear e2
    refine Ok.iload_n dX12_best_8 rfl ?_
    refine Ok.iconstV (v := (nI 0)) dX12_best_9 (by decide +kernel) ?_
    refine Ok.sipushV (v := (nI 200)) dX12_best_10 (by decide +kernel) ?_
    refine X.callS (My := mX12_in) (n := 3) (As := [.int a2, .int (nI 0), .int (nI 200)]) (T := (fun v => (some (.int v)))) (stk' := (fun v => [.int v])) (rest := []) (kc' := 0) (ks' := 0) dX12_best_13 e3 (fun v h n e => k_X12_in (d := d + 67) e) wd1196 wd80 wd1195 wd1194 (by decide +kernel) rfl (by decide) rfl rfl (Nat.le_of_ble_eq_true rfl) (Nat.le_of_ble_eq_true rfl) (Nat.le_of_ble_eq_true rfl) rfl rfl (fun _ => rfl) (fun r4 h5 n6 e4 => ?_)
    clear e3
    refine X.if_eq (tgt := 39) dX12_best_16 (by decide) e4 (fun e5 => ?_) (fun e5 => ?_)
    · clear e4
      exact Ok.weakL (k_X12_best_39 (d := d) e5) trivial
    · clear e4
      refine Ok.iload_n dX12_best_19 rfl ?_
      refine Ok.iconstV (v := (nI 1)) dX12_best_20 (by decide +kernel) ?_
      refine Ok.bipushV (v := (nI 8)) dX12_best_21 (by decide +kernel) ?_
      refine X.callS (My := mX12_in) (n := 3) (As := [.int a3, .int (nI 1), .int (nI 8)]) (T := (fun v => (some (.int v)))) (stk' := (fun v => [.int v])) (rest := []) (kc' := 0) (ks' := 0) dX12_best_23 e5 (fun v h n e => k_X12_in (d := d + 67) e) wd1196 wd80 wd1195 wd1194 (by decide +kernel) rfl (by decide) rfl rfl (Nat.le_of_ble_eq_true rfl) (Nat.le_of_ble_eq_true rfl) (Nat.le_of_ble_eq_true rfl) rfl rfl (fun _ => rfl) (fun r7 h8 n9 e6 => ?_)
      clear e5
      refine X.if_eq (tgt := 39) dX12_best_26 (by decide) e6 (fun e7 => ?_) (fun e7 => ?_)
      · clear e6
        exact Ok.weakL (k_X12_best_39 (d := d) e7) trivial
      · clear e6
        refine Ok.iload dX12_best_29 rfl ?_
        refine Ok.iconstV (v := (nI 0)) dX12_best_31 (by decide +kernel) ?_
        refine Ok.iconstV (v := (nI 2)) dX12_best_32 (by decide +kernel) ?_
        refine X.callS (My := mX12_in) (n := 3) (As := [.int a4, .int (nI 0), .int (nI 2)]) (T := (fun v => (some (.int v)))) (stk' := (fun v => [.int v])) (rest := []) (kc' := 0) (ks' := 0) dX12_best_33 e7 (fun v h n e => k_X12_in (d := d + 67) e) wd1196 wd80 wd1195 wd1194 (by decide +kernel) rfl (by decide) rfl rfl (Nat.le_of_ble_eq_true rfl) (Nat.le_of_ble_eq_true rfl) (Nat.le_of_ble_eq_true rfl) rfl rfl (fun _ => rfl) (fun r10 h11 n12 e8 => ?_)
        clear e7
        refine X.if_ne (tgt := 43) dX12_best_36 (by decide) e8 (fun e9 => ?_) (fun e9 => ?_)
        · clear e8
          refine Ok.aload_n dX12_best_43 rfl ?_
          refine Ok.iload_n dX12_best_44 rfl ?_
          refine X.rck e9 (fun c fs hb hc e10 => ?_)
          clear e9
          obtain rfl := List.mem_singleton.mp hc
          refine X.callV (My := mX12_rowsOf) (n := 1) (As := [.int a1]) (T := (fun v => none)) (stk' := (fun _ => [])) (rest := []) (kc' := 0) (ks' := 0) dX12_best_45 e10 (fun v h n e => k_X12_rowsOf (d := d + 64) e) hb rfl wd1315 wd80 wd1314 wd43 wd1312 (by decide +kernel) rfl (by decide) rfl rfl (Nat.le_of_ble_eq_true rfl) (Nat.le_of_ble_eq_true rfl) (Nat.le_of_ble_eq_true rfl) rfl rfl (fun _ => rfl) (fun _ h14 n15 e11 => ?_)
          clear e10
          refine Ok.aload_n dX12_best_48 rfl ?_
          refine Ok.iload_n dX12_best_49 rfl ?_
          refine Ok.iload_n dX12_best_50 rfl ?_
          refine X.rck e11 (fun c fs hb hc e12 => ?_)
          clear e11
          obtain rfl := List.mem_singleton.mp hc
          refine X.callV (My := mX12_bestBy) (n := 2) (As := [.int a2, .int a3]) (T := (fun v => (some (.long v)))) (stk' := (fun v => [.long v])) (rest := []) (kc' := 0) (ks' := 0) dX12_best_51 e12 (fun v h n e => k_X12_bestBy (d := d + 0) e) hb rfl wd1323 wd80 wd1322 wd45 wd1320 (by decide +kernel) rfl (by decide) rfl rfl (Nat.le_of_ble_eq_true rfl) (Nat.le_of_ble_eq_true rfl) (Nat.le_of_ble_eq_true rfl) rfl rfl (fun _ => rfl) (fun r16 h17 n18 e13 => ?_)
          clear e12
          refine XL.lstore dX12_best_54 (by decide) (L := [some (.ref a0), some (.int a1), some (.int a2), some (.int a3), some (.int a4), some (.long r16), none]) rfl ?_
          refine Ok.iload dX12_best_56 rfl ?_
          refine X.if_ne (tgt := 66) dX12_best_58 (by decide) e13 (fun e14 => ?_) (fun e14 => ?_)
          · clear e13
            refine Ok.iload dX12_best_66 rfl ?_
            refine Ok.iconstV (v := (nI 1)) dX12_best_68 (by decide +kernel) ?_
            refine X.icmp_ne (tgt := 81) dX12_best_69 (by decide) e14 (fun e15 => ?_) (fun e15 => ?_)
            · clear e14
              refine Ok.aload_n dX12_best_81 rfl ?_
              refine X.rgfR fl_RX12_39 dX12_best_82 e15 (fun v19 e16 => ?_)
              clear e15
              refine Ok.iload_n dX12_best_85 rfl ?_
              refine X.rnn e16 (fun p20 q e17 => ?_)
              clear e16
              subst q
              refine X.lald dX12_best_86 e17 (fun v21 e18 => ?_)
              clear e17
              exact Ok.weakL (k_X12_best_87 (d := d) e18) trivial
            · clear e14
              refine Ok.aload_n dX12_best_72 rfl ?_
              refine X.rgfR fl_RX12_36 dX12_best_73 e15 (fun v22 e16 => ?_)
              clear e15
              refine Ok.iload_n dX12_best_76 rfl ?_
              refine X.rnn e16 (fun p23 q e17 => ?_)
              clear e16
              subst q
              refine X.lald dX12_best_77 e17 (fun v24 e18 => ?_)
              clear e17
              refine Ok.goto (tgt := 87) dX12_best_78 (by decide) ?_
              exact Ok.weakL (k_X12_best_87 (d := d) e18) trivial
          · clear e13
            refine Ok.lload dX12_best_61 rfl ?_
            refine Ok.goto (tgt := 87) dX12_best_63 (by decide) ?_
            exact Ok.weakL (k_X12_best_87 (d := d) e14) trivial
        · clear e8
          exact Ok.weakL (k_X12_best_39 (d := d) e9) trivial
noncomputable def F_X12_isNoWorse_28 (G : Gx) (h : Hp) (nx : Nat) (s0 : Int32) : Rz Int32 :=
zk s0 (some (s0, h, nx))
set_option maxRecDepth 100000 in
set_option maxHeartbeats 4000000 in
theorem k_X12_isNoWorse_28 {G : Gx} {d : Nat} {v' : Int32} {h' : Hp} {n' : Nat} {h : Hp} {nx : Nat} {s0 : Int32} (e : F_X12_isNoWorse_28 G h nx s0 = some (v', h', n')) : Ok G mX12_isNoWorse (d + 68) (Same (some (.int v')) h' n') 28 [none, none, none, none, none] [.int s0] h nx 0 0 := by
  unfold F_X12_isNoWorse_28 at e
  exact X.zret dX12_isNoWorse_28 rfl (Nat.le_of_ble_eq_true rfl) (Nat.le_of_ble_eq_true rfl) e
noncomputable def F_X12_isNoWorse (G : Gx) (h : Hp) (nx : Nat) (a0 : Nat) (a1 : Int32) (a2 : Int32) : Rz Int32 :=
ck h a0 [12] (fun _ =>
cl (F_X12_bestBy G h nx a0 a1 a2) (fun r1 h2 n3 =>
gfR h2 a0 [12] 15 (fun v4 =>
nn v4 (fun p5 =>
alJ (g_c G 1) h2 p5 a2 (fun v6 =>
gfR h2 a0 [12] 16 (fun v7 =>
nn v7 (fun p8 =>
alJ (g_c G 1) h2 p8 a2 (fun v9 =>
if ((lg_cmp v6 v9)) < 0 then
(F_X12_isNoWorse_28 G h2 n3 (nI 0))
else
(F_X12_isNoWorse_28 G h2 n3 (nI 1))))))))))
set_option maxRecDepth 100000 in
set_option maxHeartbeats 4000000 in
theorem k_X12_isNoWorse {G : Gx} {d : Nat} {h : Hp} {nx : Nat} {a0 : Nat} {a1 : Int32} {a2 : Int32} {v' : Int32} {h' : Hp} {n' : Nat} (e : F_X12_isNoWorse G h nx a0 a1 a2 = some (v', h', n')) : Ct G mX12_isNoWorse (d + 68) (Same (some (.int v')) h' n') [.ref a0, .int a1, .int a2] h nx := by
  unfold F_X12_isNoWorse at e
  refine Ct.of (ls := [some (.ref a0), some (.int a1), some (.int a2), none, none]) (by decide +kernel) rfl (Nat.le_of_ble_eq_true rfl) rfl ?_
  refine Ok.aload_n dX12_isNoWorse_0 rfl ?_
  refine Ok.iload_n dX12_isNoWorse_1 rfl ?_
  refine Ok.iload_n dX12_isNoWorse_2 rfl ?_
  refine X.rck e (fun c fs hb hc e1 => ?_)
  clear e
  obtain rfl := List.mem_singleton.mp hc
  refine X.callV (My := mX12_bestBy) (n := 2) (As := [.int a1, .int a2]) (T := (fun v => (some (.long v)))) (stk' := (fun v => [.long v])) (rest := []) (kc' := 0) (ks' := 0) dX12_isNoWorse_3 e1 (fun v h n e => k_X12_bestBy (d := d + 0) e) hb rfl wd1323 wd80 wd1322 wd45 wd1320 (by decide +kernel) rfl (by decide) rfl rfl (Nat.le_of_ble_eq_true rfl) (Nat.le_of_ble_eq_true rfl) (Nat.le_of_ble_eq_true rfl) rfl rfl (fun _ => rfl) (fun r1 h2 n3 e2 => ?_)
  clear e1
  refine XL.lstore_n dX12_isNoWorse_6 (by decide) (L := [some (.ref a0), some (.int a1), some (.int a2), some (.long r1), none]) rfl ?_
  refine Ok.aload_n dX12_isNoWorse_7 rfl ?_
  refine X.rgfR fl_RX12_36 dX12_isNoWorse_8 e2 (fun v4 e3 => ?_)
  clear e2
  refine Ok.iload_n dX12_isNoWorse_11 rfl ?_
  refine X.rnn e3 (fun p5 q e4 => ?_)
  clear e3
  subst q
  refine X.lald dX12_isNoWorse_12 e4 (fun v6 e5 => ?_)
  clear e4
  refine Ok.aload_n dX12_isNoWorse_13 rfl ?_
  refine X.rgfR fl_RX12_39 dX12_isNoWorse_14 e5 (fun v7 e6 => ?_)
  clear e5
  refine Ok.iload_n dX12_isNoWorse_17 rfl ?_
  refine X.rnn e6 (fun p8 q e7 => ?_)
  clear e6
  subst q
  refine X.lald dX12_isNoWorse_18 e7 (fun v9 e8 => ?_)
  clear e7
  refine Ok.lcmp dX12_isNoWorse_19 ?_
  refine X.if_lt (tgt := 27) dX12_isNoWorse_20 (by decide) e8 (fun e9 => ?_) (fun e9 => ?_)
  · clear e8
    refine Ok.iconstV (v := (nI 0)) dX12_isNoWorse_27 (by decide +kernel) ?_
    exact Ok.weakL (k_X12_isNoWorse_28 (d := d) e9) trivial
  · clear e8
    refine Ok.iconstV (v := (nI 1)) dX12_isNoWorse_23 (by decide +kernel) ?_
    refine Ok.goto (tgt := 28) dX12_isNoWorse_24 (by decide) ?_
    exact Ok.weakL (k_X12_isNoWorse_28 (d := d) e9) trivial
noncomputable def F_X12_numberOf_7 (G : Gx) : Nat → Hp → Nat → Nat → Int32 → Int32 → Rz Int32 := fun n => Nat.rec (motive := fun _ => Hp → Nat → Nat → Int32 → Int32 → Rz Int32) (fun _ _ _ _ _ => none) (fun _ k7 => fun h nx l0 l2 l3 =>
if (nI 200) < l3 then
some ((-5 : Int32), h, nx)
else
ck h l0 [12] (fun _ =>
cl (F_X12_isNoWorse G h nx l0 l3 l2) (fun r1 h2 n3 =>
if r1 = 0 then
nm (l3 + (nI 1)) (fun v4 =>
(k7 h2 n3 l0 l2 v4))
else
some (l3, h2, n3)))) n
theorem F_X12_numberOf_7_0 {G : Gx} {h : Hp} {nx : Nat} {l0 : Nat} {l2 : Int32} {l3 : Int32} : F_X12_numberOf_7 G 0 h nx l0 l2 l3 = none := rfl
theorem F_X12_numberOf_7_s {G : Gx} {n : Nat} {h : Hp} {nx : Nat} {l0 : Nat} {l2 : Int32} {l3 : Int32} : F_X12_numberOf_7 G (n + 1) h nx l0 l2 l3 = (
if (nI 200) < l3 then
some ((-5 : Int32), h, nx)
else
ck h l0 [12] (fun _ =>
cl (F_X12_isNoWorse G h nx l0 l3 l2) (fun r1 h2 n3 =>
if r1 = 0 then
nm (l3 + (nI 1)) (fun v4 =>
((F_X12_numberOf_7 G n) h2 n3 l0 l2 v4))
else
some (l3, h2, n3)))) := rfl
set_option maxRecDepth 100000 in
set_option maxHeartbeats 4000000 in
theorem k_X12_numberOf_7 {G : Gx} {d : Nat} {v' : Int32} {h' : Hp} {n' : Nat} : ∀ (n : Nat) {h : Hp} {nx : Nat} {l0 : Nat} {l2 : Int32} {l3 : Int32}, F_X12_numberOf_7 G n h nx l0 l2 l3 = some (v', h', n') → Ok G mX12_numberOf (d + 69) (Same (some (.int v')) h' n') 7 [some (.ref l0), none, some (.int l2), some (.int l3)] [] h nx 0 0 := by
  intro n
  induction n with
  | zero =>
    intro h nx l0 l2 l3 e
    rw [F_X12_numberOf_7_0] at e
    cases e
  | succ n K7 =>
    intro h nx l0 l2 l3 e
    rw [F_X12_numberOf_7_s] at e
    refine Ok.iload_n dX12_numberOf_7 rfl ?_
    refine Ok.sipushV (v := (nI 200)) dX12_numberOf_8 (by decide +kernel) ?_
    refine X.icmp_gt (tgt := 31) dX12_numberOf_11 (by decide) e (fun e1 => ?_) (fun e1 => ?_)
    · clear e
      refine Ok.bipushV (v := (-5 : Int32)) dX12_numberOf_31 (by decide +kernel) ?_
      exact X.iret dX12_numberOf_33 rfl (Nat.le_of_ble_eq_true rfl) (Nat.le_of_ble_eq_true rfl) e1
    · clear e
      refine Ok.aload_n dX12_numberOf_14 rfl ?_
      refine Ok.iload_n dX12_numberOf_15 rfl ?_
      refine Ok.iload_n dX12_numberOf_16 rfl ?_
      refine X.rck e1 (fun c fs hb hc e2 => ?_)
      clear e1
      obtain rfl := List.mem_singleton.mp hc
      refine X.callV (My := mX12_isNoWorse) (n := 2) (As := [.int l3, .int l2]) (T := (fun v => (some (.int v)))) (stk' := (fun v => [.int v])) (rest := []) (kc' := 0) (ks' := 0) dX12_numberOf_17 e2 (fun v h n e => k_X12_isNoWorse (d := d + 0) e) hb rfl wd1344 wd80 wd1343 wd49 wd1341 (by decide +kernel) rfl (by decide) rfl rfl (Nat.le_of_ble_eq_true rfl) (Nat.le_of_ble_eq_true rfl) (Nat.le_of_ble_eq_true rfl) rfl rfl (fun _ => rfl) (fun r1 h2 n3 e3 => ?_)
      clear e2
      refine X.if_eq (tgt := 25) dX12_numberOf_20 (by decide) e3 (fun e4 => ?_) (fun e4 => ?_)
      · clear e3
        refine X.iinc dX12_numberOf_25 rfl (by decide) (by decide +kernel) e4 (L := fun v4 => [some (.ref l0), none, some (.int l2), some (.int v4)]) (fun _ => rfl) (fun v4 e5 => ?_)
        clear e4
        refine Ok.goto (tgt := 7) dX12_numberOf_28 (by decide) ?_
        exact Ok.weakL (K7 e5) ⟨rfl, ⟨rfl, ⟨rfl, trivial⟩⟩⟩
      · clear e3
        refine Ok.iload_n dX12_numberOf_23 rfl ?_
        exact X.iret dX12_numberOf_24 rfl (Nat.le_of_ble_eq_true rfl) (Nat.le_of_ble_eq_true rfl) e4
noncomputable def F_X12_numberOf (G : Gx) (h : Hp) (nx : Nat) (a0 : Nat) (a1 : Int32) (a2 : Int32) : Rz Int32 :=
ck h a0 [12] (fun _ =>
cl (F_X12_rowsOf G h nx a0 a1) (fun _ h2 n3 =>
(F_X12_numberOf_7 G fuelL h2 n3 a0 a2 (nI 0))))
set_option maxRecDepth 100000 in
set_option maxHeartbeats 4000000 in
theorem k_X12_numberOf {G : Gx} {d : Nat} {h : Hp} {nx : Nat} {a0 : Nat} {a1 : Int32} {a2 : Int32} {v' : Int32} {h' : Hp} {n' : Nat} (e : F_X12_numberOf G h nx a0 a1 a2 = some (v', h', n')) : Ct G mX12_numberOf (d + 69) (Same (some (.int v')) h' n') [.ref a0, .int a1, .int a2] h nx := by
  unfold F_X12_numberOf at e
  refine Ct.of (ls := [some (.ref a0), some (.int a1), some (.int a2), none]) (by decide +kernel) rfl (Nat.le_of_ble_eq_true rfl) rfl ?_
  refine Ok.aload_n dX12_numberOf_0 rfl ?_
  refine Ok.iload_n dX12_numberOf_1 rfl ?_
  refine X.rck e (fun c fs hb hc e1 => ?_)
  clear e
  obtain rfl := List.mem_singleton.mp hc
  refine X.callV (My := mX12_rowsOf) (n := 1) (As := [.int a1]) (T := (fun v => none)) (stk' := (fun _ => [])) (rest := []) (kc' := 0) (ks' := 0) dX12_numberOf_2 e1 (fun v h n e => k_X12_rowsOf (d := d + 65) e) hb rfl wd1315 wd80 wd1314 wd43 wd1312 (by decide +kernel) rfl (by decide) rfl rfl (Nat.le_of_ble_eq_true rfl) (Nat.le_of_ble_eq_true rfl) (Nat.le_of_ble_eq_true rfl) rfl rfl (fun _ => rfl) (fun _ h2 n3 e2 => ?_)
  clear e1
  refine Ok.iconstV (v := (nI 0)) dX12_numberOf_5 (by decide +kernel) ?_
  refine XL.istore_n dX12_numberOf_6 (by decide) (L := [some (.ref a0), some (.int a1), some (.int a2), some (.int (nI 0))]) rfl ?_
  exact Ok.weakL (k_X12_numberOf_7 (d := d) fuelL e2) ⟨rfl, ⟨rfl, ⟨rfl, trivial⟩⟩⟩
noncomputable def F_X12_number_31 (G : Gx) (h : Hp) (nx : Nat) (s0 : Int32) : Rz Int32 :=
some (s0, h, nx)
set_option maxRecDepth 100000 in
set_option maxHeartbeats 4000000 in
theorem k_X12_number_31 {G : Gx} {d : Nat} {v' : Int32} {h' : Hp} {n' : Nat} {h : Hp} {nx : Nat} {s0 : Int32} (e : F_X12_number_31 G h nx s0 = some (v', h', n')) : Ok G mX12_number (d + 70) (Same (some (.int v')) h' n') 31 [none, none, none] [.int s0] h nx 0 0 := by
  unfold F_X12_number_31 at e
  exact X.iret dX12_number_31 rfl (Nat.le_of_ble_eq_true rfl) (Nat.le_of_ble_eq_true rfl) e
noncomputable def F_X12_number (G : Gx) (h : Hp) (nx : Nat) (a0 : Nat) (a1 : Int32) (a2 : Int32) : Rz Int32 :=
ck h a0 [12] (fun _ =>
cl (F_X12_isThing G h nx a0 a1) (fun r1 h2 n3 =>
if r1 = 0 then
some ((-1 : Int32), h2, n3)
else
cl (F_X12_in G h2 n3 a2 (nI 1) (nI 8)) (fun r4 h5 n6 =>
if r4 = 0 then
(F_X12_number_31 G h5 n6 (-2 : Int32))
else
ck h5 a0 [12] (fun _ =>
cl (F_X12_numberOf G h5 n6 a0 a1 a2) (fun r7 h8 n9 =>
(F_X12_number_31 G h8 n9 r7))))))
set_option maxRecDepth 100000 in
set_option maxHeartbeats 4000000 in
theorem k_X12_number {G : Gx} {d : Nat} {h : Hp} {nx : Nat} {a0 : Nat} {a1 : Int32} {a2 : Int32} {v' : Int32} {h' : Hp} {n' : Nat} (e : F_X12_number G h nx a0 a1 a2 = some (v', h', n')) : Ct G mX12_number (d + 70) (Same (some (.int v')) h' n') [.ref a0, .int a1, .int a2] h nx := by
  unfold F_X12_number at e
  refine Ct.of (ls := [some (.ref a0), some (.int a1), some (.int a2)]) (by decide +kernel) rfl (Nat.le_of_ble_eq_true rfl) rfl ?_
  refine Ok.aload_n dX12_number_0 rfl ?_
  refine Ok.iload_n dX12_number_1 rfl ?_
  refine X.rck e (fun c fs hb hc e1 => ?_)
  clear e
  obtain rfl := List.mem_singleton.mp hc
  refine X.callV (My := mX12_isThing) (n := 1) (As := [.int a1]) (T := (fun v => (some (.int v)))) (stk' := (fun v => [.int v])) (rest := []) (kc' := 0) (ks' := 0) dX12_number_2 e1 (fun v h n e => k_X12_isThing (d := d + 68) e) hb rfl wd1278 wd80 wd1277 wd38 wd1275 (by decide +kernel) rfl (by decide) rfl rfl (Nat.le_of_ble_eq_true rfl) (Nat.le_of_ble_eq_true rfl) (Nat.le_of_ble_eq_true rfl) rfl rfl (fun _ => rfl) (fun r1 h2 n3 e2 => ?_)
  clear e1
  refine X.if_ne (tgt := 10) dX12_number_5 (by decide) e2 (fun e3 => ?_) (fun e3 => ?_)
  · clear e2
    refine Ok.iload_n dX12_number_10 rfl ?_
    refine Ok.iconstV (v := (nI 1)) dX12_number_11 (by decide +kernel) ?_
    refine Ok.bipushV (v := (nI 8)) dX12_number_12 (by decide +kernel) ?_
    refine X.callS (My := mX12_in) (n := 3) (As := [.int a2, .int (nI 1), .int (nI 8)]) (T := (fun v => (some (.int v)))) (stk' := (fun v => [.int v])) (rest := []) (kc' := 0) (ks' := 0) dX12_number_14 e3 (fun v h n e => k_X12_in (d := d + 69) e) wd1196 wd80 wd1195 wd1194 (by decide +kernel) rfl (by decide) rfl rfl (Nat.le_of_ble_eq_true rfl) (Nat.le_of_ble_eq_true rfl) (Nat.le_of_ble_eq_true rfl) rfl rfl (fun _ => rfl) (fun r4 h5 n6 e4 => ?_)
    clear e3
    refine X.if_eq (tgt := 29) dX12_number_17 (by decide) e4 (fun e5 => ?_) (fun e5 => ?_)
    · clear e4
      refine Ok.bipushV (v := (-2 : Int32)) dX12_number_29 (by decide +kernel) ?_
      exact Ok.weakL (k_X12_number_31 (d := d) e5) trivial
    · clear e4
      refine Ok.aload_n dX12_number_20 rfl ?_
      refine Ok.iload_n dX12_number_21 rfl ?_
      refine Ok.iload_n dX12_number_22 rfl ?_
      refine X.rck e5 (fun c fs hb hc e6 => ?_)
      clear e5
      obtain rfl := List.mem_singleton.mp hc
      refine X.callV (My := mX12_numberOf) (n := 2) (As := [.int a1, .int a2]) (T := (fun v => (some (.int v)))) (stk' := (fun v => [.int v])) (rest := []) (kc' := 0) (ks' := 0) dX12_number_23 e6 (fun v h n e => k_X12_numberOf (d := d + 0) e) hb rfl wd1340 wd80 wd1339 wd48 wd1337 (by decide +kernel) rfl (by decide) rfl rfl (Nat.le_of_ble_eq_true rfl) (Nat.le_of_ble_eq_true rfl) (Nat.le_of_ble_eq_true rfl) rfl rfl (fun _ => rfl) (fun r7 h8 n9 e7 => ?_)
      clear e6
      refine Ok.goto (tgt := 31) dX12_number_26 (by decide) ?_
      exact Ok.weakL (k_X12_number_31 (d := d) e7) trivial
  · clear e2
    refine Ok.iconstV (v := (-1 : Int32)) dX12_number_8 (by decide +kernel) ?_
    exact X.iret dX12_number_9 rfl (Nat.le_of_ble_eq_true rfl) (Nat.le_of_ble_eq_true rfl) e3
noncomputable def F_X12_such_44 (G : Gx) : Nat → Hp → Nat → Nat → Int32 → Int32 → Rz Int32 := fun n => Nat.rec (motive := fun _ => Hp → Nat → Nat → Int32 → Int32 → Rz Int32) (fun _ _ _ _ _ => none) (fun _ k44 => fun h nx l0 l2 l4 =>
if (nI 200) < l4 then
some ((nI 1), h, nx)
else
ck h l0 [12] (fun _ =>
cl (F_X12_isNoWorse G h nx l0 l4 l2) (fun r1 h2 n3 =>
if r1 = 0 then
some ((nI 0), h2, n3)
else
nm (l4 + (nI 1)) (fun v4 =>
(k44 h2 n3 l0 l2 v4))))) n
theorem F_X12_such_44_0 {G : Gx} {h : Hp} {nx : Nat} {l0 : Nat} {l2 : Int32} {l4 : Int32} : F_X12_such_44 G 0 h nx l0 l2 l4 = none := rfl
theorem F_X12_such_44_s {G : Gx} {n : Nat} {h : Hp} {nx : Nat} {l0 : Nat} {l2 : Int32} {l4 : Int32} : F_X12_such_44 G (n + 1) h nx l0 l2 l4 = (
if (nI 200) < l4 then
some ((nI 1), h, nx)
else
ck h l0 [12] (fun _ =>
cl (F_X12_isNoWorse G h nx l0 l4 l2) (fun r1 h2 n3 =>
if r1 = 0 then
some ((nI 0), h2, n3)
else
nm (l4 + (nI 1)) (fun v4 =>
((F_X12_such_44 G n) h2 n3 l0 l2 v4))))) := rfl
set_option maxRecDepth 100000 in
set_option maxHeartbeats 4000000 in
theorem k_X12_such_44 {G : Gx} {d : Nat} {v' : Int32} {h' : Hp} {n' : Nat} : ∀ (n : Nat) {h : Hp} {nx : Nat} {l0 : Nat} {l2 : Int32} {l4 : Int32}, F_X12_such_44 G n h nx l0 l2 l4 = some (v', h', n') → Ok G mX12_such (d + 70) (Same (some (.int v')) h' n') 44 [some (.ref l0), none, some (.int l2), none, some (.int l4)] [] h nx 0 0 := by
  intro n
  induction n with
  | zero =>
    intro h nx l0 l2 l4 e
    rw [F_X12_such_44_0] at e
    cases e
  | succ n K44 =>
    intro h nx l0 l2 l4 e
    rw [F_X12_such_44_s] at e
    refine Ok.iload dX12_such_44 rfl ?_
    refine Ok.sipushV (v := (nI 200)) dX12_such_46 (by decide +kernel) ?_
    refine X.icmp_gt (tgt := 70) dX12_such_49 (by decide) e (fun e1 => ?_) (fun e1 => ?_)
    · clear e
      refine Ok.iconstV (v := (nI 1)) dX12_such_70 (by decide +kernel) ?_
      exact X.iret dX12_such_71 rfl (Nat.le_of_ble_eq_true rfl) (Nat.le_of_ble_eq_true rfl) e1
    · clear e
      refine Ok.aload_n dX12_such_52 rfl ?_
      refine Ok.iload dX12_such_53 rfl ?_
      refine Ok.iload_n dX12_such_55 rfl ?_
      refine X.rck e1 (fun c fs hb hc e2 => ?_)
      clear e1
      obtain rfl := List.mem_singleton.mp hc
      refine X.callV (My := mX12_isNoWorse) (n := 2) (As := [.int l4, .int l2]) (T := (fun v => (some (.int v)))) (stk' := (fun v => [.int v])) (rest := []) (kc' := 0) (ks' := 0) dX12_such_56 e2 (fun v h n e => k_X12_isNoWorse (d := d + 1) e) hb rfl wd1344 wd80 wd1343 wd49 wd1341 (by decide +kernel) rfl (by decide) rfl rfl (Nat.le_of_ble_eq_true rfl) (Nat.le_of_ble_eq_true rfl) (Nat.le_of_ble_eq_true rfl) rfl rfl (fun _ => rfl) (fun r1 h2 n3 e3 => ?_)
      clear e2
      refine X.if_ne (tgt := 64) dX12_such_59 (by decide) e3 (fun e4 => ?_) (fun e4 => ?_)
      · clear e3
        refine X.iinc dX12_such_64 rfl (by decide) (by decide +kernel) e4 (L := fun v4 => [some (.ref l0), none, some (.int l2), none, some (.int v4)]) (fun _ => rfl) (fun v4 e5 => ?_)
        clear e4
        refine Ok.goto (tgt := 44) dX12_such_67 (by decide) ?_
        exact Ok.weakL (K44 e5) ⟨rfl, ⟨rfl, ⟨rfl, trivial⟩⟩⟩
      · clear e3
        refine Ok.iconstV (v := (nI 0)) dX12_such_62 (by decide +kernel) ?_
        exact X.iret dX12_such_63 rfl (Nat.le_of_ble_eq_true rfl) (Nat.le_of_ble_eq_true rfl) e4
noncomputable def F_X12_such (G : Gx) (h : Hp) (nx : Nat) (a0 : Nat) (a1 : Int32) (a2 : Int32) : Rz Int32 :=
ck h a0 [12] (fun _ =>
cl (F_X12_isThing G h nx a0 a1) (fun r1 h2 n3 =>
if r1 = 0 then
some ((-1 : Int32), h2, n3)
else
cl (F_X12_in G h2 n3 a2 (nI 1) (nI 8)) (fun r4 h5 n6 =>
if r4 = 0 then
some ((-2 : Int32), h5, n6)
else
ck h5 a0 [12] (fun _ =>
cl (F_X12_numberOf G h5 n6 a0 a1 a2) (fun r7 h8 n9 =>
if r7 = (-5 : Int32) then
some ((-5 : Int32), h8, n9)
else
nm ((r7 + (nI 1))) (fun v10 =>
(F_X12_such_44 G fuelL h8 n9 a0 a2 v10)))))))
set_option maxRecDepth 100000 in
set_option maxHeartbeats 4000000 in
theorem k_X12_such {G : Gx} {d : Nat} {h : Hp} {nx : Nat} {a0 : Nat} {a1 : Int32} {a2 : Int32} {v' : Int32} {h' : Hp} {n' : Nat} (e : F_X12_such G h nx a0 a1 a2 = some (v', h', n')) : Ct G mX12_such (d + 70) (Same (some (.int v')) h' n') [.ref a0, .int a1, .int a2] h nx := by
  unfold F_X12_such at e
  refine Ct.of (ls := [some (.ref a0), some (.int a1), some (.int a2), none, none]) (by decide +kernel) rfl (Nat.le_of_ble_eq_true rfl) rfl ?_
  refine Ok.aload_n dX12_such_0 rfl ?_
  refine Ok.iload_n dX12_such_1 rfl ?_
  refine X.rck e (fun c fs hb hc e1 => ?_)
  clear e
  obtain rfl := List.mem_singleton.mp hc
  refine X.callV (My := mX12_isThing) (n := 1) (As := [.int a1]) (T := (fun v => (some (.int v)))) (stk' := (fun v => [.int v])) (rest := []) (kc' := 0) (ks' := 0) dX12_such_2 e1 (fun v h n e => k_X12_isThing (d := d + 68) e) hb rfl wd1278 wd80 wd1277 wd38 wd1275 (by decide +kernel) rfl (by decide) rfl rfl (Nat.le_of_ble_eq_true rfl) (Nat.le_of_ble_eq_true rfl) (Nat.le_of_ble_eq_true rfl) rfl rfl (fun _ => rfl) (fun r1 h2 n3 e2 => ?_)
  clear e1
  refine X.if_ne (tgt := 10) dX12_such_5 (by decide) e2 (fun e3 => ?_) (fun e3 => ?_)
  · clear e2
    refine Ok.iload_n dX12_such_10 rfl ?_
    refine Ok.iconstV (v := (nI 1)) dX12_such_11 (by decide +kernel) ?_
    refine Ok.bipushV (v := (nI 8)) dX12_such_12 (by decide +kernel) ?_
    refine X.callS (My := mX12_in) (n := 3) (As := [.int a2, .int (nI 1), .int (nI 8)]) (T := (fun v => (some (.int v)))) (stk' := (fun v => [.int v])) (rest := []) (kc' := 0) (ks' := 0) dX12_such_14 e3 (fun v h n e => k_X12_in (d := d + 69) e) wd1196 wd80 wd1195 wd1194 (by decide +kernel) rfl (by decide) rfl rfl (Nat.le_of_ble_eq_true rfl) (Nat.le_of_ble_eq_true rfl) (Nat.le_of_ble_eq_true rfl) rfl rfl (fun _ => rfl) (fun r4 h5 n6 e4 => ?_)
    clear e3
    refine X.if_ne (tgt := 23) dX12_such_17 (by decide) e4 (fun e5 => ?_) (fun e5 => ?_)
    · clear e4
      refine Ok.aload_n dX12_such_23 rfl ?_
      refine Ok.iload_n dX12_such_24 rfl ?_
      refine Ok.iload_n dX12_such_25 rfl ?_
      refine X.rck e5 (fun c fs hb hc e6 => ?_)
      clear e5
      obtain rfl := List.mem_singleton.mp hc
      refine X.callV (My := mX12_numberOf) (n := 2) (As := [.int a1, .int a2]) (T := (fun v => (some (.int v)))) (stk' := (fun v => [.int v])) (rest := []) (kc' := 0) (ks' := 0) dX12_such_26 e6 (fun v h n e => k_X12_numberOf (d := d + 0) e) hb rfl wd1340 wd80 wd1339 wd48 wd1337 (by decide +kernel) rfl (by decide) rfl rfl (Nat.le_of_ble_eq_true rfl) (Nat.le_of_ble_eq_true rfl) (Nat.le_of_ble_eq_true rfl) rfl rfl (fun _ => rfl) (fun r7 h8 n9 e7 => ?_)
      clear e6
      refine XL.istore_n dX12_such_29 (by decide) (L := [some (.ref a0), some (.int a1), some (.int a2), some (.int r7), none]) rfl ?_
      refine Ok.iload_n dX12_such_30 rfl ?_
      refine Ok.bipushV (v := (-5 : Int32)) dX12_such_31 (by decide +kernel) ?_
      refine X.icmp_ne (tgt := 39) dX12_such_33 (by decide) e7 (fun e8 => ?_) (fun e8 => ?_)
      · clear e7
        refine Ok.iload_n dX12_such_39 rfl ?_
        refine Ok.iconstV (v := (nI 1)) dX12_such_40 (by decide +kernel) ?_
        refine Ok.iadd dX12_such_41 ?_
        refine X.istore dX12_such_42 (by decide) e8 (L := fun v10 => [some (.ref a0), some (.int a1), some (.int a2), some (.int r7), some (.int v10)]) (fun _ => rfl) (fun v10 e9 => ?_)
        clear e8
        exact Ok.weakL (k_X12_such_44 (d := d) fuelL e9) ⟨rfl, ⟨rfl, ⟨rfl, trivial⟩⟩⟩
      · clear e7
        refine Ok.bipushV (v := (-5 : Int32)) dX12_such_36 (by decide +kernel) ?_
        exact X.iret dX12_such_38 rfl (Nat.le_of_ble_eq_true rfl) (Nat.le_of_ble_eq_true rfl) e8
    · clear e4
      refine Ok.bipushV (v := (-2 : Int32)) dX12_such_20 (by decide +kernel) ?_
      exact X.iret dX12_such_22 rfl (Nat.le_of_ble_eq_true rfl) (Nat.le_of_ble_eq_true rfl) e5
  · clear e2
    refine Ok.iconstV (v := (-1 : Int32)) dX12_such_8 (by decide +kernel) ?_
    exact X.iret dX12_such_9 rfl (Nat.le_of_ble_eq_true rfl) (Nat.le_of_ble_eq_true rfl) e3
noncomputable def F_X12_looks (G : Gx) (h : Hp) (nx : Nat) (a0 : Nat) (a1 : Int32) : Rz Int32 :=
cl (F_X12_in G h nx a1 (nI 1) (nI 3)) (fun r1 h2 n3 =>
if r1 = 0 then
some ((-2 : Int32), h2, n3)
else
gfR h2 a0 [12] 1 (fun v4 =>
nn v4 (fun p5 =>
alI (g_c G 0) h2 p5 (nI 4) (fun v6 =>
gfR h2 a0 [12] 1 (fun v7 =>
nn v7 (fun p8 =>
asI (g_c G 0) id h2 p8 (nI 4) a1 (fun h9 =>
some (v6, h9, n3))))))))
set_option maxRecDepth 100000 in
set_option maxHeartbeats 4000000 in
theorem k_X12_looks {G : Gx} {d : Nat} {h : Hp} {nx : Nat} {a0 : Nat} {a1 : Int32} {v' : Int32} {h' : Hp} {n' : Nat} (e : F_X12_looks G h nx a0 a1 = some (v', h', n')) : Ct G mX12_looks (d + 1) (Same (some (.int v')) h' n') [.ref a0, .int a1] h nx := by
  unfold F_X12_looks at e
  refine Ct.of (ls := [some (.ref a0), some (.int a1), none]) (by decide +kernel) rfl (Nat.le_of_ble_eq_true rfl) rfl ?_
  refine Ok.iload_n dX12_looks_0 rfl ?_
  refine Ok.iconstV (v := (nI 1)) dX12_looks_1 (by decide +kernel) ?_
  refine Ok.iconstV (v := (nI 3)) dX12_looks_2 (by decide +kernel) ?_
  refine X.callS (My := mX12_in) (n := 3) (As := [.int a1, .int (nI 1), .int (nI 3)]) (T := (fun v => (some (.int v)))) (stk' := (fun v => [.int v])) (rest := []) (kc' := 0) (ks' := 0) dX12_looks_3 e (fun v h n e => k_X12_in (d := d + 0) e) wd1196 wd80 wd1195 wd1194 (by decide +kernel) rfl (by decide) rfl rfl (Nat.le_of_ble_eq_true rfl) (Nat.le_of_ble_eq_true rfl) (Nat.le_of_ble_eq_true rfl) rfl rfl (fun _ => rfl) (fun r1 h2 n3 e1 => ?_)
  clear e
  refine X.if_ne (tgt := 12) dX12_looks_6 (by decide) e1 (fun e2 => ?_) (fun e2 => ?_)
  · clear e1
    refine Ok.aload_n dX12_looks_12 rfl ?_
    refine X.rgfR fl_RX12_9 dX12_looks_13 e2 (fun v4 e3 => ?_)
    clear e2
    refine Ok.iconstV (v := (nI 4)) dX12_looks_16 (by decide +kernel) ?_
    refine X.rnn e3 (fun p5 q e4 => ?_)
    clear e3
    subst q
    refine X.iald dX12_looks_17 e4 (fun v6 e5 => ?_)
    clear e4
    refine XL.istore_n dX12_looks_18 (by decide) (L := [some (.ref a0), some (.int a1), some (.int v6)]) rfl ?_
    refine Ok.aload_n dX12_looks_19 rfl ?_
    refine X.rgfR fl_RX12_9 dX12_looks_20 e5 (fun v7 e6 => ?_)
    clear e5
    refine Ok.iconstV (v := (nI 4)) dX12_looks_23 (by decide +kernel) ?_
    refine Ok.iload_n dX12_looks_24 rfl ?_
    refine X.rnn e6 (fun p8 q e7 => ?_)
    clear e6
    subst q
    refine X.iast dX12_looks_25 e7 (fun h9 e8 => ?_)
    clear e7
    refine Ok.iload_n dX12_looks_26 rfl ?_
    exact X.iret dX12_looks_27 rfl (Nat.le_of_ble_eq_true rfl) (Nat.le_of_ble_eq_true rfl) e8
  · clear e1
    refine Ok.bipushV (v := (-2 : Int32)) dX12_looks_9 (by decide +kernel) ?_
    exact X.iret dX12_looks_11 rfl (Nat.le_of_ble_eq_true rfl) (Nat.le_of_ble_eq_true rfl) e2
noncomputable def F_X12_looking_30 (G : Gx) (h : Hp) (nx : Nat) (s0 : Int32) : Rz Int32 :=
some (s0, h, nx)
set_option maxRecDepth 100000 in
set_option maxHeartbeats 4000000 in
theorem k_X12_looking_30 {G : Gx} {d : Nat} {v' : Int32} {h' : Hp} {n' : Nat} {h : Hp} {nx : Nat} {s0 : Int32} (e : F_X12_looking_30 G h nx s0 = some (v', h', n')) : Ok G mX12_looking (d + 0) (Same (some (.int v')) h' n') 30 [none] [.int s0] h nx 0 0 := by
  unfold F_X12_looking_30 at e
  exact X.iret dX12_looking_30 rfl (Nat.le_of_ble_eq_true rfl) (Nat.le_of_ble_eq_true rfl) e
noncomputable def F_X12_looking (G : Gx) (h : Hp) (nx : Nat) (a0 : Nat) : Rz Int32 :=
gfR h a0 [12] 1 (fun v1 =>
nn v1 (fun p2 =>
alI (g_c G 0) h p2 (nI 4) (fun v3 =>
gfR h a0 [12] 1 (fun v4 =>
nn v4 (fun p5 =>
alI (g_c G 0) h p5 (nI 1) (fun v6 =>
if v6 ≤ v3 then
gfR h a0 [12] 1 (fun v7 =>
nn v7 (fun p8 =>
alI (g_c G 0) h p8 (nI 1) (fun v9 =>
(F_X12_looking_30 G h nx v9))))
else
gfR h a0 [12] 1 (fun v10 =>
nn v10 (fun p11 =>
alI (g_c G 0) h p11 (nI 4) (fun v12 =>
(F_X12_looking_30 G h nx v12))))))))))
set_option maxRecDepth 100000 in
set_option maxHeartbeats 4000000 in
theorem k_X12_looking {G : Gx} {d : Nat} {h : Hp} {nx : Nat} {a0 : Nat} {v' : Int32} {h' : Hp} {n' : Nat} (e : F_X12_looking G h nx a0 = some (v', h', n')) : Ct G mX12_looking (d + 0) (Same (some (.int v')) h' n') [.ref a0] h nx := by
  unfold F_X12_looking at e
  refine Ct.of (ls := [some (.ref a0)]) (by decide +kernel) rfl (Nat.le_of_ble_eq_true rfl) rfl ?_
  refine Ok.aload_n dX12_looking_0 rfl ?_
  refine X.rgfR fl_RX12_9 dX12_looking_1 e (fun v1 e1 => ?_)
  clear e
  refine Ok.iconstV (v := (nI 4)) dX12_looking_4 (by decide +kernel) ?_
  refine X.rnn e1 (fun p2 q e2 => ?_)
  clear e1
  subst q
  refine X.iald dX12_looking_5 e2 (fun v3 e3 => ?_)
  clear e2
  refine Ok.aload_n dX12_looking_6 rfl ?_
  refine X.rgfR fl_RX12_9 dX12_looking_7 e3 (fun v4 e4 => ?_)
  clear e3
  refine Ok.iconstV (v := (nI 1)) dX12_looking_10 (by decide +kernel) ?_
  refine X.rnn e4 (fun p5 q e5 => ?_)
  clear e4
  subst q
  refine X.iald dX12_looking_11 e5 (fun v6 e6 => ?_)
  clear e5
  refine X.icmp_ge (tgt := 24) dX12_looking_12 (by decide) e6 (fun e7 => ?_) (fun e7 => ?_)
  · clear e6
    refine Ok.aload_n dX12_looking_24 rfl ?_
    refine X.rgfR fl_RX12_9 dX12_looking_25 e7 (fun v7 e8 => ?_)
    clear e7
    refine Ok.iconstV (v := (nI 1)) dX12_looking_28 (by decide +kernel) ?_
    refine X.rnn e8 (fun p8 q e9 => ?_)
    clear e8
    subst q
    refine X.iald dX12_looking_29 e9 (fun v9 e10 => ?_)
    clear e9
    exact Ok.weakL (k_X12_looking_30 (d := d) e10) trivial
  · clear e6
    refine Ok.aload_n dX12_looking_15 rfl ?_
    refine X.rgfR fl_RX12_9 dX12_looking_16 e7 (fun v10 e8 => ?_)
    clear e7
    refine Ok.iconstV (v := (nI 4)) dX12_looking_19 (by decide +kernel) ?_
    refine X.rnn e8 (fun p11 q e9 => ?_)
    clear e8
    subst q
    refine X.iald dX12_looking_20 e9 (fun v12 e10 => ?_)
    clear e9
    refine Ok.goto (tgt := 30) dX12_looking_21 (by decide) ?_
    exact Ok.weakL (k_X12_looking_30 (d := d) e10) trivial
noncomputable def F_X12_plan (G : Gx) (h : Hp) (nx : Nat) (a0 : Nat) (a1 : Int32) (a2 : Int32) : Rz Int32 :=
cl (F_X12_in G h nx a1 (nI 0) (nI 6)) (fun r1 h2 n3 =>
if r1 = 0 then
some ((-1 : Int32), h2, n3)
else
cl (F_X12_in G h2 n3 a2 (nI 0) (nI 99)) (fun r4 h5 n6 =>
if r4 = 0 then
some ((-2 : Int32), h5, n6)
else
gfR h5 a0 [12] 1 (fun v7 =>
nn v7 (fun p8 =>
alI (g_c G 0) h5 p8 (nI 2) (fun v9 =>
if v9 = (nI 12) then
some ((-4 : Int32), h5, n6)
else
gfR h5 a0 [12] 1 (fun v10 =>
nn v10 (fun p11 =>
alI (g_c G 0) h5 p11 (nI 2) (fun v12 =>
gfR h5 a0 [12] 1 (fun v13 =>
nn v13 (fun p14 =>
asI (g_c G 0) id h5 p14 (((nI 1070) + v12)) a1 (fun h15 =>
gfR h15 a0 [12] 1 (fun v16 =>
nn v16 (fun p17 =>
asI (g_c G 0) id h15 p17 (((nI 1082) + v12)) a2 (fun h18 =>
gfR h18 a0 [12] 1 (fun v19 =>
nn v19 (fun p20 =>
asI (g_c G 0) id h18 p20 (((nI 1094) + v12)) (nI 0) (fun h21 =>
gfR h21 a0 [12] 1 (fun v22 =>
nn v22 (fun p23 =>
alI (g_c G 0) h21 p23 (nI 2) (fun v24 =>
asI (g_c G 0) id h21 p23 (nI 2) ((v24 + (nI 1))) (fun h25 =>
some (v12, h25, n6))))))))))))))))))))))
set_option maxRecDepth 100000 in
set_option maxHeartbeats 4000000 in
theorem k_X12_plan {G : Gx} {d : Nat} {h : Hp} {nx : Nat} {a0 : Nat} {a1 : Int32} {a2 : Int32} {v' : Int32} {h' : Hp} {n' : Nat} (e : F_X12_plan G h nx a0 a1 a2 = some (v', h', n')) : Ct G mX12_plan (d + 1) (Same (some (.int v')) h' n') [.ref a0, .int a1, .int a2] h nx := by
  unfold F_X12_plan at e
  refine Ct.of (ls := [some (.ref a0), some (.int a1), some (.int a2), none]) (by decide +kernel) rfl (Nat.le_of_ble_eq_true rfl) rfl ?_
  refine Ok.iload_n dX12_plan_0 rfl ?_
  refine Ok.iconstV (v := (nI 0)) dX12_plan_1 (by decide +kernel) ?_
  refine Ok.bipushV (v := (nI 6)) dX12_plan_2 (by decide +kernel) ?_
  refine X.callS (My := mX12_in) (n := 3) (As := [.int a1, .int (nI 0), .int (nI 6)]) (T := (fun v => (some (.int v)))) (stk' := (fun v => [.int v])) (rest := []) (kc' := 0) (ks' := 0) dX12_plan_4 e (fun v h n e => k_X12_in (d := d + 0) e) wd1196 wd80 wd1195 wd1194 (by decide +kernel) rfl (by decide) rfl rfl (Nat.le_of_ble_eq_true rfl) (Nat.le_of_ble_eq_true rfl) (Nat.le_of_ble_eq_true rfl) rfl rfl (fun _ => rfl) (fun r1 h2 n3 e1 => ?_)
  clear e
  refine X.if_ne (tgt := 12) dX12_plan_7 (by decide) e1 (fun e2 => ?_) (fun e2 => ?_)
  · clear e1
    refine Ok.iload_n dX12_plan_12 rfl ?_
    refine Ok.iconstV (v := (nI 0)) dX12_plan_13 (by decide +kernel) ?_
    refine Ok.bipushV (v := (nI 99)) dX12_plan_14 (by decide +kernel) ?_
    refine X.callS (My := mX12_in) (n := 3) (As := [.int a2, .int (nI 0), .int (nI 99)]) (T := (fun v => (some (.int v)))) (stk' := (fun v => [.int v])) (rest := []) (kc' := 0) (ks' := 0) dX12_plan_16 e2 (fun v h n e => k_X12_in (d := d + 0) e) wd1196 wd80 wd1195 wd1194 (by decide +kernel) rfl (by decide) rfl rfl (Nat.le_of_ble_eq_true rfl) (Nat.le_of_ble_eq_true rfl) (Nat.le_of_ble_eq_true rfl) rfl rfl (fun _ => rfl) (fun r4 h5 n6 e3 => ?_)
    clear e2
    refine X.if_ne (tgt := 25) dX12_plan_19 (by decide) e3 (fun e4 => ?_) (fun e4 => ?_)
    · clear e3
      refine Ok.aload_n dX12_plan_25 rfl ?_
      refine X.rgfR fl_RX12_9 dX12_plan_26 e4 (fun v7 e5 => ?_)
      clear e4
      refine Ok.iconstV (v := (nI 2)) dX12_plan_29 (by decide +kernel) ?_
      refine X.rnn e5 (fun p8 q e6 => ?_)
      clear e5
      subst q
      refine X.iald dX12_plan_30 e6 (fun v9 e7 => ?_)
      clear e6
      refine Ok.bipushV (v := (nI 12)) dX12_plan_31 (by decide +kernel) ?_
      refine X.icmp_ne (tgt := 39) dX12_plan_33 (by decide) e7 (fun e8 => ?_) (fun e8 => ?_)
      · clear e7
        refine Ok.aload_n dX12_plan_39 rfl ?_
        refine X.rgfR fl_RX12_9 dX12_plan_40 e8 (fun v10 e9 => ?_)
        clear e8
        refine Ok.iconstV (v := (nI 2)) dX12_plan_43 (by decide +kernel) ?_
        refine X.rnn e9 (fun p11 q e10 => ?_)
        clear e9
        subst q
        refine X.iald dX12_plan_44 e10 (fun v12 e11 => ?_)
        clear e10
        refine XL.istore_n dX12_plan_45 (by decide) (L := [some (.ref a0), some (.int a1), some (.int a2), some (.int v12)]) rfl ?_
        refine Ok.aload_n dX12_plan_46 rfl ?_
        refine X.rgfR fl_RX12_9 dX12_plan_47 e11 (fun v13 e12 => ?_)
        clear e11
        refine Ok.sipushV (v := (nI 1070)) dX12_plan_50 (by decide +kernel) ?_
        refine Ok.iload_n dX12_plan_53 rfl ?_
        refine Ok.iadd dX12_plan_54 ?_
        refine Ok.iload_n dX12_plan_55 rfl ?_
        refine X.rnn e12 (fun p14 q e13 => ?_)
        clear e12
        subst q
        refine X.iast dX12_plan_56 e13 (fun h15 e14 => ?_)
        clear e13
        refine Ok.aload_n dX12_plan_57 rfl ?_
        refine X.rgfR fl_RX12_9 dX12_plan_58 e14 (fun v16 e15 => ?_)
        clear e14
        refine Ok.sipushV (v := (nI 1082)) dX12_plan_61 (by decide +kernel) ?_
        refine Ok.iload_n dX12_plan_64 rfl ?_
        refine Ok.iadd dX12_plan_65 ?_
        refine Ok.iload_n dX12_plan_66 rfl ?_
        refine X.rnn e15 (fun p17 q e16 => ?_)
        clear e15
        subst q
        refine X.iast dX12_plan_67 e16 (fun h18 e17 => ?_)
        clear e16
        refine Ok.aload_n dX12_plan_68 rfl ?_
        refine X.rgfR fl_RX12_9 dX12_plan_69 e17 (fun v19 e18 => ?_)
        clear e17
        refine Ok.sipushV (v := (nI 1094)) dX12_plan_72 (by decide +kernel) ?_
        refine Ok.iload_n dX12_plan_75 rfl ?_
        refine Ok.iadd dX12_plan_76 ?_
        refine Ok.iconstV (v := (nI 0)) dX12_plan_77 (by decide +kernel) ?_
        refine X.rnn e18 (fun p20 q e19 => ?_)
        clear e18
        subst q
        refine X.iast dX12_plan_78 e19 (fun h21 e20 => ?_)
        clear e19
        refine Ok.aload_n dX12_plan_79 rfl ?_
        refine X.rgfR fl_RX12_9 dX12_plan_80 e20 (fun v22 e21 => ?_)
        clear e20
        refine Ok.iconstV (v := (nI 2)) dX12_plan_83 (by decide +kernel) ?_
        refine Ok.dup2 dX12_plan_84 rfl (va_rf_cat _) ?_
        refine X.rnn e21 (fun p23 q e22 => ?_)
        clear e21
        subst q
        refine X.iald dX12_plan_85 e22 (fun v24 e23 => ?_)
        clear e22
        refine Ok.iconstV (v := (nI 1)) dX12_plan_86 (by decide +kernel) ?_
        refine Ok.iadd dX12_plan_87 ?_
        refine X.iast dX12_plan_88 e23 (fun h25 e24 => ?_)
        clear e23
        refine Ok.iload_n dX12_plan_89 rfl ?_
        exact X.iret dX12_plan_90 rfl (Nat.le_of_ble_eq_true rfl) (Nat.le_of_ble_eq_true rfl) e24
      · clear e7
        refine Ok.bipushV (v := (-4 : Int32)) dX12_plan_36 (by decide +kernel) ?_
        exact X.iret dX12_plan_38 rfl (Nat.le_of_ble_eq_true rfl) (Nat.le_of_ble_eq_true rfl) e8
    · clear e3
      refine Ok.bipushV (v := (-2 : Int32)) dX12_plan_22 (by decide +kernel) ?_
      exact X.iret dX12_plan_24 rfl (Nat.le_of_ble_eq_true rfl) (Nat.le_of_ble_eq_true rfl) e4
  · clear e1
    refine Ok.iconstV (v := (-1 : Int32)) dX12_plan_10 (by decide +kernel) ?_
    exact X.iret dX12_plan_11 rfl (Nat.le_of_ble_eq_true rfl) (Nat.le_of_ble_eq_true rfl) e2
noncomputable def F_X12_row (G : Gx) (h : Hp) (nx : Nat) (a0 : Nat) (a1 : Int32) (a2 : Int32) : Rz Int32 :=
ck h a0 [12] (fun _ =>
cl (F_X12_isPlan G h nx a0 a1) (fun r1 h2 n3 =>
if r1 = 0 then
some ((-1 : Int32), h2, n3)
else
gfR h2 a0 [12] 1 (fun v4 =>
nn v4 (fun p5 =>
alI (g_c G 0) h2 p5 (nI 1) (fun v6 =>
cl (F_X12_in G h2 n3 a2 (nI 0) (((((nI 1) <<< (v6 &&& 31))) - (nI 1)))) (fun r7 h8 n9 =>
if r7 = 0 then
some ((-2 : Int32), h8, n9)
else
gfR h8 a0 [12] 1 (fun v10 =>
nn v10 (fun p11 =>
alI (g_c G 0) h8 p11 (((nI 1070) + a1)) (fun v12 =>
if v12 = (nI 6) then
gfR h8 a0 [12] 1 (fun v13 =>
nn v13 (fun p14 =>
alI (g_c G 0) h8 p14 (((nI 1094) + a1)) (fun v15 =>
if v15 = (nI 10) then
some ((-4 : Int32), h8, n9)
else
gfR h8 a0 [12] 1 (fun v16 =>
gfR h8 a0 [12] 1 (fun v17 =>
nn v17 (fun p18 =>
alI (g_c G 0) h8 p18 (((nI 1094) + a1)) (fun v19 =>
nn v16 (fun p20 =>
asI (g_c G 0) id h8 p20 (((((nI 1110) + (((nI 10) * a1)))) + v19)) a2 (fun h21 =>
gfR h21 a0 [12] 1 (fun v22 =>
nn v22 (fun p23 =>
alI (g_c G 0) h21 p23 (((nI 1094) + a1)) (fun v24 =>
asI (g_c G 0) id h21 p23 (((nI 1094) + a1)) ((v24 + (nI 1))) (fun h25 =>
gfR h25 a0 [12] 1 (fun v26 =>
nn v26 (fun p27 =>
alI (g_c G 0) h25 p27 (((nI 1094) + a1)) (fun v28 =>
some (v28, h25, n9)))))))))))))))))
else
some ((-3 : Int32), h8, n9))))))))))
set_option maxRecDepth 100000 in
set_option maxHeartbeats 4000000 in
theorem k_X12_row {G : Gx} {d : Nat} {h : Hp} {nx : Nat} {a0 : Nat} {a1 : Int32} {a2 : Int32} {v' : Int32} {h' : Hp} {n' : Nat} (e : F_X12_row G h nx a0 a1 a2 = some (v', h', n')) : Ct G mX12_row (d + 2) (Same (some (.int v')) h' n') [.ref a0, .int a1, .int a2] h nx := by
  unfold F_X12_row at e
  refine Ct.of (ls := [some (.ref a0), some (.int a1), some (.int a2)]) (by decide +kernel) rfl (Nat.le_of_ble_eq_true rfl) rfl ?_
  refine Ok.aload_n dX12_row_0 rfl ?_
  refine Ok.iload_n dX12_row_1 rfl ?_
  refine X.rck e (fun c fs hb hc e1 => ?_)
  clear e
  obtain rfl := List.mem_singleton.mp hc
  refine X.callV (My := mX12_isPlan) (n := 1) (As := [.int a1]) (T := (fun v => (some (.int v)))) (stk' := (fun v => [.int v])) (rest := []) (kc' := 0) (ks' := 0) dX12_row_2 e1 (fun v h n e => k_X12_isPlan (d := d + 0) e) hb rfl wd1364 wd80 wd1363 wd50 wd1361 (by decide +kernel) rfl (by decide) rfl rfl (Nat.le_of_ble_eq_true rfl) (Nat.le_of_ble_eq_true rfl) (Nat.le_of_ble_eq_true rfl) rfl rfl (fun _ => rfl) (fun r1 h2 n3 e2 => ?_)
  clear e1
  refine X.if_ne (tgt := 10) dX12_row_5 (by decide) e2 (fun e3 => ?_) (fun e3 => ?_)
  · clear e2
    refine Ok.iload_n dX12_row_10 rfl ?_
    refine Ok.iconstV (v := (nI 0)) dX12_row_11 (by decide +kernel) ?_
    refine Ok.iconstV (v := (nI 1)) dX12_row_12 (by decide +kernel) ?_
    refine Ok.aload_n dX12_row_13 rfl ?_
    refine X.rgfR fl_RX12_9 dX12_row_14 e3 (fun v4 e4 => ?_)
    clear e3
    refine Ok.iconstV (v := (nI 1)) dX12_row_17 (by decide +kernel) ?_
    refine X.rnn e4 (fun p5 q e5 => ?_)
    clear e4
    subst q
    refine X.iald dX12_row_18 e5 (fun v6 e6 => ?_)
    clear e5
    refine Ok.ishl dX12_row_19 ?_
    refine Ok.iconstV (v := (nI 1)) dX12_row_20 (by decide +kernel) ?_
    refine Ok.isub dX12_row_21 ?_
    refine X.callS (My := mX12_in) (n := 3) (As := [.int a2, .int (nI 0), .int (((((nI 1) <<< (v6 &&& 31))) - (nI 1)))]) (T := (fun v => (some (.int v)))) (stk' := (fun v => [.int v])) (rest := []) (kc' := 0) (ks' := 0) dX12_row_22 e6 (fun v h n e => k_X12_in (d := d + 1) e) wd1196 wd80 wd1195 wd1194 (by decide +kernel) rfl (by decide) rfl rfl (Nat.le_of_ble_eq_true rfl) (Nat.le_of_ble_eq_true rfl) (Nat.le_of_ble_eq_true rfl) rfl rfl (fun _ => rfl) (fun r7 h8 n9 e7 => ?_)
    clear e6
    refine X.if_ne (tgt := 31) dX12_row_25 (by decide) e7 (fun e8 => ?_) (fun e8 => ?_)
    · clear e7
      refine Ok.aload_n dX12_row_31 rfl ?_
      refine X.rgfR fl_RX12_9 dX12_row_32 e8 (fun v10 e9 => ?_)
      clear e8
      refine Ok.sipushV (v := (nI 1070)) dX12_row_35 (by decide +kernel) ?_
      refine Ok.iload_n dX12_row_38 rfl ?_
      refine Ok.iadd dX12_row_39 ?_
      refine X.rnn e9 (fun p11 q e10 => ?_)
      clear e9
      subst q
      refine X.iald dX12_row_40 e10 (fun v12 e11 => ?_)
      clear e10
      refine Ok.bipushV (v := (nI 6)) dX12_row_41 (by decide +kernel) ?_
      refine X.icmp_eq (tgt := 49) dX12_row_43 (by decide) e11 (fun e12 => ?_) (fun e12 => ?_)
      · clear e11
        refine Ok.aload_n dX12_row_49 rfl ?_
        refine X.rgfR fl_RX12_9 dX12_row_50 e12 (fun v13 e13 => ?_)
        clear e12
        refine Ok.sipushV (v := (nI 1094)) dX12_row_53 (by decide +kernel) ?_
        refine Ok.iload_n dX12_row_56 rfl ?_
        refine Ok.iadd dX12_row_57 ?_
        refine X.rnn e13 (fun p14 q e14 => ?_)
        clear e13
        subst q
        refine X.iald dX12_row_58 e14 (fun v15 e15 => ?_)
        clear e14
        refine Ok.bipushV (v := (nI 10)) dX12_row_59 (by decide +kernel) ?_
        refine X.icmp_ne (tgt := 67) dX12_row_61 (by decide) e15 (fun e16 => ?_) (fun e16 => ?_)
        · clear e15
          refine Ok.aload_n dX12_row_67 rfl ?_
          refine X.rgfR fl_RX12_9 dX12_row_68 e16 (fun v16 e17 => ?_)
          clear e16
          refine Ok.sipushV (v := (nI 1110)) dX12_row_71 (by decide +kernel) ?_
          refine Ok.bipushV (v := (nI 10)) dX12_row_74 (by decide +kernel) ?_
          refine Ok.iload_n dX12_row_76 rfl ?_
          refine Ok.imul dX12_row_77 ?_
          refine Ok.iadd dX12_row_78 ?_
          refine Ok.aload_n dX12_row_79 rfl ?_
          refine X.rgfR fl_RX12_9 dX12_row_80 e17 (fun v17 e18 => ?_)
          clear e17
          refine Ok.sipushV (v := (nI 1094)) dX12_row_83 (by decide +kernel) ?_
          refine Ok.iload_n dX12_row_86 rfl ?_
          refine Ok.iadd dX12_row_87 ?_
          refine X.rnn e18 (fun p18 q e19 => ?_)
          clear e18
          subst q
          refine X.iald dX12_row_88 e19 (fun v19 e20 => ?_)
          clear e19
          refine Ok.iadd dX12_row_89 ?_
          refine Ok.iload_n dX12_row_90 rfl ?_
          refine X.rnn e20 (fun p20 q e21 => ?_)
          clear e20
          subst q
          refine X.iast dX12_row_91 e21 (fun h21 e22 => ?_)
          clear e21
          refine Ok.aload_n dX12_row_92 rfl ?_
          refine X.rgfR fl_RX12_9 dX12_row_93 e22 (fun v22 e23 => ?_)
          clear e22
          refine Ok.sipushV (v := (nI 1094)) dX12_row_96 (by decide +kernel) ?_
          refine Ok.iload_n dX12_row_99 rfl ?_
          refine Ok.iadd dX12_row_100 ?_
          refine Ok.dup2 dX12_row_101 rfl (va_rf_cat _) ?_
          refine X.rnn e23 (fun p23 q e24 => ?_)
          clear e23
          subst q
          refine X.iald dX12_row_102 e24 (fun v24 e25 => ?_)
          clear e24
          refine Ok.iconstV (v := (nI 1)) dX12_row_103 (by decide +kernel) ?_
          refine Ok.iadd dX12_row_104 ?_
          refine X.iast dX12_row_105 e25 (fun h25 e26 => ?_)
          clear e25
          refine Ok.aload_n dX12_row_106 rfl ?_
          refine X.rgfR fl_RX12_9 dX12_row_107 e26 (fun v26 e27 => ?_)
          clear e26
          refine Ok.sipushV (v := (nI 1094)) dX12_row_110 (by decide +kernel) ?_
          refine Ok.iload_n dX12_row_113 rfl ?_
          refine Ok.iadd dX12_row_114 ?_
          refine X.rnn e27 (fun p27 q e28 => ?_)
          clear e27
          subst q
          refine X.iald dX12_row_115 e28 (fun v28 e29 => ?_)
          clear e28
          exact X.iret dX12_row_116 rfl (Nat.le_of_ble_eq_true rfl) (Nat.le_of_ble_eq_true rfl) e29
        · clear e15
          refine Ok.bipushV (v := (-4 : Int32)) dX12_row_64 (by decide +kernel) ?_
          exact X.iret dX12_row_66 rfl (Nat.le_of_ble_eq_true rfl) (Nat.le_of_ble_eq_true rfl) e16
      · clear e11
        refine Ok.bipushV (v := (-3 : Int32)) dX12_row_46 (by decide +kernel) ?_
        exact X.iret dX12_row_48 rfl (Nat.le_of_ble_eq_true rfl) (Nat.le_of_ble_eq_true rfl) e12
    · clear e7
      refine Ok.bipushV (v := (-2 : Int32)) dX12_row_28 (by decide +kernel) ?_
      exact X.iret dX12_row_30 rfl (Nat.le_of_ble_eq_true rfl) (Nat.le_of_ble_eq_true rfl) e8
  · clear e2
    refine Ok.iconstV (v := (-1 : Int32)) dX12_row_8 (by decide +kernel) ?_
    exact X.iret dX12_row_9 rfl (Nat.le_of_ble_eq_true rfl) (Nat.le_of_ble_eq_true rfl) e3
noncomputable def F_X12_worth_103 (G : Gx) (h : Hp) (nx : Nat) : Rz Int32 :=
some ((nI 0), h, nx)
set_option maxRecDepth 100000 in
set_option maxHeartbeats 4000000 in
theorem k_X12_worth_103 {G : Gx} {d : Nat} {v' : Int32} {h' : Hp} {n' : Nat} {h : Hp} {nx : Nat} (e : F_X12_worth_103 G h nx = some (v', h', n')) : Ok G mX12_worth (d + 70) (Same (some (.int v')) h' n') 103 [none, none, none, none] [] h nx 0 0 := by
  unfold F_X12_worth_103 at e
  refine Ok.iconstV (v := (nI 0)) dX12_worth_103 (by decide +kernel) ?_
  exact X.iret dX12_worth_104 rfl (Nat.le_of_ble_eq_true rfl) (Nat.le_of_ble_eq_true rfl) e
noncomputable def F_X12_worth_77 (G : Gx) (h : Hp) (nx : Nat) (s0 : Int32) : Rz Int32 :=
some (s0, h, nx)
set_option maxRecDepth 100000 in
set_option maxHeartbeats 4000000 in
theorem k_X12_worth_77 {G : Gx} {d : Nat} {v' : Int32} {h' : Hp} {n' : Nat} {h : Hp} {nx : Nat} {s0 : Int32} (e : F_X12_worth_77 G h nx s0 = some (v', h', n')) : Ok G mX12_worth (d + 70) (Same (some (.int v')) h' n') 77 [none, none, none, none] [.int s0] h nx 0 0 := by
  unfold F_X12_worth_77 at e
  exact X.iret dX12_worth_77 rfl (Nat.le_of_ble_eq_true rfl) (Nat.le_of_ble_eq_true rfl) e
noncomputable def F_X12_worth (G : Gx) (h : Hp) (nx : Nat) (a0 : Nat) (a1 : Int32) (a2 : Int32) : Rz Int32 :=
gfR h a0 [12] 1 (fun v1 =>
nn v1 (fun p2 =>
alI (g_c G 0) h p2 (((nI 1070) + a1)) (fun v3 =>
if v3 = (nI 1) then
gfR h a0 [12] 1 (fun v4 =>
nn v4 (fun p5 =>
alI (g_c G 0) h p5 (((nI 1082) + a1)) (fun v6 =>
ck h a0 [12] (fun _ =>
cl (F_X12_numberOf G h nx a0 a2 (((nI 1) + ((v6 - v6 / (nI 3) * (nI 3)))))) (fun r7 h8 n9 =>
if r7 = (-5 : Int32) then
(F_X12_worth_77 G h8 n9 (nI 201))
else
(F_X12_worth_77 G h8 n9 r7))))))
else
if v3 = (nI 2) then
(F_X12_worth_103 G h nx)
else
if v3 = (nI 3) then
gfR h a0 [12] 1 (fun v10 =>
nn v10 (fun p11 =>
alI (g_c G 0) h p11 (((nI 1034) + a2)) (fun v12 =>
some ((((nI 1000000) - v12)), h, nx))))
else
if v3 = (nI 4) then
(F_X12_worth_103 G h nx)
else
if v3 = (nI 5) then
gfR h a0 [12] 1 (fun v13 =>
nn v13 (fun p14 =>
alI (g_c G 0) h p14 (((nI 1042) + a2)) (fun v15 =>
some (v15, h, nx))))
else
(F_X12_worth_103 G h nx))))
set_option maxRecDepth 100000 in
set_option maxHeartbeats 4000000 in
theorem k_X12_worth {G : Gx} {d : Nat} {h : Hp} {nx : Nat} {a0 : Nat} {a1 : Int32} {a2 : Int32} {v' : Int32} {h' : Hp} {n' : Nat} (e : F_X12_worth G h nx a0 a1 a2 = some (v', h', n')) : Ct G mX12_worth (d + 70) (Same (some (.int v')) h' n') [.ref a0, .int a1, .int a2] h nx := by
  unfold F_X12_worth at e
  refine Ct.of (ls := [some (.ref a0), some (.int a1), some (.int a2), none]) (by decide +kernel) rfl (Nat.le_of_ble_eq_true rfl) rfl ?_
  refine Ok.aload_n dX12_worth_0 rfl ?_
  refine X.rgfR fl_RX12_9 dX12_worth_1 e (fun v1 e1 => ?_)
  clear e
  refine Ok.sipushV (v := (nI 1070)) dX12_worth_4 (by decide +kernel) ?_
  refine Ok.iload_n dX12_worth_7 rfl ?_
  refine Ok.iadd dX12_worth_8 ?_
  refine X.rnn e1 (fun p2 q e2 => ?_)
  clear e1
  subst q
  refine X.iald dX12_worth_9 e2 (fun v3 e3 => ?_)
  clear e2
  refine X.sw e3 (fun c0 e4 => ?_) (fun c0 e4 => ?_)
  · clear e3
    rw [c0]
    refine Ok.tableIn (off := 34) (tgt := 44) dX12_worth_10 (by decide) (by decide) (by decide +kernel) (by decide) ?_
    refine Ok.aload_n dX12_worth_44 rfl ?_
    refine Ok.iload_n dX12_worth_45 rfl ?_
    refine Ok.iconstV (v := (nI 1)) dX12_worth_46 (by decide +kernel) ?_
    refine Ok.aload_n dX12_worth_47 rfl ?_
    refine X.rgfR fl_RX12_9 dX12_worth_48 e4 (fun v4 e5 => ?_)
    clear e4
    refine Ok.sipushV (v := (nI 1082)) dX12_worth_51 (by decide +kernel) ?_
    refine Ok.iload_n dX12_worth_54 rfl ?_
    refine Ok.iadd dX12_worth_55 ?_
    refine X.rnn e5 (fun p5 q e6 => ?_)
    clear e5
    subst q
    refine X.iald dX12_worth_56 e6 (fun v6 e7 => ?_)
    clear e6
    refine Ok.iconstV (v := (nI 3)) dX12_worth_57 (by decide +kernel) ?_
    refine Ok.irem dX12_worth_58 (by decide +kernel) ?_
    refine Ok.iadd dX12_worth_59 ?_
    refine X.rck e7 (fun c fs hb hc e8 => ?_)
    clear e7
    obtain rfl := List.mem_singleton.mp hc
    refine X.callV (My := mX12_numberOf) (n := 2) (As := [.int a2, .int (((nI 1) + ((v6 - v6 / (nI 3) * (nI 3)))))]) (T := (fun v => (some (.int v)))) (stk' := (fun v => [.int v])) (rest := []) (kc' := 0) (ks' := 0) dX12_worth_60 e8 (fun v h n e => k_X12_numberOf (d := d + 0) e) hb rfl wd1340 wd80 wd1339 wd48 wd1337 (by decide +kernel) rfl (by decide) rfl rfl (Nat.le_of_ble_eq_true rfl) (Nat.le_of_ble_eq_true rfl) (Nat.le_of_ble_eq_true rfl) rfl rfl (fun _ => rfl) (fun r7 h8 n9 e9 => ?_)
    clear e8
    refine XL.istore_n dX12_worth_63 (by decide) (L := [some (.ref a0), some (.int a1), some (.int a2), some (.int r7)]) rfl ?_
    refine Ok.iload_n dX12_worth_64 rfl ?_
    refine Ok.bipushV (v := (-5 : Int32)) dX12_worth_65 (by decide +kernel) ?_
    refine X.icmp_ne (tgt := 76) dX12_worth_67 (by decide) e9 (fun e10 => ?_) (fun e10 => ?_)
    · clear e9
      refine Ok.iload_n dX12_worth_76 rfl ?_
      exact Ok.weakL (k_X12_worth_77 (d := d) e10) trivial
    · clear e9
      refine Ok.sipushV (v := (nI 201)) dX12_worth_70 (by decide +kernel) ?_
      refine Ok.goto (tgt := 77) dX12_worth_73 (by decide) ?_
      exact Ok.weakL (k_X12_worth_77 (d := d) e10) trivial
  refine X.sw e4 (fun c1 e5 => ?_) (fun c1 e5 => ?_)
  · clear e4
    rw [c1]
    refine Ok.tableIn (off := 93) (tgt := 103) dX12_worth_10 (by decide) (by decide) (by decide +kernel) (by decide) ?_
    exact Ok.weakL (k_X12_worth_103 (d := d) e5) trivial
  refine X.sw e5 (fun c2 e6 => ?_) (fun c2 e6 => ?_)
  · clear e5
    rw [c2]
    refine Ok.tableIn (off := 68) (tgt := 78) dX12_worth_10 (by decide) (by decide) (by decide +kernel) (by decide) ?_
    refine Ok.ldc (v := (nI 1000000)) dX12_worth_78 wd1270 ?_
    refine Ok.aload_n dX12_worth_80 rfl ?_
    refine X.rgfR fl_RX12_9 dX12_worth_81 e6 (fun v10 e7 => ?_)
    clear e6
    refine Ok.sipushV (v := (nI 1034)) dX12_worth_84 (by decide +kernel) ?_
    refine Ok.iload_n dX12_worth_87 rfl ?_
    refine Ok.iadd dX12_worth_88 ?_
    refine X.rnn e7 (fun p11 q e8 => ?_)
    clear e7
    subst q
    refine X.iald dX12_worth_89 e8 (fun v12 e9 => ?_)
    clear e8
    refine Ok.isub dX12_worth_90 ?_
    exact X.iret dX12_worth_91 rfl (Nat.le_of_ble_eq_true rfl) (Nat.le_of_ble_eq_true rfl) e9
  refine X.sw e6 (fun c3 e7 => ?_) (fun c3 e7 => ?_)
  · clear e6
    rw [c3]
    refine Ok.tableIn (off := 93) (tgt := 103) dX12_worth_10 (by decide) (by decide) (by decide +kernel) (by decide) ?_
    exact Ok.weakL (k_X12_worth_103 (d := d) e7) trivial
  refine X.sw e7 (fun c4 e8 => ?_) (fun c4 e8 => ?_)
  · clear e7
    rw [c4]
    refine Ok.tableIn (off := 82) (tgt := 92) dX12_worth_10 (by decide) (by decide) (by decide +kernel) (by decide) ?_
    refine Ok.aload_n dX12_worth_92 rfl ?_
    refine X.rgfR fl_RX12_9 dX12_worth_93 e8 (fun v13 e9 => ?_)
    clear e8
    refine Ok.sipushV (v := (nI 1042)) dX12_worth_96 (by decide +kernel) ?_
    refine Ok.iload_n dX12_worth_99 rfl ?_
    refine Ok.iadd dX12_worth_100 ?_
    refine X.rnn e9 (fun p14 q e10 => ?_)
    clear e9
    subst q
    refine X.iald dX12_worth_101 e10 (fun v15 e11 => ?_)
    clear e10
    exact X.iret dX12_worth_102 rfl (Nat.le_of_ble_eq_true rfl) (Nat.le_of_ble_eq_true rfl) e11
  refine Ok.tableOut (tgt := 103) dX12_worth_10 (sw_out 1 5 (fun i hi => match i, hi with | 0, _ => c0 | 1, _ => c1 | 2, _ => c2 | 3, _ => c3 | 4, _ => c4 | _ + 5, q => absurd q (by omega))) (by decide) ?_
  exact Ok.weakL (k_X12_worth_103 (d := d) e8) trivial
noncomputable def F_X12_greatest_110 (G : Gx) (k34 : Hp → Nat → Nat → Int32 → Int32 → Rz Int32) (k48 : Hp → Nat → Nat → Int32 → Int32 → Int32 → Int32 → Rz Int32) (h : Hp) (nx : Nat) (s0 : Int32) (l0 : Nat) (l2 : Int32) (l3 : Int32) (l5 : Int32) : Rz Int32 :=
nm (l5 + (nI 1)) (fun v1 =>
(k48 h nx l0 l2 l3 s0 v1))
set_option maxRecDepth 100000 in
set_option maxHeartbeats 4000000 in
theorem k_X12_greatest_110 {G : Gx} {d : Nat} {v' : Int32} {h' : Hp} {n' : Nat} {k34 : Hp → Nat → Nat → Int32 → Int32 → Rz Int32} (K34 : ∀ {h : Hp} {nx : Nat} {l0 : Nat} {l2 : Int32} {l3 : Int32}, k34 h nx l0 l2 l3 = some (v', h', n') → Ok G mX12_greatest (d + 71) (Same (some (.int v')) h' n') 34 [some (.ref l0), none, some (.int l2), some (.int l3), none, none, none] [] h nx 0 0) {k48 : Hp → Nat → Nat → Int32 → Int32 → Int32 → Int32 → Rz Int32} (K48 : ∀ {h : Hp} {nx : Nat} {l0 : Nat} {l2 : Int32} {l3 : Int32} {l4 : Int32} {l5 : Int32}, k48 h nx l0 l2 l3 l4 l5 = some (v', h', n') → Ok G mX12_greatest (d + 71) (Same (some (.int v')) h' n') 48 [some (.ref l0), none, some (.int l2), some (.int l3), some (.int l4), some (.int l5), none] [] h nx 0 0) {h : Hp} {nx : Nat} {s0 : Int32} {l0 : Nat} {l2 : Int32} {l3 : Int32} {l5 : Int32} (e : F_X12_greatest_110 G k34 k48 h nx s0 l0 l2 l3 l5 = some (v', h', n')) : Ok G mX12_greatest (d + 71) (Same (some (.int v')) h' n') 110 [some (.ref l0), none, some (.int l2), some (.int l3), none, some (.int l5), none] [.int s0] h nx 0 0 := by
  unfold F_X12_greatest_110 at e
  refine XL.istore dX12_greatest_110 (by decide) (L := [some (.ref l0), none, some (.int l2), some (.int l3), some (.int s0), some (.int l5), none]) rfl ?_
  refine X.iinc dX12_greatest_112 rfl (by decide) (by decide +kernel) e (L := fun v1 => [some (.ref l0), none, some (.int l2), some (.int l3), some (.int s0), some (.int v1), none]) (fun _ => rfl) (fun v1 e1 => ?_)
  clear e
  refine Ok.goto (tgt := 48) dX12_greatest_115 (by decide) ?_
  exact Ok.weakL (K48 e1) ⟨rfl, ⟨rfl, ⟨rfl, ⟨rfl, ⟨rfl, trivial⟩⟩⟩⟩⟩
noncomputable def F_X12_greatest_108 (G : Gx) (k34 : Hp → Nat → Nat → Int32 → Int32 → Rz Int32) (k48 : Hp → Nat → Nat → Int32 → Int32 → Int32 → Int32 → Rz Int32) (h : Hp) (nx : Nat) (l0 : Nat) (l2 : Int32) (l3 : Int32) (l4 : Int32) (l5 : Int32) : Rz Int32 :=
(F_X12_greatest_110 G k34 k48 h nx l4 l0 l2 l3 l5)
set_option maxRecDepth 100000 in
set_option maxHeartbeats 4000000 in
theorem k_X12_greatest_108 {G : Gx} {d : Nat} {v' : Int32} {h' : Hp} {n' : Nat} {k34 : Hp → Nat → Nat → Int32 → Int32 → Rz Int32} (K34 : ∀ {h : Hp} {nx : Nat} {l0 : Nat} {l2 : Int32} {l3 : Int32}, k34 h nx l0 l2 l3 = some (v', h', n') → Ok G mX12_greatest (d + 71) (Same (some (.int v')) h' n') 34 [some (.ref l0), none, some (.int l2), some (.int l3), none, none, none] [] h nx 0 0) {k48 : Hp → Nat → Nat → Int32 → Int32 → Int32 → Int32 → Rz Int32} (K48 : ∀ {h : Hp} {nx : Nat} {l0 : Nat} {l2 : Int32} {l3 : Int32} {l4 : Int32} {l5 : Int32}, k48 h nx l0 l2 l3 l4 l5 = some (v', h', n') → Ok G mX12_greatest (d + 71) (Same (some (.int v')) h' n') 48 [some (.ref l0), none, some (.int l2), some (.int l3), some (.int l4), some (.int l5), none] [] h nx 0 0) {h : Hp} {nx : Nat} {l0 : Nat} {l2 : Int32} {l3 : Int32} {l4 : Int32} {l5 : Int32} (e : F_X12_greatest_108 G k34 k48 h nx l0 l2 l3 l4 l5 = some (v', h', n')) : Ok G mX12_greatest (d + 71) (Same (some (.int v')) h' n') 108 [some (.ref l0), none, some (.int l2), some (.int l3), some (.int l4), some (.int l5), none] [] h nx 0 0 := by
  unfold F_X12_greatest_108 at e
  refine Ok.iload dX12_greatest_108 rfl ?_
  exact Ok.weakL (k_X12_greatest_110 (d := d) K34 K48 e) ⟨rfl, ⟨rfl, ⟨rfl, ⟨rfl, trivial⟩⟩⟩⟩
noncomputable def F_X12_greatest_103 (G : Gx) (k34 : Hp → Nat → Nat → Int32 → Int32 → Rz Int32) (k48 : Hp → Nat → Nat → Int32 → Int32 → Int32 → Int32 → Rz Int32) (h : Hp) (nx : Nat) (l0 : Nat) (l2 : Int32) (l3 : Int32) (l5 : Int32) : Rz Int32 :=
(F_X12_greatest_110 G k34 k48 h nx l5 l0 l2 l3 l5)
set_option maxRecDepth 100000 in
set_option maxHeartbeats 4000000 in
theorem k_X12_greatest_103 {G : Gx} {d : Nat} {v' : Int32} {h' : Hp} {n' : Nat} {k34 : Hp → Nat → Nat → Int32 → Int32 → Rz Int32} (K34 : ∀ {h : Hp} {nx : Nat} {l0 : Nat} {l2 : Int32} {l3 : Int32}, k34 h nx l0 l2 l3 = some (v', h', n') → Ok G mX12_greatest (d + 71) (Same (some (.int v')) h' n') 34 [some (.ref l0), none, some (.int l2), some (.int l3), none, none, none] [] h nx 0 0) {k48 : Hp → Nat → Nat → Int32 → Int32 → Int32 → Int32 → Rz Int32} (K48 : ∀ {h : Hp} {nx : Nat} {l0 : Nat} {l2 : Int32} {l3 : Int32} {l4 : Int32} {l5 : Int32}, k48 h nx l0 l2 l3 l4 l5 = some (v', h', n') → Ok G mX12_greatest (d + 71) (Same (some (.int v')) h' n') 48 [some (.ref l0), none, some (.int l2), some (.int l3), some (.int l4), some (.int l5), none] [] h nx 0 0) {h : Hp} {nx : Nat} {l0 : Nat} {l2 : Int32} {l3 : Int32} {l5 : Int32} (e : F_X12_greatest_103 G k34 k48 h nx l0 l2 l3 l5 = some (v', h', n')) : Ok G mX12_greatest (d + 71) (Same (some (.int v')) h' n') 103 [some (.ref l0), none, some (.int l2), some (.int l3), none, some (.int l5), none] [] h nx 0 0 := by
  unfold F_X12_greatest_103 at e
  refine Ok.iload dX12_greatest_103 rfl ?_
  refine Ok.goto (tgt := 110) dX12_greatest_105 (by decide) ?_
  exact Ok.weakL (k_X12_greatest_110 (d := d) K34 K48 e) ⟨rfl, ⟨rfl, ⟨rfl, ⟨rfl, trivial⟩⟩⟩⟩
noncomputable def F_X12_greatest_73 (G : Gx) (k34 : Hp → Nat → Nat → Int32 → Int32 → Rz Int32) (k48 : Hp → Nat → Nat → Int32 → Int32 → Int32 → Int32 → Rz Int32) (h : Hp) (nx : Nat) (s0 : Int32) (l0 : Nat) (l2 : Int32) (l3 : Int32) (l4 : Int32) (l5 : Int32) : Rz Int32 :=
if s0 = 0 then
(F_X12_greatest_108 G k34 k48 h nx l0 l2 l3 l4 l5)
else
if l4 = (-1 : Int32) then
(F_X12_greatest_103 G k34 k48 h nx l0 l2 l3 l5)
else
gfR h l0 [12] 21 (fun v1 =>
nn v1 (fun p2 =>
alI (g_c G 0) h p2 l5 (fun v3 =>
gfR h l0 [12] 21 (fun v4 =>
nn v4 (fun p5 =>
alI (g_c G 0) h p5 l4 (fun v6 =>
if v3 ≤ v6 then
(F_X12_greatest_108 G k34 k48 h nx l0 l2 l3 l4 l5)
else
(F_X12_greatest_103 G k34 k48 h nx l0 l2 l3 l5)))))))
set_option maxRecDepth 100000 in
set_option maxHeartbeats 4000000 in
theorem k_X12_greatest_73 {G : Gx} {d : Nat} {v' : Int32} {h' : Hp} {n' : Nat} {k34 : Hp → Nat → Nat → Int32 → Int32 → Rz Int32} (K34 : ∀ {h : Hp} {nx : Nat} {l0 : Nat} {l2 : Int32} {l3 : Int32}, k34 h nx l0 l2 l3 = some (v', h', n') → Ok G mX12_greatest (d + 71) (Same (some (.int v')) h' n') 34 [some (.ref l0), none, some (.int l2), some (.int l3), none, none, none] [] h nx 0 0) {k48 : Hp → Nat → Nat → Int32 → Int32 → Int32 → Int32 → Rz Int32} (K48 : ∀ {h : Hp} {nx : Nat} {l0 : Nat} {l2 : Int32} {l3 : Int32} {l4 : Int32} {l5 : Int32}, k48 h nx l0 l2 l3 l4 l5 = some (v', h', n') → Ok G mX12_greatest (d + 71) (Same (some (.int v')) h' n') 48 [some (.ref l0), none, some (.int l2), some (.int l3), some (.int l4), some (.int l5), none] [] h nx 0 0) {h : Hp} {nx : Nat} {s0 : Int32} {l0 : Nat} {l2 : Int32} {l3 : Int32} {l4 : Int32} {l5 : Int32} (e : F_X12_greatest_73 G k34 k48 h nx s0 l0 l2 l3 l4 l5 = some (v', h', n')) : Ok G mX12_greatest (d + 71) (Same (some (.int v')) h' n') 73 [some (.ref l0), none, some (.int l2), some (.int l3), some (.int l4), some (.int l5), none] [.int s0] h nx 0 0 := by
  unfold F_X12_greatest_73 at e
  refine XL.istore dX12_greatest_73 (by decide) (L := [some (.ref l0), none, some (.int l2), some (.int l3), some (.int l4), some (.int l5), some (.int s0)]) rfl ?_
  refine Ok.iload dX12_greatest_75 rfl ?_
  refine X.if_eq (tgt := 108) dX12_greatest_77 (by decide) e (fun e1 => ?_) (fun e1 => ?_)
  · clear e
    exact Ok.weakL (k_X12_greatest_108 (d := d) K34 K48 e1) ⟨rfl, ⟨rfl, ⟨rfl, ⟨rfl, ⟨rfl, trivial⟩⟩⟩⟩⟩
  · clear e
    refine Ok.iload dX12_greatest_80 rfl ?_
    refine Ok.iconstV (v := (-1 : Int32)) dX12_greatest_82 (by decide +kernel) ?_
    refine X.icmp_eq (tgt := 103) dX12_greatest_83 (by decide) e1 (fun e2 => ?_) (fun e2 => ?_)
    · clear e1
      exact Ok.weakL (k_X12_greatest_103 (d := d) K34 K48 e2) ⟨rfl, ⟨rfl, ⟨rfl, ⟨rfl, trivial⟩⟩⟩⟩
    · clear e1
      refine Ok.aload_n dX12_greatest_86 rfl ?_
      refine X.rgfR fl_RX12_45 dX12_greatest_87 e2 (fun v1 e3 => ?_)
      clear e2
      refine Ok.iload dX12_greatest_90 rfl ?_
      refine X.rnn e3 (fun p2 q e4 => ?_)
      clear e3
      subst q
      refine X.iald dX12_greatest_92 e4 (fun v3 e5 => ?_)
      clear e4
      refine Ok.aload_n dX12_greatest_93 rfl ?_
      refine X.rgfR fl_RX12_45 dX12_greatest_94 e5 (fun v4 e6 => ?_)
      clear e5
      refine Ok.iload dX12_greatest_97 rfl ?_
      refine X.rnn e6 (fun p5 q e7 => ?_)
      clear e6
      subst q
      refine X.iald dX12_greatest_99 e7 (fun v6 e8 => ?_)
      clear e7
      refine X.icmp_le (tgt := 108) dX12_greatest_100 (by decide) e8 (fun e9 => ?_) (fun e9 => ?_)
      · clear e8
        exact Ok.weakL (k_X12_greatest_108 (d := d) K34 K48 e9) ⟨rfl, ⟨rfl, ⟨rfl, ⟨rfl, ⟨rfl, trivial⟩⟩⟩⟩⟩
      · clear e8
        exact Ok.weakL (k_X12_greatest_103 (d := d) K34 K48 e9) ⟨rfl, ⟨rfl, ⟨rfl, ⟨rfl, trivial⟩⟩⟩⟩
noncomputable def F_X12_greatest_48 (G : Gx) (k34 : Hp → Nat → Nat → Int32 → Int32 → Rz Int32) : Nat → Hp → Nat → Nat → Int32 → Int32 → Int32 → Int32 → Rz Int32 := fun n => Nat.rec (motive := fun _ => Hp → Nat → Nat → Int32 → Int32 → Int32 → Int32 → Rz Int32) (fun _ _ _ _ _ _ _ => none) (fun _ k48 => fun h nx l0 l2 l3 l4 l5 =>
gfR h l0 [12] 1 (fun v1 =>
nn v1 (fun p2 =>
alI (g_c G 0) h p2 (nI 1) (fun v3 =>
if v3 ≤ l5 then
nm ((l2 ||| (((nI 1) <<< (l4 &&& 31))))) (fun v4 =>
nm (l3 + (nI 1)) (fun v5 =>
(k34 h nx l0 v4 v5)))
else
if ((((l2 >>> (l5 &&& 31))) &&& (nI 1))) = 0 then
(F_X12_greatest_73 G k34 k48 h nx (nI 1) l0 l2 l3 l4 l5)
else
(F_X12_greatest_73 G k34 k48 h nx (nI 0) l0 l2 l3 l4 l5))))) n
theorem F_X12_greatest_48_0 {G : Gx} (k34 : Hp → Nat → Nat → Int32 → Int32 → Rz Int32) {h : Hp} {nx : Nat} {l0 : Nat} {l2 : Int32} {l3 : Int32} {l4 : Int32} {l5 : Int32} : F_X12_greatest_48 G k34 0 h nx l0 l2 l3 l4 l5 = none := rfl
theorem F_X12_greatest_48_s {G : Gx} (k34 : Hp → Nat → Nat → Int32 → Int32 → Rz Int32) {n : Nat} {h : Hp} {nx : Nat} {l0 : Nat} {l2 : Int32} {l3 : Int32} {l4 : Int32} {l5 : Int32} : F_X12_greatest_48 G k34 (n + 1) h nx l0 l2 l3 l4 l5 = (
gfR h l0 [12] 1 (fun v1 =>
nn v1 (fun p2 =>
alI (g_c G 0) h p2 (nI 1) (fun v3 =>
if v3 ≤ l5 then
nm ((l2 ||| (((nI 1) <<< (l4 &&& 31))))) (fun v4 =>
nm (l3 + (nI 1)) (fun v5 =>
(k34 h nx l0 v4 v5)))
else
if ((((l2 >>> (l5 &&& 31))) &&& (nI 1))) = 0 then
(F_X12_greatest_73 G k34 (F_X12_greatest_48 G k34 n) h nx (nI 1) l0 l2 l3 l4 l5)
else
(F_X12_greatest_73 G k34 (F_X12_greatest_48 G k34 n) h nx (nI 0) l0 l2 l3 l4 l5))))) := rfl
set_option maxRecDepth 100000 in
set_option maxHeartbeats 4000000 in
theorem k_X12_greatest_48 {G : Gx} {d : Nat} {v' : Int32} {h' : Hp} {n' : Nat} {k34 : Hp → Nat → Nat → Int32 → Int32 → Rz Int32} (K34 : ∀ {h : Hp} {nx : Nat} {l0 : Nat} {l2 : Int32} {l3 : Int32}, k34 h nx l0 l2 l3 = some (v', h', n') → Ok G mX12_greatest (d + 71) (Same (some (.int v')) h' n') 34 [some (.ref l0), none, some (.int l2), some (.int l3), none, none, none] [] h nx 0 0) : ∀ (n : Nat) {h : Hp} {nx : Nat} {l0 : Nat} {l2 : Int32} {l3 : Int32} {l4 : Int32} {l5 : Int32}, F_X12_greatest_48 G k34 n h nx l0 l2 l3 l4 l5 = some (v', h', n') → Ok G mX12_greatest (d + 71) (Same (some (.int v')) h' n') 48 [some (.ref l0), none, some (.int l2), some (.int l3), some (.int l4), some (.int l5), none] [] h nx 0 0 := by
  intro n
  induction n with
  | zero =>
    intro h nx l0 l2 l3 l4 l5 e
    rw [F_X12_greatest_48_0] at e
    cases e
  | succ n K48 =>
    intro h nx l0 l2 l3 l4 l5 e
    rw [F_X12_greatest_48_s] at e
    refine Ok.iload dX12_greatest_48 rfl ?_
    refine Ok.aload_n dX12_greatest_50 rfl ?_
    refine X.rgfR fl_RX12_9 dX12_greatest_51 e (fun v1 e1 => ?_)
    clear e
    refine Ok.iconstV (v := (nI 1)) dX12_greatest_54 (by decide +kernel) ?_
    refine X.rnn e1 (fun p2 q e2 => ?_)
    clear e1
    subst q
    refine X.iald dX12_greatest_55 e2 (fun v3 e3 => ?_)
    clear e2
    refine X.icmp_ge (tgt := 118) dX12_greatest_56 (by decide) e3 (fun e4 => ?_) (fun e4 => ?_)
    · clear e3
      refine Ok.iload_n dX12_greatest_118 rfl ?_
      refine Ok.iconstV (v := (nI 1)) dX12_greatest_119 (by decide +kernel) ?_
      refine Ok.iload dX12_greatest_120 rfl ?_
      refine Ok.ishl dX12_greatest_122 ?_
      refine Ok.ior dX12_greatest_123 ?_
      refine X.istore_n dX12_greatest_124 (by decide) e4 (L := fun v4 => [some (.ref l0), none, some (.int v4), some (.int l3), some (.int l4), some (.int l5), none]) (fun _ => rfl) (fun v4 e5 => ?_)
      clear e4
      refine X.iinc dX12_greatest_125 rfl (by decide) (by decide +kernel) e5 (L := fun v5 => [some (.ref l0), none, some (.int v4), some (.int v5), some (.int l4), some (.int l5), none]) (fun _ => rfl) (fun v5 e6 => ?_)
      clear e5
      refine Ok.goto (tgt := 34) dX12_greatest_128 (by decide) ?_
      exact Ok.weakL (K34 e6) ⟨rfl, ⟨rfl, ⟨rfl, trivial⟩⟩⟩
    · clear e3
      refine Ok.iload_n dX12_greatest_59 rfl ?_
      refine Ok.iload dX12_greatest_60 rfl ?_
      refine Ok.ishr dX12_greatest_62 ?_
      refine Ok.iconstV (v := (nI 1)) dX12_greatest_63 (by decide +kernel) ?_
      refine Ok.iand dX12_greatest_64 ?_
      refine X.if_ne (tgt := 72) dX12_greatest_65 (by decide) e4 (fun e5 => ?_) (fun e5 => ?_)
      · clear e4
        refine Ok.iconstV (v := (nI 0)) dX12_greatest_72 (by decide +kernel) ?_
        exact Ok.weakL (k_X12_greatest_73 (d := d) K34 K48 e5) ⟨rfl, ⟨rfl, ⟨rfl, ⟨rfl, ⟨rfl, trivial⟩⟩⟩⟩⟩
      · clear e4
        refine Ok.iconstV (v := (nI 1)) dX12_greatest_68 (by decide +kernel) ?_
        refine Ok.goto (tgt := 73) dX12_greatest_69 (by decide) ?_
        exact Ok.weakL (k_X12_greatest_73 (d := d) K34 K48 e5) ⟨rfl, ⟨rfl, ⟨rfl, ⟨rfl, ⟨rfl, trivial⟩⟩⟩⟩⟩
noncomputable def F_X12_greatest_34 (G : Gx) : Nat → Hp → Nat → Nat → Int32 → Int32 → Rz Int32 := fun n => Nat.rec (motive := fun _ => Hp → Nat → Nat → Int32 → Int32 → Rz Int32) (fun _ _ _ _ _ => none) (fun _ k34 => fun h nx l0 l2 l3 =>
ck h l0 [12] (fun _ =>
cl (F_X12_looking G h nx l0) (fun r1 h2 n3 =>
if r1 ≤ l3 then
some (l2, h2, n3)
else
(F_X12_greatest_48 G k34 fuelL h2 n3 l0 l2 l3 (-1 : Int32) (nI 0))))) n
theorem F_X12_greatest_34_0 {G : Gx} {h : Hp} {nx : Nat} {l0 : Nat} {l2 : Int32} {l3 : Int32} : F_X12_greatest_34 G 0 h nx l0 l2 l3 = none := rfl
theorem F_X12_greatest_34_s {G : Gx} {n : Nat} {h : Hp} {nx : Nat} {l0 : Nat} {l2 : Int32} {l3 : Int32} : F_X12_greatest_34 G (n + 1) h nx l0 l2 l3 = (
ck h l0 [12] (fun _ =>
cl (F_X12_looking G h nx l0) (fun r1 h2 n3 =>
if r1 ≤ l3 then
some (l2, h2, n3)
else
(F_X12_greatest_48 G (F_X12_greatest_34 G n) fuelL h2 n3 l0 l2 l3 (-1 : Int32) (nI 0))))) := rfl
set_option maxRecDepth 100000 in
set_option maxHeartbeats 4000000 in
theorem k_X12_greatest_34 {G : Gx} {d : Nat} {v' : Int32} {h' : Hp} {n' : Nat} : ∀ (n : Nat) {h : Hp} {nx : Nat} {l0 : Nat} {l2 : Int32} {l3 : Int32}, F_X12_greatest_34 G n h nx l0 l2 l3 = some (v', h', n') → Ok G mX12_greatest (d + 71) (Same (some (.int v')) h' n') 34 [some (.ref l0), none, some (.int l2), some (.int l3), none, none, none] [] h nx 0 0 := by
  intro n
  induction n with
  | zero =>
    intro h nx l0 l2 l3 e
    rw [F_X12_greatest_34_0] at e
    cases e
  | succ n K34 =>
    intro h nx l0 l2 l3 e
    rw [F_X12_greatest_34_s] at e
    refine Ok.iload_n dX12_greatest_34 rfl ?_
    refine Ok.aload_n dX12_greatest_35 rfl ?_
    refine X.rck e (fun c fs hb hc e1 => ?_)
    clear e
    obtain rfl := List.mem_singleton.mp hc
    refine X.callV (My := mX12_looking) (n := 0) (As := []) (T := (fun v => (some (.int v)))) (stk' := (fun v => [.int v, .int l3])) (rest := [.int l3]) (kc' := 0) (ks' := 0) dX12_greatest_36 e1 (fun v h n e => k_X12_looking (d := d + 70) e) hb rfl wd1376 wd80 wd1375 wd52 wd1373 (by decide +kernel) rfl (by decide) rfl rfl (Nat.le_of_ble_eq_true rfl) (Nat.le_of_ble_eq_true rfl) (Nat.le_of_ble_eq_true rfl) rfl rfl (fun _ => rfl) (fun r1 h2 n3 e2 => ?_)
    clear e1
    refine X.icmp_ge (tgt := 131) dX12_greatest_39 (by decide) e2 (fun e3 => ?_) (fun e3 => ?_)
    · clear e2
      refine Ok.iload_n dX12_greatest_131 rfl ?_
      exact X.iret dX12_greatest_132 rfl (Nat.le_of_ble_eq_true rfl) (Nat.le_of_ble_eq_true rfl) e3
    · clear e2
      refine Ok.iconstV (v := (-1 : Int32)) dX12_greatest_42 (by decide +kernel) ?_
      refine XL.istore dX12_greatest_43 (by decide) (L := [some (.ref l0), none, some (.int l2), some (.int l3), some (.int (-1 : Int32)), none, none]) rfl ?_
      refine Ok.iconstV (v := (nI 0)) dX12_greatest_45 (by decide +kernel) ?_
      refine XL.istore dX12_greatest_46 (by decide) (L := [some (.ref l0), none, some (.int l2), some (.int l3), some (.int (-1 : Int32)), some (.int (nI 0)), none]) rfl ?_
      exact Ok.weakL (k_X12_greatest_48 (d := d) K34 fuelL e3) ⟨rfl, ⟨rfl, ⟨rfl, ⟨rfl, ⟨rfl, trivial⟩⟩⟩⟩⟩
noncomputable def F_X12_greatest_2 (G : Gx) : Nat → Hp → Nat → Nat → Int32 → Int32 → Rz Int32 := fun n => Nat.rec (motive := fun _ => Hp → Nat → Nat → Int32 → Int32 → Rz Int32) (fun _ _ _ _ _ => none) (fun _ k2 => fun h nx l0 l1 l2 =>
gfR h l0 [12] 1 (fun v1 =>
nn v1 (fun p2 =>
alI (g_c G 0) h p2 (nI 1) (fun v3 =>
if v3 ≤ l2 then
(F_X12_greatest_34 G fuelL h nx l0 (nI 0) (nI 0))
else
gfR h l0 [12] 21 (fun v4 =>
ck h l0 [12] (fun _ =>
cl (F_X12_worth G h nx l0 l1 l2) (fun r5 h6 n7 =>
nn v4 (fun p8 =>
asI (g_c G 0) id h6 p8 l2 r5 (fun h9 =>
nm (l2 + (nI 1)) (fun v10 =>
(k2 h9 n7 l0 l1 v10))))))))))) n
theorem F_X12_greatest_2_0 {G : Gx} {h : Hp} {nx : Nat} {l0 : Nat} {l1 : Int32} {l2 : Int32} : F_X12_greatest_2 G 0 h nx l0 l1 l2 = none := rfl
theorem F_X12_greatest_2_s {G : Gx} {n : Nat} {h : Hp} {nx : Nat} {l0 : Nat} {l1 : Int32} {l2 : Int32} : F_X12_greatest_2 G (n + 1) h nx l0 l1 l2 = (
gfR h l0 [12] 1 (fun v1 =>
nn v1 (fun p2 =>
alI (g_c G 0) h p2 (nI 1) (fun v3 =>
if v3 ≤ l2 then
(F_X12_greatest_34 G fuelL h nx l0 (nI 0) (nI 0))
else
gfR h l0 [12] 21 (fun v4 =>
ck h l0 [12] (fun _ =>
cl (F_X12_worth G h nx l0 l1 l2) (fun r5 h6 n7 =>
nn v4 (fun p8 =>
asI (g_c G 0) id h6 p8 l2 r5 (fun h9 =>
nm (l2 + (nI 1)) (fun v10 =>
((F_X12_greatest_2 G n) h9 n7 l0 l1 v10))))))))))) := rfl
set_option maxRecDepth 100000 in
set_option maxHeartbeats 4000000 in
theorem k_X12_greatest_2 {G : Gx} {d : Nat} {v' : Int32} {h' : Hp} {n' : Nat} : ∀ (n : Nat) {h : Hp} {nx : Nat} {l0 : Nat} {l1 : Int32} {l2 : Int32}, F_X12_greatest_2 G n h nx l0 l1 l2 = some (v', h', n') → Ok G mX12_greatest (d + 71) (Same (some (.int v')) h' n') 2 [some (.ref l0), some (.int l1), some (.int l2), none, none, none, none] [] h nx 0 0 := by
  intro n
  induction n with
  | zero =>
    intro h nx l0 l1 l2 e
    rw [F_X12_greatest_2_0] at e
    cases e
  | succ n K2 =>
    intro h nx l0 l1 l2 e
    rw [F_X12_greatest_2_s] at e
    refine Ok.iload_n dX12_greatest_2 rfl ?_
    refine Ok.aload_n dX12_greatest_3 rfl ?_
    refine X.rgfR fl_RX12_9 dX12_greatest_4 e (fun v1 e1 => ?_)
    clear e
    refine Ok.iconstV (v := (nI 1)) dX12_greatest_7 (by decide +kernel) ?_
    refine X.rnn e1 (fun p2 q e2 => ?_)
    clear e1
    subst q
    refine X.iald dX12_greatest_8 e2 (fun v3 e3 => ?_)
    clear e2
    refine X.icmp_ge (tgt := 30) dX12_greatest_9 (by decide) e3 (fun e4 => ?_) (fun e4 => ?_)
    · clear e3
      refine Ok.iconstV (v := (nI 0)) dX12_greatest_30 (by decide +kernel) ?_
      refine XL.istore_n dX12_greatest_31 (by decide) (L := [some (.ref l0), some (.int l1), some (.int (nI 0)), none, none, none, none]) rfl ?_
      refine Ok.iconstV (v := (nI 0)) dX12_greatest_32 (by decide +kernel) ?_
      refine XL.istore_n dX12_greatest_33 (by decide) (L := [some (.ref l0), some (.int l1), some (.int (nI 0)), some (.int (nI 0)), none, none, none]) rfl ?_
      exact Ok.weakL (k_X12_greatest_34 (d := d) fuelL e4) ⟨rfl, ⟨rfl, ⟨rfl, trivial⟩⟩⟩
    · clear e3
      refine Ok.aload_n dX12_greatest_12 rfl ?_
      refine X.rgfR fl_RX12_45 dX12_greatest_13 e4 (fun v4 e5 => ?_)
      clear e4
      refine Ok.iload_n dX12_greatest_16 rfl ?_
      refine Ok.aload_n dX12_greatest_17 rfl ?_
      refine Ok.iload_n dX12_greatest_18 rfl ?_
      refine Ok.iload_n dX12_greatest_19 rfl ?_
      refine X.rck e5 (fun c fs hb hc e6 => ?_)
      clear e5
      obtain rfl := List.mem_singleton.mp hc
      refine X.callV (My := mX12_worth) (n := 2) (As := [.int l1, .int l2]) (T := (fun v => (some (.int v)))) (stk' := (fun v => [.int v, .int l2, va_rf v4])) (rest := [.int l2, va_rf v4]) (kc' := 0) (ks' := 0) dX12_greatest_20 e6 (fun v h n e => k_X12_worth (d := d + 0) e) hb rfl wd1395 wd80 wd1394 wd56 wd1392 (by decide +kernel) rfl (by decide) rfl rfl (cs_le (cs_c (a := 1) rfl (cs_c (a := 1) (va_rf_cat _) cs_n)) (by decide)) (Nat.le_of_ble_eq_true rfl) (Nat.le_of_ble_eq_true rfl) rfl rfl (fun _ => rfl) (fun r5 h6 n7 e7 => ?_)
      clear e6
      refine X.rnn e7 (fun p8 q e8 => ?_)
      clear e7
      subst q
      refine X.iast dX12_greatest_23 e8 (fun h9 e9 => ?_)
      clear e8
      refine X.iinc dX12_greatest_24 rfl (by decide) (by decide +kernel) e9 (L := fun v10 => [some (.ref l0), some (.int l1), some (.int v10), none, none, none, none]) (fun _ => rfl) (fun v10 e10 => ?_)
      clear e9
      refine Ok.goto (tgt := 2) dX12_greatest_27 (by decide) ?_
      exact Ok.weakL (K2 e10) ⟨rfl, ⟨rfl, ⟨rfl, trivial⟩⟩⟩
noncomputable def F_X12_greatest (G : Gx) (h : Hp) (nx : Nat) (a0 : Nat) (a1 : Int32) : Rz Int32 :=
(F_X12_greatest_2 G fuelL h nx a0 a1 (nI 0))
set_option maxRecDepth 100000 in
set_option maxHeartbeats 4000000 in
theorem k_X12_greatest {G : Gx} {d : Nat} {h : Hp} {nx : Nat} {a0 : Nat} {a1 : Int32} {v' : Int32} {h' : Hp} {n' : Nat} (e : F_X12_greatest G h nx a0 a1 = some (v', h', n')) : Ct G mX12_greatest (d + 71) (Same (some (.int v')) h' n') [.ref a0, .int a1] h nx := by
  unfold F_X12_greatest at e
  refine Ct.of (ls := [some (.ref a0), some (.int a1), none, none, none, none, none]) (by decide +kernel) rfl (Nat.le_of_ble_eq_true rfl) rfl ?_
  refine Ok.iconstV (v := (nI 0)) dX12_greatest_0 (by decide +kernel) ?_
  refine XL.istore_n dX12_greatest_1 (by decide) (L := [some (.ref a0), some (.int a1), some (.int (nI 0)), none, none, none, none]) rfl ?_
  exact Ok.weakL (k_X12_greatest_2 (d := d) fuelL e) ⟨rfl, ⟨rfl, ⟨rfl, trivial⟩⟩⟩
noncomputable def F_X12_turned_4 (G : Gx) : Nat → Hp → Nat → Nat → Int32 → Int32 → Int32 → Rz Int32 := fun n => Nat.rec (motive := fun _ => Hp → Nat → Nat → Int32 → Int32 → Int32 → Rz Int32) (fun _ _ _ _ _ _ => none) (fun _ k4 => fun h nx l0 l1 l2 l3 =>
ck h l0 [12] (fun _ =>
cl (F_X12_looking G h nx l0) (fun r1 h2 n3 =>
if r1 ≤ l3 then
some (l2, h2, n3)
else
gfR h2 l0 [12] 1 (fun v4 =>
nn v4 (fun p5 =>
alI (g_c G 0) h2 p5 (nI 1) (fun v6 =>
dzI v6 (
nm ((l2 ||| (((nI 1) <<< (((((l1 + l3)) - ((l1 + l3)) / v6 * v6)) &&& 31))))) (fun v7 =>
nm (l3 + (nI 1)) (fun v8 =>
(k4 h2 n3 l0 l1 v7 v8)))))))))) n
theorem F_X12_turned_4_0 {G : Gx} {h : Hp} {nx : Nat} {l0 : Nat} {l1 : Int32} {l2 : Int32} {l3 : Int32} : F_X12_turned_4 G 0 h nx l0 l1 l2 l3 = none := rfl
theorem F_X12_turned_4_s {G : Gx} {n : Nat} {h : Hp} {nx : Nat} {l0 : Nat} {l1 : Int32} {l2 : Int32} {l3 : Int32} : F_X12_turned_4 G (n + 1) h nx l0 l1 l2 l3 = (
ck h l0 [12] (fun _ =>
cl (F_X12_looking G h nx l0) (fun r1 h2 n3 =>
if r1 ≤ l3 then
some (l2, h2, n3)
else
gfR h2 l0 [12] 1 (fun v4 =>
nn v4 (fun p5 =>
alI (g_c G 0) h2 p5 (nI 1) (fun v6 =>
dzI v6 (
nm ((l2 ||| (((nI 1) <<< (((((l1 + l3)) - ((l1 + l3)) / v6 * v6)) &&& 31))))) (fun v7 =>
nm (l3 + (nI 1)) (fun v8 =>
((F_X12_turned_4 G n) h2 n3 l0 l1 v7 v8)))))))))) := rfl
set_option maxRecDepth 100000 in
set_option maxHeartbeats 4000000 in
theorem k_X12_turned_4 {G : Gx} {d : Nat} {v' : Int32} {h' : Hp} {n' : Nat} : ∀ (n : Nat) {h : Hp} {nx : Nat} {l0 : Nat} {l1 : Int32} {l2 : Int32} {l3 : Int32}, F_X12_turned_4 G n h nx l0 l1 l2 l3 = some (v', h', n') → Ok G mX12_turned (d + 1) (Same (some (.int v')) h' n') 4 [some (.ref l0), some (.int l1), some (.int l2), some (.int l3)] [] h nx 0 0 := by
  intro n
  induction n with
  | zero =>
    intro h nx l0 l1 l2 l3 e
    rw [F_X12_turned_4_0] at e
    cases e
  | succ n K4 =>
    intro h nx l0 l1 l2 l3 e
    rw [F_X12_turned_4_s] at e
    refine Ok.iload_n dX12_turned_4 rfl ?_
    refine Ok.aload_n dX12_turned_5 rfl ?_
    refine X.rck e (fun c fs hb hc e1 => ?_)
    clear e
    obtain rfl := List.mem_singleton.mp hc
    refine X.callV (My := mX12_looking) (n := 0) (As := []) (T := (fun v => (some (.int v)))) (stk' := (fun v => [.int v, .int l3])) (rest := [.int l3]) (kc' := 0) (ks' := 0) dX12_turned_6 e1 (fun v h n e => k_X12_looking (d := d + 0) e) hb rfl wd1376 wd80 wd1375 wd52 wd1373 (by decide +kernel) rfl (by decide) rfl rfl (Nat.le_of_ble_eq_true rfl) (Nat.le_of_ble_eq_true rfl) (Nat.le_of_ble_eq_true rfl) rfl rfl (fun _ => rfl) (fun r1 h2 n3 e2 => ?_)
    clear e1
    refine X.icmp_ge (tgt := 33) dX12_turned_9 (by decide) e2 (fun e3 => ?_) (fun e3 => ?_)
    · clear e2
      refine Ok.iload_n dX12_turned_33 rfl ?_
      exact X.iret dX12_turned_34 rfl (Nat.le_of_ble_eq_true rfl) (Nat.le_of_ble_eq_true rfl) e3
    · clear e2
      refine Ok.iload_n dX12_turned_12 rfl ?_
      refine Ok.iconstV (v := (nI 1)) dX12_turned_13 (by decide +kernel) ?_
      refine Ok.iload_n dX12_turned_14 rfl ?_
      refine Ok.iload_n dX12_turned_15 rfl ?_
      refine Ok.iadd dX12_turned_16 ?_
      refine Ok.aload_n dX12_turned_17 rfl ?_
      refine X.rgfR fl_RX12_9 dX12_turned_18 e3 (fun v4 e4 => ?_)
      clear e3
      refine Ok.iconstV (v := (nI 1)) dX12_turned_21 (by decide +kernel) ?_
      refine X.rnn e4 (fun p5 q e5 => ?_)
      clear e4
      subst q
      refine X.iald dX12_turned_22 e5 (fun v6 e6 => ?_)
      clear e5
      refine X.rdzI e6 (fun z e7 => ?_)
      clear e6
      refine Ok.irem dX12_turned_23 z ?_
      refine Ok.ishl dX12_turned_24 ?_
      refine Ok.ior dX12_turned_25 ?_
      refine X.istore_n dX12_turned_26 (by decide) e7 (L := fun v7 => [some (.ref l0), some (.int l1), some (.int v7), some (.int l3)]) (fun _ => rfl) (fun v7 e8 => ?_)
      clear e7
      refine X.iinc dX12_turned_27 rfl (by decide) (by decide +kernel) e8 (L := fun v8 => [some (.ref l0), some (.int l1), some (.int v7), some (.int v8)]) (fun _ => rfl) (fun v8 e9 => ?_)
      clear e8
      refine Ok.goto (tgt := 4) dX12_turned_30 (by decide) ?_
      exact Ok.weakL (K4 e9) ⟨rfl, ⟨rfl, ⟨rfl, ⟨rfl, trivial⟩⟩⟩⟩
noncomputable def F_X12_turned (G : Gx) (h : Hp) (nx : Nat) (a0 : Nat) (a1 : Int32) : Rz Int32 :=
(F_X12_turned_4 G fuelL h nx a0 a1 (nI 0) (nI 0))
set_option maxRecDepth 100000 in
set_option maxHeartbeats 4000000 in
theorem k_X12_turned {G : Gx} {d : Nat} {h : Hp} {nx : Nat} {a0 : Nat} {a1 : Int32} {v' : Int32} {h' : Hp} {n' : Nat} (e : F_X12_turned G h nx a0 a1 = some (v', h', n')) : Ct G mX12_turned (d + 1) (Same (some (.int v')) h' n') [.ref a0, .int a1] h nx := by
  unfold F_X12_turned at e
  refine Ct.of (ls := [some (.ref a0), some (.int a1), none, none]) (by decide +kernel) rfl (Nat.le_of_ble_eq_true rfl) rfl ?_
  refine Ok.iconstV (v := (nI 0)) dX12_turned_0 (by decide +kernel) ?_
  refine XL.istore_n dX12_turned_1 (by decide) (L := [some (.ref a0), some (.int a1), some (.int (nI 0)), none]) rfl ?_
  refine Ok.iconstV (v := (nI 0)) dX12_turned_2 (by decide +kernel) ?_
  refine XL.istore_n dX12_turned_3 (by decide) (L := [some (.ref a0), some (.int a1), some (.int (nI 0)), some (.int (nI 0))]) rfl ?_
  exact Ok.weakL (k_X12_turned_4 (d := d) fuelL e) ⟨rfl, ⟨rfl, ⟨rfl, ⟨rfl, trivial⟩⟩⟩⟩
noncomputable def F_X12_toldOn_103 (G : Gx) (k48 : Hp → Nat → Nat → Int32 → Int32 → Int32 → Rz Int32) (h : Hp) (nx : Nat) (s0 : Int32) (s1 : Int32) (l0 : Nat) (l3 : Int32) (l5 : Int32) : Rz Int32 :=
nm ((s0 ||| s1)) (fun v1 =>
nm (l5 + (nI 1)) (fun v2 =>
(k48 h nx l0 l3 v1 v2)))
set_option maxRecDepth 100000 in
set_option maxHeartbeats 4000000 in
theorem k_X12_toldOn_103 {G : Gx} {d : Nat} {v' : Int32} {h' : Hp} {n' : Nat} {k48 : Hp → Nat → Nat → Int32 → Int32 → Int32 → Rz Int32} (K48 : ∀ {h : Hp} {nx : Nat} {l0 : Nat} {l3 : Int32} {l4 : Int32} {l5 : Int32}, k48 h nx l0 l3 l4 l5 = some (v', h', n') → Ok G mX12_toldOn (d + 1) (Same (some (.int v')) h' n') 48 [some (.ref l0), none, none, some (.int l3), some (.int l4), some (.int l5), none] [] h nx 0 0) {h : Hp} {nx : Nat} {s0 : Int32} {s1 : Int32} {l0 : Nat} {l3 : Int32} {l5 : Int32} (e : F_X12_toldOn_103 G k48 h nx s0 s1 l0 l3 l5 = some (v', h', n')) : Ok G mX12_toldOn (d + 1) (Same (some (.int v')) h' n') 103 [some (.ref l0), none, none, some (.int l3), none, some (.int l5), none] [.int s1, .int s0] h nx 0 0 := by
  unfold F_X12_toldOn_103 at e
  refine Ok.ior dX12_toldOn_103 ?_
  refine X.istore dX12_toldOn_104 (by decide) e (L := fun v1 => [some (.ref l0), none, none, some (.int l3), some (.int v1), some (.int l5), none]) (fun _ => rfl) (fun v1 e1 => ?_)
  clear e
  refine X.iinc dX12_toldOn_106 rfl (by decide) (by decide +kernel) e1 (L := fun v2 => [some (.ref l0), none, none, some (.int l3), some (.int v1), some (.int v2), none]) (fun _ => rfl) (fun v2 e2 => ?_)
  clear e1
  refine Ok.goto (tgt := 48) dX12_toldOn_109 (by decide) ?_
  exact Ok.weakL (K48 e2) ⟨rfl, ⟨rfl, ⟨rfl, ⟨rfl, trivial⟩⟩⟩⟩
noncomputable def F_X12_toldOn_86 (G : Gx) (k48 : Hp → Nat → Nat → Int32 → Int32 → Int32 → Rz Int32) (h : Hp) (nx : Nat) (s0 : Int32) (l0 : Nat) (l3 : Int32) (l4 : Int32) (l5 : Int32) : Rz Int32 :=
if s0 = 0 then
(F_X12_toldOn_103 G k48 h nx l4 (nI 0) l0 l3 l5)
else
(F_X12_toldOn_103 G k48 h nx l4 (((nI 1) <<< (l5 &&& 31))) l0 l3 l5)
set_option maxRecDepth 100000 in
set_option maxHeartbeats 4000000 in
theorem k_X12_toldOn_86 {G : Gx} {d : Nat} {v' : Int32} {h' : Hp} {n' : Nat} {k48 : Hp → Nat → Nat → Int32 → Int32 → Int32 → Rz Int32} (K48 : ∀ {h : Hp} {nx : Nat} {l0 : Nat} {l3 : Int32} {l4 : Int32} {l5 : Int32}, k48 h nx l0 l3 l4 l5 = some (v', h', n') → Ok G mX12_toldOn (d + 1) (Same (some (.int v')) h' n') 48 [some (.ref l0), none, none, some (.int l3), some (.int l4), some (.int l5), none] [] h nx 0 0) {h : Hp} {nx : Nat} {s0 : Int32} {l0 : Nat} {l3 : Int32} {l4 : Int32} {l5 : Int32} (e : F_X12_toldOn_86 G k48 h nx s0 l0 l3 l4 l5 = some (v', h', n')) : Ok G mX12_toldOn (d + 1) (Same (some (.int v')) h' n') 86 [some (.ref l0), none, none, some (.int l3), some (.int l4), some (.int l5), none] [.int s0] h nx 0 0 := by
  unfold F_X12_toldOn_86 at e
  refine XL.istore dX12_toldOn_86 (by decide) (L := [some (.ref l0), none, none, some (.int l3), some (.int l4), some (.int l5), some (.int s0)]) rfl ?_
  refine Ok.iload dX12_toldOn_88 rfl ?_
  refine Ok.iload dX12_toldOn_90 rfl ?_
  refine X.if_eq (tgt := 102) dX12_toldOn_92 (by decide) e (fun e1 => ?_) (fun e1 => ?_)
  · clear e
    refine Ok.iconstV (v := (nI 0)) dX12_toldOn_102 (by decide +kernel) ?_
    exact Ok.weakL (k_X12_toldOn_103 (d := d) K48 e1) ⟨rfl, ⟨rfl, ⟨rfl, trivial⟩⟩⟩
  · clear e
    refine Ok.iconstV (v := (nI 1)) dX12_toldOn_95 (by decide +kernel) ?_
    refine Ok.iload dX12_toldOn_96 rfl ?_
    refine Ok.ishl dX12_toldOn_98 ?_
    refine Ok.goto (tgt := 103) dX12_toldOn_99 (by decide) ?_
    exact Ok.weakL (k_X12_toldOn_103 (d := d) K48 e1) ⟨rfl, ⟨rfl, ⟨rfl, trivial⟩⟩⟩
noncomputable def F_X12_toldOn_85 (G : Gx) (k48 : Hp → Nat → Nat → Int32 → Int32 → Int32 → Rz Int32) (h : Hp) (nx : Nat) (l0 : Nat) (l3 : Int32) (l4 : Int32) (l5 : Int32) : Rz Int32 :=
(F_X12_toldOn_86 G k48 h nx (nI 0) l0 l3 l4 l5)
set_option maxRecDepth 100000 in
set_option maxHeartbeats 4000000 in
theorem k_X12_toldOn_85 {G : Gx} {d : Nat} {v' : Int32} {h' : Hp} {n' : Nat} {k48 : Hp → Nat → Nat → Int32 → Int32 → Int32 → Rz Int32} (K48 : ∀ {h : Hp} {nx : Nat} {l0 : Nat} {l3 : Int32} {l4 : Int32} {l5 : Int32}, k48 h nx l0 l3 l4 l5 = some (v', h', n') → Ok G mX12_toldOn (d + 1) (Same (some (.int v')) h' n') 48 [some (.ref l0), none, none, some (.int l3), some (.int l4), some (.int l5), none] [] h nx 0 0) {h : Hp} {nx : Nat} {l0 : Nat} {l3 : Int32} {l4 : Int32} {l5 : Int32} (e : F_X12_toldOn_85 G k48 h nx l0 l3 l4 l5 = some (v', h', n')) : Ok G mX12_toldOn (d + 1) (Same (some (.int v')) h' n') 85 [some (.ref l0), none, none, some (.int l3), some (.int l4), some (.int l5), none] [] h nx 0 0 := by
  unfold F_X12_toldOn_85 at e
  refine Ok.iconstV (v := (nI 0)) dX12_toldOn_85 (by decide +kernel) ?_
  exact Ok.weakL (k_X12_toldOn_86 (d := d) K48 e) ⟨rfl, ⟨rfl, ⟨rfl, ⟨rfl, trivial⟩⟩⟩⟩
noncomputable def F_X12_toldOn_48 (G : Gx) : Nat → Hp → Nat → Nat → Int32 → Int32 → Int32 → Rz Int32 := fun n => Nat.rec (motive := fun _ => Hp → Nat → Nat → Int32 → Int32 → Int32 → Rz Int32) (fun _ _ _ _ _ _ => none) (fun _ k48 => fun h nx l0 l3 l4 l5 =>
gfR h l0 [12] 1 (fun v1 =>
nn v1 (fun p2 =>
alI (g_c G 0) h p2 (nI 1) (fun v3 =>
if v3 ≤ l5 then
some (l4, h, nx)
else
if ((((l3 >>> (l5 &&& 31))) &&& (nI 1))) = (nI 1) then
cl (F_X12_count1 G h nx l4) (fun r4 h5 n6 =>
ck h5 l0 [12] (fun _ =>
cl (F_X12_looking G h5 n6 l0) (fun r7 h8 n9 =>
if r7 ≤ r4 then
(F_X12_toldOn_85 G k48 h8 n9 l0 l3 l4 l5)
else
(F_X12_toldOn_86 G k48 h8 n9 (nI 1) l0 l3 l4 l5))))
else
(F_X12_toldOn_85 G k48 h nx l0 l3 l4 l5))))) n
theorem F_X12_toldOn_48_0 {G : Gx} {h : Hp} {nx : Nat} {l0 : Nat} {l3 : Int32} {l4 : Int32} {l5 : Int32} : F_X12_toldOn_48 G 0 h nx l0 l3 l4 l5 = none := rfl
theorem F_X12_toldOn_48_s {G : Gx} {n : Nat} {h : Hp} {nx : Nat} {l0 : Nat} {l3 : Int32} {l4 : Int32} {l5 : Int32} : F_X12_toldOn_48 G (n + 1) h nx l0 l3 l4 l5 = (
gfR h l0 [12] 1 (fun v1 =>
nn v1 (fun p2 =>
alI (g_c G 0) h p2 (nI 1) (fun v3 =>
if v3 ≤ l5 then
some (l4, h, nx)
else
if ((((l3 >>> (l5 &&& 31))) &&& (nI 1))) = (nI 1) then
cl (F_X12_count1 G h nx l4) (fun r4 h5 n6 =>
ck h5 l0 [12] (fun _ =>
cl (F_X12_looking G h5 n6 l0) (fun r7 h8 n9 =>
if r7 ≤ r4 then
(F_X12_toldOn_85 G (F_X12_toldOn_48 G n) h8 n9 l0 l3 l4 l5)
else
(F_X12_toldOn_86 G (F_X12_toldOn_48 G n) h8 n9 (nI 1) l0 l3 l4 l5))))
else
(F_X12_toldOn_85 G (F_X12_toldOn_48 G n) h nx l0 l3 l4 l5))))) := rfl
set_option maxRecDepth 100000 in
set_option maxHeartbeats 4000000 in
theorem k_X12_toldOn_48 {G : Gx} {d : Nat} {v' : Int32} {h' : Hp} {n' : Nat} : ∀ (n : Nat) {h : Hp} {nx : Nat} {l0 : Nat} {l3 : Int32} {l4 : Int32} {l5 : Int32}, F_X12_toldOn_48 G n h nx l0 l3 l4 l5 = some (v', h', n') → Ok G mX12_toldOn (d + 1) (Same (some (.int v')) h' n') 48 [some (.ref l0), none, none, some (.int l3), some (.int l4), some (.int l5), none] [] h nx 0 0 := by
  intro n
  induction n with
  | zero =>
    intro h nx l0 l3 l4 l5 e
    rw [F_X12_toldOn_48_0] at e
    cases e
  | succ n K48 =>
    intro h nx l0 l3 l4 l5 e
    rw [F_X12_toldOn_48_s] at e
    refine Ok.iload dX12_toldOn_48 rfl ?_
    refine Ok.aload_n dX12_toldOn_50 rfl ?_
    refine X.rgfR fl_RX12_9 dX12_toldOn_51 e (fun v1 e1 => ?_)
    clear e
    refine Ok.iconstV (v := (nI 1)) dX12_toldOn_54 (by decide +kernel) ?_
    refine X.rnn e1 (fun p2 q e2 => ?_)
    clear e1
    subst q
    refine X.iald dX12_toldOn_55 e2 (fun v3 e3 => ?_)
    clear e2
    refine X.icmp_ge (tgt := 112) dX12_toldOn_56 (by decide) e3 (fun e4 => ?_) (fun e4 => ?_)
    · clear e3
      refine Ok.iload dX12_toldOn_112 rfl ?_
      exact X.iret dX12_toldOn_114 rfl (Nat.le_of_ble_eq_true rfl) (Nat.le_of_ble_eq_true rfl) e4
    · clear e3
      refine Ok.iload_n dX12_toldOn_59 rfl ?_
      refine Ok.iload dX12_toldOn_60 rfl ?_
      refine Ok.ishr dX12_toldOn_62 ?_
      refine Ok.iconstV (v := (nI 1)) dX12_toldOn_63 (by decide +kernel) ?_
      refine Ok.iand dX12_toldOn_64 ?_
      refine Ok.iconstV (v := (nI 1)) dX12_toldOn_65 (by decide +kernel) ?_
      refine X.icmp_ne (tgt := 85) dX12_toldOn_66 (by decide) e4 (fun e5 => ?_) (fun e5 => ?_)
      · clear e4
        exact Ok.weakL (k_X12_toldOn_85 (d := d) K48 e5) ⟨rfl, ⟨rfl, ⟨rfl, ⟨rfl, trivial⟩⟩⟩⟩
      · clear e4
        refine Ok.iload dX12_toldOn_69 rfl ?_
        refine X.callS (My := mX12_count1) (n := 1) (As := [.int l4]) (T := (fun v => (some (.int v)))) (stk' := (fun v => [.int v])) (rest := []) (kc' := 0) (ks' := 0) dX12_toldOn_71 e5 (fun v h n e => k_X12_count1 (d := d + 0) e) wd1387 wd80 wd1386 wd1385 (by decide +kernel) rfl (by decide) rfl rfl (Nat.le_of_ble_eq_true rfl) (Nat.le_of_ble_eq_true rfl) (Nat.le_of_ble_eq_true rfl) rfl rfl (fun _ => rfl) (fun r4 h5 n6 e6 => ?_)
        clear e5
        refine Ok.aload_n dX12_toldOn_74 rfl ?_
        refine X.rck e6 (fun c fs hb hc e7 => ?_)
        clear e6
        obtain rfl := List.mem_singleton.mp hc
        refine X.callV (My := mX12_looking) (n := 0) (As := []) (T := (fun v => (some (.int v)))) (stk' := (fun v => [.int v, .int r4])) (rest := [.int r4]) (kc' := 0) (ks' := 0) dX12_toldOn_75 e7 (fun v h n e => k_X12_looking (d := d + 0) e) hb rfl wd1376 wd80 wd1375 wd52 wd1373 (by decide +kernel) rfl (by decide) rfl rfl (Nat.le_of_ble_eq_true rfl) (Nat.le_of_ble_eq_true rfl) (Nat.le_of_ble_eq_true rfl) rfl rfl (fun _ => rfl) (fun r7 h8 n9 e8 => ?_)
        clear e7
        refine X.icmp_ge (tgt := 85) dX12_toldOn_78 (by decide) e8 (fun e9 => ?_) (fun e9 => ?_)
        · clear e8
          exact Ok.weakL (k_X12_toldOn_85 (d := d) K48 e9) ⟨rfl, ⟨rfl, ⟨rfl, ⟨rfl, trivial⟩⟩⟩⟩
        · clear e8
          refine Ok.iconstV (v := (nI 1)) dX12_toldOn_81 (by decide +kernel) ?_
          refine Ok.goto (tgt := 86) dX12_toldOn_82 (by decide) ?_
          exact Ok.weakL (k_X12_toldOn_86 (d := d) K48 e9) ⟨rfl, ⟨rfl, ⟨rfl, ⟨rfl, trivial⟩⟩⟩⟩
noncomputable def F_X12_toldOn (G : Gx) (h : Hp) (nx : Nat) (a0 : Nat) (a1 : Int32) (a2 : Int32) : Rz Int32 :=
gfR h a0 [12] 1 (fun v1 =>
nn v1 (fun p2 =>
alI (g_c G 0) h p2 (((nI 1094) + a1)) (fun v3 =>
if v3 = 0 then
some ((nI 0), h, nx)
else
gfR h a0 [12] 1 (fun v4 =>
gfR h a0 [12] 1 (fun v5 =>
nn v5 (fun p6 =>
alI (g_c G 0) h p6 (((nI 1094) + a1)) (fun v7 =>
dzI v7 (
nn v4 (fun p8 =>
alI (g_c G 0) h p8 (((((nI 1110) + (((nI 10) * a1)))) + ((a2 - a2 / v7 * v7)))) (fun v9 =>
(F_X12_toldOn_48 G fuelL h nx a0 v9 (nI 0) (nI 0))))))))))))
set_option maxRecDepth 100000 in
set_option maxHeartbeats 4000000 in
theorem k_X12_toldOn {G : Gx} {d : Nat} {h : Hp} {nx : Nat} {a0 : Nat} {a1 : Int32} {a2 : Int32} {v' : Int32} {h' : Hp} {n' : Nat} (e : F_X12_toldOn G h nx a0 a1 a2 = some (v', h', n')) : Ct G mX12_toldOn (d + 1) (Same (some (.int v')) h' n') [.ref a0, .int a1, .int a2] h nx := by
  unfold F_X12_toldOn at e
  refine Ct.of (ls := [some (.ref a0), some (.int a1), some (.int a2), none, none, none, none]) (by decide +kernel) rfl (Nat.le_of_ble_eq_true rfl) rfl ?_
  refine Ok.aload_n dX12_toldOn_0 rfl ?_
  refine X.rgfR fl_RX12_9 dX12_toldOn_1 e (fun v1 e1 => ?_)
  clear e
  refine Ok.sipushV (v := (nI 1094)) dX12_toldOn_4 (by decide +kernel) ?_
  refine Ok.iload_n dX12_toldOn_7 rfl ?_
  refine Ok.iadd dX12_toldOn_8 ?_
  refine X.rnn e1 (fun p2 q e2 => ?_)
  clear e1
  subst q
  refine X.iald dX12_toldOn_9 e2 (fun v3 e3 => ?_)
  clear e2
  refine X.if_ne (tgt := 15) dX12_toldOn_10 (by decide) e3 (fun e4 => ?_) (fun e4 => ?_)
  · clear e3
    refine Ok.aload_n dX12_toldOn_15 rfl ?_
    refine X.rgfR fl_RX12_9 dX12_toldOn_16 e4 (fun v4 e5 => ?_)
    clear e4
    refine Ok.sipushV (v := (nI 1110)) dX12_toldOn_19 (by decide +kernel) ?_
    refine Ok.bipushV (v := (nI 10)) dX12_toldOn_22 (by decide +kernel) ?_
    refine Ok.iload_n dX12_toldOn_24 rfl ?_
    refine Ok.imul dX12_toldOn_25 ?_
    refine Ok.iadd dX12_toldOn_26 ?_
    refine Ok.iload_n dX12_toldOn_27 rfl ?_
    refine Ok.aload_n dX12_toldOn_28 rfl ?_
    refine X.rgfR fl_RX12_9 dX12_toldOn_29 e5 (fun v5 e6 => ?_)
    clear e5
    refine Ok.sipushV (v := (nI 1094)) dX12_toldOn_32 (by decide +kernel) ?_
    refine Ok.iload_n dX12_toldOn_35 rfl ?_
    refine Ok.iadd dX12_toldOn_36 ?_
    refine X.rnn e6 (fun p6 q e7 => ?_)
    clear e6
    subst q
    refine X.iald dX12_toldOn_37 e7 (fun v7 e8 => ?_)
    clear e7
    refine X.rdzI e8 (fun z e9 => ?_)
    clear e8
    refine Ok.irem dX12_toldOn_38 z ?_
    refine Ok.iadd dX12_toldOn_39 ?_
    refine X.rnn e9 (fun p8 q e10 => ?_)
    clear e9
    subst q
    refine X.iald dX12_toldOn_40 e10 (fun v9 e11 => ?_)
    clear e10
    refine XL.istore_n dX12_toldOn_41 (by decide) (L := [some (.ref a0), some (.int a1), some (.int a2), some (.int v9), none, none, none]) rfl ?_
    refine Ok.iconstV (v := (nI 0)) dX12_toldOn_42 (by decide +kernel) ?_
    refine XL.istore dX12_toldOn_43 (by decide) (L := [some (.ref a0), some (.int a1), some (.int a2), some (.int v9), some (.int (nI 0)), none, none]) rfl ?_
    refine Ok.iconstV (v := (nI 0)) dX12_toldOn_45 (by decide +kernel) ?_
    refine XL.istore dX12_toldOn_46 (by decide) (L := [some (.ref a0), some (.int a1), some (.int a2), some (.int v9), some (.int (nI 0)), some (.int (nI 0)), none]) rfl ?_
    exact Ok.weakL (k_X12_toldOn_48 (d := d) fuelL e11) ⟨rfl, ⟨rfl, ⟨rfl, ⟨rfl, trivial⟩⟩⟩⟩
  · clear e3
    refine Ok.iconstV (v := (nI 0)) dX12_toldOn_13 (by decide +kernel) ?_
    exact X.iret dX12_toldOn_14 rfl (Nat.le_of_ble_eq_true rfl) (Nat.le_of_ble_eq_true rfl) e4
noncomputable def F_X12_whomOn_125 (G : Gx) (h : Hp) (nx : Nat) (l0 : Nat) (l1 : Int32) : Rz Int32 :=
ck h l0 [12] (fun _ =>
cl (F_X12_greatest G h nx l0 l1) (fun r1 h2 n3 =>
some (r1, h2, n3)))
set_option maxRecDepth 100000 in
set_option maxHeartbeats 4000000 in
theorem k_X12_whomOn_125 {G : Gx} {d : Nat} {v' : Int32} {h' : Hp} {n' : Nat} {h : Hp} {nx : Nat} {l0 : Nat} {l1 : Int32} (e : F_X12_whomOn_125 G h nx l0 l1 = some (v', h', n')) : Ok G mX12_whomOn (d + 72) (Same (some (.int v')) h' n') 125 [some (.ref l0), some (.int l1), none] [] h nx 0 0 := by
  unfold F_X12_whomOn_125 at e
  refine Ok.aload_n dX12_whomOn_125 rfl ?_
  refine Ok.iload_n dX12_whomOn_126 rfl ?_
  refine X.rck e (fun c fs hb hc e1 => ?_)
  clear e
  obtain rfl := List.mem_singleton.mp hc
  refine X.callV (My := mX12_greatest) (n := 1) (As := [.int l1]) (T := (fun v => (some (.int v)))) (stk' := (fun v => [.int v])) (rest := []) (kc' := 0) (ks' := 0) dX12_whomOn_127 e1 (fun v h n e => k_X12_greatest (d := d + 0) e) hb rfl wd1391 wd80 wd1390 wd55 wd1388 (by decide +kernel) rfl (by decide) rfl rfl (Nat.le_of_ble_eq_true rfl) (Nat.le_of_ble_eq_true rfl) (Nat.le_of_ble_eq_true rfl) rfl rfl (fun _ => rfl) (fun r1 h2 n3 e2 => ?_)
  clear e1
  exact X.iret dX12_whomOn_130 rfl (Nat.le_of_ble_eq_true rfl) (Nat.le_of_ble_eq_true rfl) e2
noncomputable def F_X12_whomOn (G : Gx) (h : Hp) (nx : Nat) (a0 : Nat) (a1 : Int32) (a2 : Int32) : Rz Int32 :=
gfR h a0 [12] 1 (fun v1 =>
nn v1 (fun p2 =>
alI (g_c G 0) h p2 (nI 1) (fun v3 =>
if v3 = 0 then
some ((nI 0), h, nx)
else
gfR h a0 [12] 1 (fun v4 =>
nn v4 (fun p5 =>
alI (g_c G 0) h p5 (((nI 1070) + a1)) (fun v6 =>
if v6 = (nI 2) then
ck h a0 [12] (fun _ =>
cl (F_X12_looking G h nx a0) (fun r7 h8 n9 =>
gfR h8 a0 [12] 1 (fun v10 =>
nn v10 (fun p11 =>
alI (g_c G 0) h8 p11 (((nI 1082) + a1)) (fun v12 =>
gfR h8 a0 [12] 1 (fun v13 =>
nn v13 (fun p14 =>
alI (g_c G 0) h8 p14 (nI 1) (fun v15 =>
dzI v15 (
ck h8 a0 [12] (fun _ =>
cl (F_X12_turned G h8 n9 a0 ((((((a2 * r7)) + v12)) - ((((a2 * r7)) + v12)) / v15 * v15))) (fun r16 h17 n18 =>
some (r16, h17, n18))))))))))))
else
if v6 = (nI 3) then
(F_X12_whomOn_125 G h nx a0 a1)
else
if v6 = (nI 4) then
gfR h a0 [12] 1 (fun v19 =>
nn v19 (fun p20 =>
alI (g_c G 0) h p20 (((nI 1082) + a1)) (fun v21 =>
gfR h a0 [12] 1 (fun v22 =>
nn v22 (fun p23 =>
alI (g_c G 0) h p23 (nI 1) (fun v24 =>
dzI v24 (
ck h a0 [12] (fun _ =>
cl (F_X12_turned G h nx a0 (((((((((nI 31) * a2)) + (((nI 17) * v21)))) - (((((nI 31) * a2)) + (((nI 17) * v21)))) / (nI 97) * (nI 97))) - (((((((nI 31) * a2)) + (((nI 17) * v21)))) - (((((nI 31) * a2)) + (((nI 17) * v21)))) / (nI 97) * (nI 97))) / v24 * v24))) (fun r25 h26 n27 =>
some (r25, h26, n27))))))))))
else
if v6 = (nI 5) then
(F_X12_whomOn_125 G h nx a0 a1)
else
if v6 = (nI 6) then
ck h a0 [12] (fun _ =>
cl (F_X12_toldOn G h nx a0 a1 a2) (fun r28 h29 n30 =>
some (r28, h29, n30)))
else
(F_X12_whomOn_125 G h nx a0 a1)))))))
set_option maxRecDepth 100000 in
set_option maxHeartbeats 4000000 in
theorem k_X12_whomOn {G : Gx} {d : Nat} {h : Hp} {nx : Nat} {a0 : Nat} {a1 : Int32} {a2 : Int32} {v' : Int32} {h' : Hp} {n' : Nat} (e : F_X12_whomOn G h nx a0 a1 a2 = some (v', h', n')) : Ct G mX12_whomOn (d + 72) (Same (some (.int v')) h' n') [.ref a0, .int a1, .int a2] h nx := by
  unfold F_X12_whomOn at e
  refine Ct.of (ls := [some (.ref a0), some (.int a1), some (.int a2)]) (by decide +kernel) rfl (Nat.le_of_ble_eq_true rfl) rfl ?_
  refine Ok.aload_n dX12_whomOn_0 rfl ?_
  refine X.rgfR fl_RX12_9 dX12_whomOn_1 e (fun v1 e1 => ?_)
  clear e
  refine Ok.iconstV (v := (nI 1)) dX12_whomOn_4 (by decide +kernel) ?_
  refine X.rnn e1 (fun p2 q e2 => ?_)
  clear e1
  subst q
  refine X.iald dX12_whomOn_5 e2 (fun v3 e3 => ?_)
  clear e2
  refine X.if_ne (tgt := 11) dX12_whomOn_6 (by decide) e3 (fun e4 => ?_) (fun e4 => ?_)
  · clear e3
    refine Ok.aload_n dX12_whomOn_11 rfl ?_
    refine X.rgfR fl_RX12_9 dX12_whomOn_12 e4 (fun v4 e5 => ?_)
    clear e4
    refine Ok.sipushV (v := (nI 1070)) dX12_whomOn_15 (by decide +kernel) ?_
    refine Ok.iload_n dX12_whomOn_18 rfl ?_
    refine Ok.iadd dX12_whomOn_19 ?_
    refine X.rnn e5 (fun p5 q e6 => ?_)
    clear e5
    subst q
    refine X.iald dX12_whomOn_20 e6 (fun v6 e7 => ?_)
    clear e6
    refine X.sw e7 (fun c0 e8 => ?_) (fun c0 e8 => ?_)
    · clear e7
      rw [c0]
      refine Ok.tableIn (off := 35) (tgt := 56) dX12_whomOn_21 (by decide) (by decide) (by decide +kernel) (by decide) ?_
      refine Ok.aload_n dX12_whomOn_56 rfl ?_
      refine Ok.iload_n dX12_whomOn_57 rfl ?_
      refine Ok.aload_n dX12_whomOn_58 rfl ?_
      refine X.rck e8 (fun c fs hb hc e9 => ?_)
      clear e8
      obtain rfl := List.mem_singleton.mp hc
      refine X.callV (My := mX12_looking) (n := 0) (As := []) (T := (fun v => (some (.int v)))) (stk' := (fun v => [.int v, .int a2, .ref a0])) (rest := [.int a2, .ref a0]) (kc' := 0) (ks' := 0) dX12_whomOn_59 e9 (fun v h n e => k_X12_looking (d := d + 71) e) hb rfl wd1376 wd80 wd1375 wd52 wd1373 (by decide +kernel) rfl (by decide) rfl rfl (Nat.le_of_ble_eq_true rfl) (Nat.le_of_ble_eq_true rfl) (Nat.le_of_ble_eq_true rfl) rfl rfl (fun _ => rfl) (fun r7 h8 n9 e10 => ?_)
      clear e9
      refine Ok.imul dX12_whomOn_62 ?_
      refine Ok.aload_n dX12_whomOn_63 rfl ?_
      refine X.rgfR fl_RX12_9 dX12_whomOn_64 e10 (fun v10 e11 => ?_)
      clear e10
      refine Ok.sipushV (v := (nI 1082)) dX12_whomOn_67 (by decide +kernel) ?_
      refine Ok.iload_n dX12_whomOn_70 rfl ?_
      refine Ok.iadd dX12_whomOn_71 ?_
      refine X.rnn e11 (fun p11 q e12 => ?_)
      clear e11
      subst q
      refine X.iald dX12_whomOn_72 e12 (fun v12 e13 => ?_)
      clear e12
      refine Ok.iadd dX12_whomOn_73 ?_
      refine Ok.aload_n dX12_whomOn_74 rfl ?_
      refine X.rgfR fl_RX12_9 dX12_whomOn_75 e13 (fun v13 e14 => ?_)
      clear e13
      refine Ok.iconstV (v := (nI 1)) dX12_whomOn_78 (by decide +kernel) ?_
      refine X.rnn e14 (fun p14 q e15 => ?_)
      clear e14
      subst q
      refine X.iald dX12_whomOn_79 e15 (fun v15 e16 => ?_)
      clear e15
      refine X.rdzI e16 (fun z e17 => ?_)
      clear e16
      refine Ok.irem dX12_whomOn_80 z ?_
      refine X.rck e17 (fun c fs hb hc e18 => ?_)
      clear e17
      obtain rfl := List.mem_singleton.mp hc
      refine X.callV (My := mX12_turned) (n := 1) (As := [.int ((((((a2 * r7)) + v12)) - ((((a2 * r7)) + v12)) / v15 * v15))]) (T := (fun v => (some (.int v)))) (stk' := (fun v => [.int v])) (rest := []) (kc' := 0) (ks' := 0) dX12_whomOn_81 e18 (fun v h n e => k_X12_turned (d := d + 70) e) hb rfl wd1380 wd80 wd1379 wd53 wd1377 (by decide +kernel) rfl (by decide) rfl rfl (Nat.le_of_ble_eq_true rfl) (Nat.le_of_ble_eq_true rfl) (Nat.le_of_ble_eq_true rfl) rfl rfl (fun _ => rfl) (fun r16 h17 n18 e19 => ?_)
      clear e18
      exact X.iret dX12_whomOn_84 rfl (Nat.le_of_ble_eq_true rfl) (Nat.le_of_ble_eq_true rfl) e19
    refine X.sw e8 (fun c1 e9 => ?_) (fun c1 e9 => ?_)
    · clear e8
      rw [c1]
      refine Ok.tableIn (off := 104) (tgt := 125) dX12_whomOn_21 (by decide) (by decide) (by decide +kernel) (by decide) ?_
      exact Ok.weakL (k_X12_whomOn_125 (d := d) e9) ⟨rfl, ⟨rfl, trivial⟩⟩
    refine X.sw e9 (fun c2 e10 => ?_) (fun c2 e10 => ?_)
    · clear e9
      rw [c2]
      refine Ok.tableIn (off := 64) (tgt := 85) dX12_whomOn_21 (by decide) (by decide) (by decide +kernel) (by decide) ?_
      refine Ok.aload_n dX12_whomOn_85 rfl ?_
      refine Ok.bipushV (v := (nI 31)) dX12_whomOn_86 (by decide +kernel) ?_
      refine Ok.iload_n dX12_whomOn_88 rfl ?_
      refine Ok.imul dX12_whomOn_89 ?_
      refine Ok.bipushV (v := (nI 17)) dX12_whomOn_90 (by decide +kernel) ?_
      refine Ok.aload_n dX12_whomOn_92 rfl ?_
      refine X.rgfR fl_RX12_9 dX12_whomOn_93 e10 (fun v19 e11 => ?_)
      clear e10
      refine Ok.sipushV (v := (nI 1082)) dX12_whomOn_96 (by decide +kernel) ?_
      refine Ok.iload_n dX12_whomOn_99 rfl ?_
      refine Ok.iadd dX12_whomOn_100 ?_
      refine X.rnn e11 (fun p20 q e12 => ?_)
      clear e11
      subst q
      refine X.iald dX12_whomOn_101 e12 (fun v21 e13 => ?_)
      clear e12
      refine Ok.imul dX12_whomOn_102 ?_
      refine Ok.iadd dX12_whomOn_103 ?_
      refine Ok.bipushV (v := (nI 97)) dX12_whomOn_104 (by decide +kernel) ?_
      refine Ok.irem dX12_whomOn_106 (by decide +kernel) ?_
      refine Ok.aload_n dX12_whomOn_107 rfl ?_
      refine X.rgfR fl_RX12_9 dX12_whomOn_108 e13 (fun v22 e14 => ?_)
      clear e13
      refine Ok.iconstV (v := (nI 1)) dX12_whomOn_111 (by decide +kernel) ?_
      refine X.rnn e14 (fun p23 q e15 => ?_)
      clear e14
      subst q
      refine X.iald dX12_whomOn_112 e15 (fun v24 e16 => ?_)
      clear e15
      refine X.rdzI e16 (fun z e17 => ?_)
      clear e16
      refine Ok.irem dX12_whomOn_113 z ?_
      refine X.rck e17 (fun c fs hb hc e18 => ?_)
      clear e17
      obtain rfl := List.mem_singleton.mp hc
      refine X.callV (My := mX12_turned) (n := 1) (As := [.int (((((((((nI 31) * a2)) + (((nI 17) * v21)))) - (((((nI 31) * a2)) + (((nI 17) * v21)))) / (nI 97) * (nI 97))) - (((((((nI 31) * a2)) + (((nI 17) * v21)))) - (((((nI 31) * a2)) + (((nI 17) * v21)))) / (nI 97) * (nI 97))) / v24 * v24))]) (T := (fun v => (some (.int v)))) (stk' := (fun v => [.int v])) (rest := []) (kc' := 0) (ks' := 0) dX12_whomOn_114 e18 (fun v h n e => k_X12_turned (d := d + 70) e) hb rfl wd1380 wd80 wd1379 wd53 wd1377 (by decide +kernel) rfl (by decide) rfl rfl (Nat.le_of_ble_eq_true rfl) (Nat.le_of_ble_eq_true rfl) (Nat.le_of_ble_eq_true rfl) rfl rfl (fun _ => rfl) (fun r25 h26 n27 e19 => ?_)
      clear e18
      exact X.iret dX12_whomOn_117 rfl (Nat.le_of_ble_eq_true rfl) (Nat.le_of_ble_eq_true rfl) e19
    refine X.sw e10 (fun c3 e11 => ?_) (fun c3 e11 => ?_)
    · clear e10
      rw [c3]
      refine Ok.tableIn (off := 104) (tgt := 125) dX12_whomOn_21 (by decide) (by decide) (by decide +kernel) (by decide) ?_
      exact Ok.weakL (k_X12_whomOn_125 (d := d) e11) ⟨rfl, ⟨rfl, trivial⟩⟩
    refine X.sw e11 (fun c4 e12 => ?_) (fun c4 e12 => ?_)
    · clear e11
      rw [c4]
      refine Ok.tableIn (off := 97) (tgt := 118) dX12_whomOn_21 (by decide) (by decide) (by decide +kernel) (by decide) ?_
      refine Ok.aload_n dX12_whomOn_118 rfl ?_
      refine Ok.iload_n dX12_whomOn_119 rfl ?_
      refine Ok.iload_n dX12_whomOn_120 rfl ?_
      refine X.rck e12 (fun c fs hb hc e13 => ?_)
      clear e12
      obtain rfl := List.mem_singleton.mp hc
      refine X.callV (My := mX12_toldOn) (n := 2) (As := [.int a1, .int a2]) (T := (fun v => (some (.int v)))) (stk' := (fun v => [.int v])) (rest := []) (kc' := 0) (ks' := 0) dX12_whomOn_121 e13 (fun v h n e => k_X12_toldOn (d := d + 70) e) hb rfl wd1384 wd80 wd1383 wd54 wd1381 (by decide +kernel) rfl (by decide) rfl rfl (Nat.le_of_ble_eq_true rfl) (Nat.le_of_ble_eq_true rfl) (Nat.le_of_ble_eq_true rfl) rfl rfl (fun _ => rfl) (fun r28 h29 n30 e14 => ?_)
      clear e13
      exact X.iret dX12_whomOn_124 rfl (Nat.le_of_ble_eq_true rfl) (Nat.le_of_ble_eq_true rfl) e14
    refine Ok.tableOut (tgt := 125) dX12_whomOn_21 (sw_out 2 5 (fun i hi => match i, hi with | 0, _ => c0 | 1, _ => c1 | 2, _ => c2 | 3, _ => c3 | 4, _ => c4 | _ + 5, q => absurd q (by omega))) (by decide) ?_
    exact Ok.weakL (k_X12_whomOn_125 (d := d) e12) ⟨rfl, ⟨rfl, trivial⟩⟩
  · clear e3
    refine Ok.iconstV (v := (nI 0)) dX12_whomOn_9 (by decide +kernel) ?_
    exact X.iret dX12_whomOn_10 rfl (Nat.le_of_ble_eq_true rfl) (Nat.le_of_ble_eq_true rfl) e4
noncomputable def F_X12_whom_23 (G : Gx) (h : Hp) (nx : Nat) (s0 : Int32) : Rz Int32 :=
some (s0, h, nx)
set_option maxRecDepth 100000 in
set_option maxHeartbeats 4000000 in
theorem k_X12_whom_23 {G : Gx} {d : Nat} {v' : Int32} {h' : Hp} {n' : Nat} {h : Hp} {nx : Nat} {s0 : Int32} (e : F_X12_whom_23 G h nx s0 = some (v', h', n')) : Ok G mX12_whom (d + 73) (Same (some (.int v')) h' n') 23 [none, none] [.int s0] h nx 0 0 := by
  unfold F_X12_whom_23 at e
  exact X.iret dX12_whom_23 rfl (Nat.le_of_ble_eq_true rfl) (Nat.le_of_ble_eq_true rfl) e
noncomputable def F_X12_whom (G : Gx) (h : Hp) (nx : Nat) (a0 : Nat) (a1 : Int32) : Rz Int32 :=
ck h a0 [12] (fun _ =>
cl (F_X12_isPlan G h nx a0 a1) (fun r1 h2 n3 =>
if r1 = 0 then
(F_X12_whom_23 G h2 n3 (-1 : Int32))
else
gfR h2 a0 [12] 1 (fun v4 =>
nn v4 (fun p5 =>
alI (g_c G 0) h2 p5 (nI 3) (fun v6 =>
ck h2 a0 [12] (fun _ =>
cl (F_X12_whomOn G h2 n3 a0 a1 v6) (fun r7 h8 n9 =>
(F_X12_whom_23 G h8 n9 r7))))))))
set_option maxRecDepth 100000 in
set_option maxHeartbeats 4000000 in
theorem k_X12_whom {G : Gx} {d : Nat} {h : Hp} {nx : Nat} {a0 : Nat} {a1 : Int32} {v' : Int32} {h' : Hp} {n' : Nat} (e : F_X12_whom G h nx a0 a1 = some (v', h', n')) : Ct G mX12_whom (d + 73) (Same (some (.int v')) h' n') [.ref a0, .int a1] h nx := by
  unfold F_X12_whom at e
  refine Ct.of (ls := [some (.ref a0), some (.int a1)]) (by decide +kernel) rfl (Nat.le_of_ble_eq_true rfl) rfl ?_
  refine Ok.aload_n dX12_whom_0 rfl ?_
  refine Ok.iload_n dX12_whom_1 rfl ?_
  refine X.rck e (fun c fs hb hc e1 => ?_)
  clear e
  obtain rfl := List.mem_singleton.mp hc
  refine X.callV (My := mX12_isPlan) (n := 1) (As := [.int a1]) (T := (fun v => (some (.int v)))) (stk' := (fun v => [.int v])) (rest := []) (kc' := 0) (ks' := 0) dX12_whom_2 e1 (fun v h n e => k_X12_isPlan (d := d + 71) e) hb rfl wd1364 wd80 wd1363 wd50 wd1361 (by decide +kernel) rfl (by decide) rfl rfl (Nat.le_of_ble_eq_true rfl) (Nat.le_of_ble_eq_true rfl) (Nat.le_of_ble_eq_true rfl) rfl rfl (fun _ => rfl) (fun r1 h2 n3 e2 => ?_)
  clear e1
  refine X.if_eq (tgt := 22) dX12_whom_5 (by decide) e2 (fun e3 => ?_) (fun e3 => ?_)
  · clear e2
    refine Ok.iconstV (v := (-1 : Int32)) dX12_whom_22 (by decide +kernel) ?_
    exact Ok.weakL (k_X12_whom_23 (d := d) e3) trivial
  · clear e2
    refine Ok.aload_n dX12_whom_8 rfl ?_
    refine Ok.iload_n dX12_whom_9 rfl ?_
    refine Ok.aload_n dX12_whom_10 rfl ?_
    refine X.rgfR fl_RX12_9 dX12_whom_11 e3 (fun v4 e4 => ?_)
    clear e3
    refine Ok.iconstV (v := (nI 3)) dX12_whom_14 (by decide +kernel) ?_
    refine X.rnn e4 (fun p5 q e5 => ?_)
    clear e4
    subst q
    refine X.iald dX12_whom_15 e5 (fun v6 e6 => ?_)
    clear e5
    refine X.rck e6 (fun c fs hb hc e7 => ?_)
    clear e6
    obtain rfl := List.mem_singleton.mp hc
    refine X.callV (My := mX12_whomOn) (n := 2) (As := [.int a1, .int v6]) (T := (fun v => (some (.int v)))) (stk' := (fun v => [.int v])) (rest := []) (kc' := 0) (ks' := 0) dX12_whom_16 e7 (fun v h n e => k_X12_whomOn (d := d + 0) e) hb rfl wd1372 wd80 wd1371 wd51 wd1369 (by decide +kernel) rfl (by decide) rfl rfl (Nat.le_of_ble_eq_true rfl) (Nat.le_of_ble_eq_true rfl) (Nat.le_of_ble_eq_true rfl) rfl rfl (fun _ => rfl) (fun r7 h8 n9 e8 => ?_)
    clear e7
    refine Ok.goto (tgt := 23) dX12_whom_19 (by decide) ?_
    exact Ok.weakL (k_X12_whom_23 (d := d) e8) trivial
noncomputable def F_X12_lookedAt_36 (G : Gx) (h : Hp) (nx : Nat) (s0 : Int32) : Rz Int32 :=
some (s0, h, nx)
set_option maxRecDepth 100000 in
set_option maxHeartbeats 4000000 in
theorem k_X12_lookedAt_36 {G : Gx} {d : Nat} {v' : Int32} {h' : Hp} {n' : Nat} {h : Hp} {nx : Nat} {s0 : Int32} (e : F_X12_lookedAt_36 G h nx s0 = some (v', h', n')) : Ok G mX12_lookedAt (d + 73) (Same (some (.int v')) h' n') 36 [none, none, none] [.int s0] h nx 0 0 := by
  unfold F_X12_lookedAt_36 at e
  exact X.iret dX12_lookedAt_36 rfl (Nat.le_of_ble_eq_true rfl) (Nat.le_of_ble_eq_true rfl) e
noncomputable def F_X12_lookedAt (G : Gx) (h : Hp) (nx : Nat) (a0 : Nat) (a1 : Int32) (a2 : Int32) : Rz Int32 :=
gfI h a0 [12] 25 (fun v1 =>
if v1 ≤ 0 then
ck h a0 [12] (fun _ =>
cl (F_X12_whomOn G h nx a0 a1 a2) (fun r2 h3 n4 =>
(F_X12_lookedAt_36 G h3 n4 r2)))
else
gfR h a0 [12] 24 (fun v5 =>
gfR h a0 [12] 1 (fun v6 =>
nn v6 (fun p7 =>
alI (g_c G 0) h p7 (nI 3) (fun v8 =>
gfI h a0 [12] 25 (fun v9 =>
dzI v9 (
nn v5 (fun p10 =>
alI (g_c G 0) h p10 ((((a2 - v8)) - ((a2 - v8)) / v9 * v9)) (fun v11 =>
(F_X12_lookedAt_36 G h nx (((nI 1) <<< (v11 &&& 31)))))))))))))
set_option maxRecDepth 100000 in
set_option maxHeartbeats 4000000 in
theorem k_X12_lookedAt {G : Gx} {d : Nat} {h : Hp} {nx : Nat} {a0 : Nat} {a1 : Int32} {a2 : Int32} {v' : Int32} {h' : Hp} {n' : Nat} (e : F_X12_lookedAt G h nx a0 a1 a2 = some (v', h', n')) : Ct G mX12_lookedAt (d + 73) (Same (some (.int v')) h' n') [.ref a0, .int a1, .int a2] h nx := by
  unfold F_X12_lookedAt at e
  refine Ct.of (ls := [some (.ref a0), some (.int a1), some (.int a2)]) (by decide +kernel) rfl (Nat.le_of_ble_eq_true rfl) rfl ?_
  refine Ok.aload_n dX12_lookedAt_0 rfl ?_
  refine X.rgfI fl_RX12_244 dX12_lookedAt_1 e (fun v1 e1 => ?_)
  clear e
  refine X.if_le (tgt := 30) dX12_lookedAt_4 (by decide) e1 (fun e2 => ?_) (fun e2 => ?_)
  · clear e1
    refine Ok.aload_n dX12_lookedAt_30 rfl ?_
    refine Ok.iload_n dX12_lookedAt_31 rfl ?_
    refine Ok.iload_n dX12_lookedAt_32 rfl ?_
    refine X.rck e2 (fun c fs hb hc e3 => ?_)
    clear e2
    obtain rfl := List.mem_singleton.mp hc
    refine X.callV (My := mX12_whomOn) (n := 2) (As := [.int a1, .int a2]) (T := (fun v => (some (.int v)))) (stk' := (fun v => [.int v])) (rest := []) (kc' := 0) (ks' := 0) dX12_lookedAt_33 e3 (fun v h n e => k_X12_whomOn (d := d + 0) e) hb rfl wd1372 wd80 wd1371 wd51 wd1369 (by decide +kernel) rfl (by decide) rfl rfl (Nat.le_of_ble_eq_true rfl) (Nat.le_of_ble_eq_true rfl) (Nat.le_of_ble_eq_true rfl) rfl rfl (fun _ => rfl) (fun r2 h3 n4 e4 => ?_)
    clear e3
    exact Ok.weakL (k_X12_lookedAt_36 (d := d) e4) trivial
  · clear e1
    refine Ok.iconstV (v := (nI 1)) dX12_lookedAt_7 (by decide +kernel) ?_
    refine Ok.aload_n dX12_lookedAt_8 rfl ?_
    refine X.rgfR fl_RX12_54 dX12_lookedAt_9 e2 (fun v5 e3 => ?_)
    clear e2
    refine Ok.iload_n dX12_lookedAt_12 rfl ?_
    refine Ok.aload_n dX12_lookedAt_13 rfl ?_
    refine X.rgfR fl_RX12_9 dX12_lookedAt_14 e3 (fun v6 e4 => ?_)
    clear e3
    refine Ok.iconstV (v := (nI 3)) dX12_lookedAt_17 (by decide +kernel) ?_
    refine X.rnn e4 (fun p7 q e5 => ?_)
    clear e4
    subst q
    refine X.iald dX12_lookedAt_18 e5 (fun v8 e6 => ?_)
    clear e5
    refine Ok.isub dX12_lookedAt_19 ?_
    refine Ok.aload_n dX12_lookedAt_20 rfl ?_
    refine X.rgfI fl_RX12_244 dX12_lookedAt_21 e6 (fun v9 e7 => ?_)
    clear e6
    refine X.rdzI e7 (fun z e8 => ?_)
    clear e7
    refine Ok.irem dX12_lookedAt_24 z ?_
    refine X.rnn e8 (fun p10 q e9 => ?_)
    clear e8
    subst q
    refine X.iald dX12_lookedAt_25 e9 (fun v11 e10 => ?_)
    clear e9
    refine Ok.ishl dX12_lookedAt_26 ?_
    refine Ok.goto (tgt := 36) dX12_lookedAt_27 (by decide) ?_
    exact Ok.weakL (k_X12_lookedAt_36 (d := d) e10) trivial
noncomputable def F_X12_bringsAll_4 (G : Gx) : Nat → Hp → Nat → Nat → Int64 → Int32 → Rz Int64 := fun n => Nat.rec (motive := fun _ => Hp → Nat → Nat → Int64 → Int32 → Rz Int64) (fun _ _ _ _ _ => none) (fun _ k4 => fun h nx l0 l1 l3 =>
gfR h l0 [12] 1 (fun v1 =>
nn v1 (fun p2 =>
alI (g_c G 0) h p2 (nI 1) (fun v3 =>
if v3 ≤ l3 then
some (l1, h, nx)
else
gfR h l0 [12] 1 (fun v4 =>
nn v4 (fun p5 =>
alI (g_c G 0) h p5 (((nI 1034) + l3)) (fun v6 =>
ck h l0 [12] (fun _ =>
cl (F_X12_brings G h nx l0 l3 v6) (fun r7 h8 n9 =>
nm ((l1 + r7)) (fun v10 =>
nm (l3 + (nI 1)) (fun v11 =>
(k4 h8 n9 l0 v10 v11)))))))))))) n
theorem F_X12_bringsAll_4_0 {G : Gx} {h : Hp} {nx : Nat} {l0 : Nat} {l1 : Int64} {l3 : Int32} : F_X12_bringsAll_4 G 0 h nx l0 l1 l3 = none := rfl
theorem F_X12_bringsAll_4_s {G : Gx} {n : Nat} {h : Hp} {nx : Nat} {l0 : Nat} {l1 : Int64} {l3 : Int32} : F_X12_bringsAll_4 G (n + 1) h nx l0 l1 l3 = (
gfR h l0 [12] 1 (fun v1 =>
nn v1 (fun p2 =>
alI (g_c G 0) h p2 (nI 1) (fun v3 =>
if v3 ≤ l3 then
some (l1, h, nx)
else
gfR h l0 [12] 1 (fun v4 =>
nn v4 (fun p5 =>
alI (g_c G 0) h p5 (((nI 1034) + l3)) (fun v6 =>
ck h l0 [12] (fun _ =>
cl (F_X12_brings G h nx l0 l3 v6) (fun r7 h8 n9 =>
nm ((l1 + r7)) (fun v10 =>
nm (l3 + (nI 1)) (fun v11 =>
((F_X12_bringsAll_4 G n) h8 n9 l0 v10 v11)))))))))))) := rfl
set_option maxRecDepth 100000 in
set_option maxHeartbeats 4000000 in
theorem k_X12_bringsAll_4 {G : Gx} {d : Nat} {v' : Int64} {h' : Hp} {n' : Nat} : ∀ (n : Nat) {h : Hp} {nx : Nat} {l0 : Nat} {l1 : Int64} {l3 : Int32}, F_X12_bringsAll_4 G n h nx l0 l1 l3 = some (v', h', n') → Ok G mX12_bringsAll (d + 2) (Same (some (.long v')) h' n') 4 [some (.ref l0), some (.long l1), none, some (.int l3)] [] h nx 0 0 := by
  intro n
  induction n with
  | zero =>
    intro h nx l0 l1 l3 e
    rw [F_X12_bringsAll_4_0] at e
    cases e
  | succ n K4 =>
    intro h nx l0 l1 l3 e
    rw [F_X12_bringsAll_4_s] at e
    refine Ok.iload_n dX12_bringsAll_4 rfl ?_
    refine Ok.aload_n dX12_bringsAll_5 rfl ?_
    refine X.rgfR fl_RX12_9 dX12_bringsAll_6 e (fun v1 e1 => ?_)
    clear e
    refine Ok.iconstV (v := (nI 1)) dX12_bringsAll_9 (by decide +kernel) ?_
    refine X.rnn e1 (fun p2 q e2 => ?_)
    clear e1
    subst q
    refine X.iald dX12_bringsAll_10 e2 (fun v3 e3 => ?_)
    clear e2
    refine X.icmp_ge (tgt := 38) dX12_bringsAll_11 (by decide) e3 (fun e4 => ?_) (fun e4 => ?_)
    · clear e3
      refine Ok.lload_n dX12_bringsAll_38 rfl ?_
      exact X.lret dX12_bringsAll_39 rfl (Nat.le_of_ble_eq_true rfl) (Nat.le_of_ble_eq_true rfl) e4
    · clear e3
      refine Ok.lload_n dX12_bringsAll_14 rfl ?_
      refine Ok.aload_n dX12_bringsAll_15 rfl ?_
      refine Ok.iload_n dX12_bringsAll_16 rfl ?_
      refine Ok.aload_n dX12_bringsAll_17 rfl ?_
      refine X.rgfR fl_RX12_9 dX12_bringsAll_18 e4 (fun v4 e5 => ?_)
      clear e4
      refine Ok.sipushV (v := (nI 1034)) dX12_bringsAll_21 (by decide +kernel) ?_
      refine Ok.iload_n dX12_bringsAll_24 rfl ?_
      refine Ok.iadd dX12_bringsAll_25 ?_
      refine X.rnn e5 (fun p5 q e6 => ?_)
      clear e5
      subst q
      refine X.iald dX12_bringsAll_26 e6 (fun v6 e7 => ?_)
      clear e6
      refine X.rck e7 (fun c fs hb hc e8 => ?_)
      clear e7
      obtain rfl := List.mem_singleton.mp hc
      refine X.callV (My := mX12_brings) (n := 2) (As := [.int l3, .int v6]) (T := (fun v => (some (.long v)))) (stk' := (fun v => [.long v, .long l1])) (rest := [.long l1]) (kc' := 0) (ks' := 0) dX12_bringsAll_27 e8 (fun v h n e => k_X12_brings (d := d + 0) e) hb rfl wd1331 wd80 wd1330 wd47 wd1328 (by decide +kernel) rfl (by decide) rfl rfl (Nat.le_of_ble_eq_true rfl) (Nat.le_of_ble_eq_true rfl) (Nat.le_of_ble_eq_true rfl) rfl rfl (fun _ => rfl) (fun r7 h8 n9 e9 => ?_)
      clear e8
      refine Ok.ladd dX12_bringsAll_30 ?_
      refine X.lstore_n dX12_bringsAll_31 (by decide) e9 (L := fun v10 => [some (.ref l0), some (.long v10), none, some (.int l3)]) (fun _ => rfl) (fun v10 e10 => ?_)
      clear e9
      refine X.iinc dX12_bringsAll_32 rfl (by decide) (by decide +kernel) e10 (L := fun v11 => [some (.ref l0), some (.long v10), none, some (.int v11)]) (fun _ => rfl) (fun v11 e11 => ?_)
      clear e10
      refine Ok.goto (tgt := 4) dX12_bringsAll_35 (by decide) ?_
      exact Ok.weakL (K4 e11) ⟨rfl, ⟨rfl, ⟨rfl, trivial⟩⟩⟩
noncomputable def F_X12_bringsAll (G : Gx) (h : Hp) (nx : Nat) (a0 : Nat) : Rz Int64 :=
(F_X12_bringsAll_4 G fuelL h nx a0 (0 : Int64) (nI 0))
set_option maxRecDepth 100000 in
set_option maxHeartbeats 4000000 in
theorem k_X12_bringsAll {G : Gx} {d : Nat} {h : Hp} {nx : Nat} {a0 : Nat} {v' : Int64} {h' : Hp} {n' : Nat} (e : F_X12_bringsAll G h nx a0 = some (v', h', n')) : Ct G mX12_bringsAll (d + 2) (Same (some (.long v')) h' n') [.ref a0] h nx := by
  unfold F_X12_bringsAll at e
  refine Ct.of (ls := [some (.ref a0), none, none, none]) (by decide +kernel) rfl (Nat.le_of_ble_eq_true rfl) rfl ?_
  refine XL.lconst (v := 0) dX12_bringsAll_0 (by decide +kernel) ?_
  refine XL.lstore_n dX12_bringsAll_1 (by decide) (L := [some (.ref a0), some (.long (0 : Int64)), none, none]) rfl ?_
  refine Ok.iconstV (v := (nI 0)) dX12_bringsAll_2 (by decide +kernel) ?_
  refine XL.istore_n dX12_bringsAll_3 (by decide) (L := [some (.ref a0), some (.long (0 : Int64)), none, some (.int (nI 0))]) rfl ?_
  exact Ok.weakL (k_X12_bringsAll_4 (d := d) fuelL e) ⟨rfl, ⟨rfl, ⟨rfl, trivial⟩⟩⟩
noncomputable def F_X12_looksFrom_329 (G : Gx) (c_X12_looksFrom : Hp → Nat → Nat → Int32 → Int32 → Int32 → Int32 → Int32 → Rz Int64) (c_X12_meanFrom : Hp → Nat → Nat → Int32 → Int32 → Int32 → Rz Int64) (h : Hp) (nx : Nat) (s0 : Int64) (l0 : Nat) (l6 : Int32) (l7 : Int32) (l8 : Int32) (l10 : Int64) : Rz Int64 :=
gfR h l0 [12] 1 (fun v1 =>
nn v1 (fun p2 =>
asI (g_c G 0) id h p2 (((nI 1034) + l6)) l7 (fun h3 =>
gfR h3 l0 [12] 1 (fun v4 =>
nn v4 (fun p5 =>
asI (g_c G 0) id h3 p5 (((nI 1042) + l6)) l8 (fun h6 =>
ck h6 l0 [12] (fun _ =>
cl (F_X12_value G h6 nx l0 l6 (nI 2)) (fun r7 h8 n9 =>
some ((((((((((l7.toInt64) * l10)) + ((((((nI 1000000) - l7)).toInt64) * s0)))) / (1000000 : Int64))) - (((1000 : Int64) * (r7.toInt64))))), h8, n9)))))))))
set_option maxRecDepth 100000 in
set_option maxHeartbeats 4000000 in
theorem k_X12_looksFrom_329 {G : Gx} {d : Nat} {v' : Int64} {h' : Hp} {n' : Nat} {c_X12_looksFrom : Hp → Nat → Nat → Int32 → Int32 → Int32 → Int32 → Int32 → Rz Int64} (C_X12_looksFrom : ∀ {h : Hp} {nx : Nat} {b0 : Nat} {b1 : Int32} {b2 : Int32} {b3 : Int32} {b4 : Int32} {b5 : Int32} {v : Int64} {h1 : Hp} {n1 : Nat}, c_X12_looksFrom h nx b0 b1 b2 b3 b4 b5 = some (v, h1, n1) → Ct G mX12_looksFrom (d + 74) (Same (some (.long v)) h1 n1) [.ref b0, .int b1, .int b2, .int b3, .int b4, .int b5] h nx) {c_X12_meanFrom : Hp → Nat → Nat → Int32 → Int32 → Int32 → Rz Int64} (C_X12_meanFrom : ∀ {h : Hp} {nx : Nat} {b0 : Nat} {b1 : Int32} {b2 : Int32} {b3 : Int32} {v : Int64} {h1 : Hp} {n1 : Nat}, c_X12_meanFrom h nx b0 b1 b2 b3 = some (v, h1, n1) → Ct G mX12_meanFrom (d + 74) (Same (some (.long v)) h1 n1) [.ref b0, .int b1, .int b2, .int b3] h nx) {h : Hp} {nx : Nat} {s0 : Int64} {l0 : Nat} {l6 : Int32} {l7 : Int32} {l8 : Int32} {l10 : Int64} (e : F_X12_looksFrom_329 G c_X12_looksFrom c_X12_meanFrom h nx s0 l0 l6 l7 l8 l10 = some (v', h', n')) : Ok G mX12_looksFrom (d + 75) (Same (some (.long v')) h' n') 329 [some (.ref l0), none, none, none, none, none, some (.int l6), some (.int l7), some (.int l8), none, some (.long l10), none, none, none] [.long s0] h nx 0 0 := by
  unfold F_X12_looksFrom_329 at e
  refine XL.lstore dX12_looksFrom_329 (by decide) (L := [some (.ref l0), none, none, none, none, none, some (.int l6), some (.int l7), some (.int l8), none, some (.long l10), none, some (.long s0), none]) rfl ?_
  refine Ok.aload_n dX12_looksFrom_331 rfl ?_
  refine X.rgfR fl_RX12_9 dX12_looksFrom_332 e (fun v1 e1 => ?_)
  clear e
  refine Ok.sipushV (v := (nI 1034)) dX12_looksFrom_335 (by decide +kernel) ?_
  refine Ok.iload dX12_looksFrom_338 rfl ?_
  refine Ok.iadd dX12_looksFrom_340 ?_
  refine Ok.iload dX12_looksFrom_341 rfl ?_
  refine X.rnn e1 (fun p2 q e2 => ?_)
  clear e1
  subst q
  refine X.iast dX12_looksFrom_343 e2 (fun h3 e3 => ?_)
  clear e2
  refine Ok.aload_n dX12_looksFrom_344 rfl ?_
  refine X.rgfR fl_RX12_9 dX12_looksFrom_345 e3 (fun v4 e4 => ?_)
  clear e3
  refine Ok.sipushV (v := (nI 1042)) dX12_looksFrom_348 (by decide +kernel) ?_
  refine Ok.iload dX12_looksFrom_351 rfl ?_
  refine Ok.iadd dX12_looksFrom_353 ?_
  refine Ok.iload dX12_looksFrom_354 rfl ?_
  refine X.rnn e4 (fun p5 q e5 => ?_)
  clear e4
  subst q
  refine X.iast dX12_looksFrom_356 e5 (fun h6 e6 => ?_)
  clear e5
  refine Ok.iload dX12_looksFrom_357 rfl ?_
  refine Ok.i2l dX12_looksFrom_359 ?_
  refine Ok.lload dX12_looksFrom_360 rfl ?_
  refine Ok.lmul dX12_looksFrom_362 ?_
  refine Ok.ldc (v := (nI 1000000)) dX12_looksFrom_363 wd1270 ?_
  refine Ok.iload dX12_looksFrom_365 rfl ?_
  refine Ok.isub dX12_looksFrom_367 ?_
  refine Ok.i2l dX12_looksFrom_368 ?_
  refine Ok.lload dX12_looksFrom_369 rfl ?_
  refine Ok.lmul dX12_looksFrom_371 ?_
  refine Ok.ladd dX12_looksFrom_372 ?_
  refine Ok.ldc2_w (v := 1000000) dX12_looksFrom_373 wd1332 ?_
  refine Ok.ldiv dX12_looksFrom_376 (by decide +kernel) ?_
  refine Ok.ldc2_w (v := 1000) dX12_looksFrom_377 wd1295 ?_
  refine Ok.aload_n dX12_looksFrom_380 rfl ?_
  refine Ok.iload dX12_looksFrom_381 rfl ?_
  refine Ok.iconstV (v := (nI 2)) dX12_looksFrom_383 (by decide +kernel) ?_
  refine X.rck e6 (fun c fs hb hc e7 => ?_)
  clear e6
  obtain rfl := List.mem_singleton.mp hc
  refine X.callV (My := mX12_value) (n := 2) (As := [.int l6, .int (nI 2)]) (T := (fun v => (some (.int v)))) (stk' := (fun v => [.int v, .long (1000 : Int64), .long (((((((l7.toInt64) * l10)) + ((((((nI 1000000) - l7)).toInt64) * s0)))) / (1000000 : Int64)))])) (rest := [.long (1000 : Int64), .long (((((((l7.toInt64) * l10)) + ((((((nI 1000000) - l7)).toInt64) * s0)))) / (1000000 : Int64)))]) (kc' := 0) (ks' := 0) dX12_looksFrom_384 e7 (fun v h n e => k_X12_value (d := d + 74) e) hb rfl wd1319 wd80 wd1318 wd44 wd1316 (by decide +kernel) rfl (by decide) rfl rfl (Nat.le_of_ble_eq_true rfl) (Nat.le_of_ble_eq_true rfl) (Nat.le_of_ble_eq_true rfl) rfl rfl (fun _ => rfl) (fun r7 h8 n9 e8 => ?_)
  clear e7
  refine Ok.i2l dX12_looksFrom_387 ?_
  refine Ok.lmul dX12_looksFrom_388 ?_
  refine Ok.lsub dX12_looksFrom_389 ?_
  exact X.lret dX12_looksFrom_390 rfl (Nat.le_of_ble_eq_true rfl) (Nat.le_of_ble_eq_true rfl) e8
noncomputable def F_X12_looksFrom_297 (G : Gx) (c_X12_looksFrom : Hp → Nat → Nat → Int32 → Int32 → Int32 → Int32 → Int32 → Rz Int64) (c_X12_meanFrom : Hp → Nat → Nat → Int32 → Int32 → Int32 → Rz Int64) (h : Hp) (nx : Nat) (s0 : Option Nat) (s1 : Int32) (s2 : Int32) (l0 : Nat) (l1 : Int32) (l2 : Int32) (l3 : Int32) (l4 : Int32) (l6 : Int32) (l7 : Int32) (l8 : Int32) (l9 : Int32) (l10 : Int64) : Rz Int64 :=
nn s0 (fun p1 =>
asI (g_c G 0) id h p1 s1 s2 (fun h2 =>
if l9 ≤ 0 then
ck h2 l0 [12] (fun _ =>
cl (c_X12_looksFrom h2 nx l0 l1 l2 l3 l4 ((l6 + (nI 1)))) (fun r3 h4 n5 =>
(F_X12_looksFrom_329 G c_X12_looksFrom c_X12_meanFrom h4 n5 r3 l0 l6 l7 l8 l10)))
else
(F_X12_looksFrom_329 G c_X12_looksFrom c_X12_meanFrom h2 nx ((l10 - (((1000 : Int64) * (l9.toInt64))))) l0 l6 l7 l8 l10)))
set_option maxRecDepth 100000 in
set_option maxHeartbeats 4000000 in
theorem k_X12_looksFrom_297 {G : Gx} {d : Nat} {v' : Int64} {h' : Hp} {n' : Nat} {c_X12_looksFrom : Hp → Nat → Nat → Int32 → Int32 → Int32 → Int32 → Int32 → Rz Int64} (C_X12_looksFrom : ∀ {h : Hp} {nx : Nat} {b0 : Nat} {b1 : Int32} {b2 : Int32} {b3 : Int32} {b4 : Int32} {b5 : Int32} {v : Int64} {h1 : Hp} {n1 : Nat}, c_X12_looksFrom h nx b0 b1 b2 b3 b4 b5 = some (v, h1, n1) → Ct G mX12_looksFrom (d + 74) (Same (some (.long v)) h1 n1) [.ref b0, .int b1, .int b2, .int b3, .int b4, .int b5] h nx) {c_X12_meanFrom : Hp → Nat → Nat → Int32 → Int32 → Int32 → Rz Int64} (C_X12_meanFrom : ∀ {h : Hp} {nx : Nat} {b0 : Nat} {b1 : Int32} {b2 : Int32} {b3 : Int32} {v : Int64} {h1 : Hp} {n1 : Nat}, c_X12_meanFrom h nx b0 b1 b2 b3 = some (v, h1, n1) → Ct G mX12_meanFrom (d + 74) (Same (some (.long v)) h1 n1) [.ref b0, .int b1, .int b2, .int b3] h nx) {h : Hp} {nx : Nat} {s0 : Option Nat} {s1 : Int32} {s2 : Int32} {l0 : Nat} {l1 : Int32} {l2 : Int32} {l3 : Int32} {l4 : Int32} {l6 : Int32} {l7 : Int32} {l8 : Int32} {l9 : Int32} {l10 : Int64} (e : F_X12_looksFrom_297 G c_X12_looksFrom c_X12_meanFrom h nx s0 s1 s2 l0 l1 l2 l3 l4 l6 l7 l8 l9 l10 = some (v', h', n')) : Ok G mX12_looksFrom (d + 75) (Same (some (.long v')) h' n') 297 [some (.ref l0), some (.int l1), some (.int l2), some (.int l3), some (.int l4), none, some (.int l6), some (.int l7), some (.int l8), some (.int l9), some (.long l10), none, none, none] [.int s2, .int s1, va_rf s0] h nx 0 0 := by
  unfold F_X12_looksFrom_297 at e
  refine X.rnn e (fun p1 q e1 => ?_)
  clear e
  subst q
  refine X.iast dX12_looksFrom_297 e1 (fun h2 e2 => ?_)
  clear e1
  refine Ok.iload dX12_looksFrom_298 rfl ?_
  refine X.if_le (tgt := 316) dX12_looksFrom_300 (by decide) e2 (fun e3 => ?_) (fun e3 => ?_)
  · clear e2
    refine Ok.aload_n dX12_looksFrom_316 rfl ?_
    refine Ok.iload_n dX12_looksFrom_317 rfl ?_
    refine Ok.iload_n dX12_looksFrom_318 rfl ?_
    refine Ok.iload_n dX12_looksFrom_319 rfl ?_
    refine Ok.iload dX12_looksFrom_320 rfl ?_
    refine Ok.iload dX12_looksFrom_322 rfl ?_
    refine Ok.iconstV (v := (nI 1)) dX12_looksFrom_324 (by decide +kernel) ?_
    refine Ok.iadd dX12_looksFrom_325 ?_
    refine X.rck e3 (fun c fs hb hc e4 => ?_)
    clear e3
    obtain rfl := List.mem_singleton.mp hc
    refine X.callV (My := mX12_looksFrom) (n := 5) (As := [.int l1, .int l2, .int l3, .int l4, .int ((l6 + (nI 1)))]) (T := (fun v => (some (.long v)))) (stk' := (fun v => [.long v])) (rest := []) (kc' := 0) (ks' := 0) dX12_looksFrom_326 e4 (fun v h n e => C_X12_looksFrom e) hb rfl wd1415 wd80 wd1414 wd60 wd1412 (by decide +kernel) rfl (by decide) rfl rfl (Nat.le_of_ble_eq_true rfl) (Nat.le_of_ble_eq_true rfl) (Nat.le_of_ble_eq_true rfl) rfl rfl (fun _ => rfl) (fun r3 h4 n5 e5 => ?_)
    clear e4
    exact Ok.weakL (k_X12_looksFrom_329 (d := d) C_X12_looksFrom C_X12_meanFrom e5) ⟨rfl, ⟨rfl, ⟨rfl, ⟨rfl, ⟨rfl, trivial⟩⟩⟩⟩⟩
  · clear e2
    refine Ok.lload dX12_looksFrom_303 rfl ?_
    refine Ok.ldc2_w (v := 1000) dX12_looksFrom_305 wd1295 ?_
    refine Ok.iload dX12_looksFrom_308 rfl ?_
    refine Ok.i2l dX12_looksFrom_310 ?_
    refine Ok.lmul dX12_looksFrom_311 ?_
    refine Ok.lsub dX12_looksFrom_312 ?_
    refine Ok.goto (tgt := 329) dX12_looksFrom_313 (by decide) ?_
    exact Ok.weakL (k_X12_looksFrom_329 (d := d) C_X12_looksFrom C_X12_meanFrom e3) ⟨rfl, ⟨rfl, ⟨rfl, ⟨rfl, ⟨rfl, trivial⟩⟩⟩⟩⟩
noncomputable def F_X12_looksFrom_135 (G : Gx) (c_X12_looksFrom : Hp → Nat → Nat → Int32 → Int32 → Int32 → Int32 → Int32 → Rz Int64) (c_X12_meanFrom : Hp → Nat → Nat → Int32 → Int32 → Int32 → Rz Int64) : Nat → Hp → Nat → Nat → Int32 → Int64 → Int32 → Rz Int64 := fun n => Nat.rec (motive := fun _ => Hp → Nat → Nat → Int32 → Int64 → Int32 → Rz Int64) (fun _ _ _ _ _ _ => none) (fun _ k135 => fun h nx l0 l3 l7 l9 =>
gfR h l0 [12] 1 (fun v1 =>
nn v1 (fun p2 =>
alI (g_c G 0) h p2 (nI 1) (fun v3 =>
if v3 ≤ l9 then
some (l7, h, nx)
else
gfR h l0 [12] 1 (fun v4 =>
gfR h l0 [12] 22 (fun v5 =>
nn v5 (fun p6 =>
alI (g_c G 0) h p6 (((((nI 8) * l3)) + l9)) (fun v7 =>
nn v4 (fun p8 =>
asI (g_c G 0) id h p8 (((nI 1034) + l9)) v7 (fun h9 =>
gfR h9 l0 [12] 1 (fun v10 =>
gfR h9 l0 [12] 23 (fun v11 =>
nn v11 (fun p12 =>
alI (g_c G 0) h9 p12 (((((nI 8) * l3)) + l9)) (fun v13 =>
nn v10 (fun p14 =>
asI (g_c G 0) id h9 p14 (((nI 1042) + l9)) v13 (fun h15 =>
nm (l9 + (nI 1)) (fun v16 =>
(k135 h15 nx l0 l3 l7 v16)))))))))))))))))) n
theorem F_X12_looksFrom_135_0 {G : Gx} (c_X12_looksFrom : Hp → Nat → Nat → Int32 → Int32 → Int32 → Int32 → Int32 → Rz Int64) (c_X12_meanFrom : Hp → Nat → Nat → Int32 → Int32 → Int32 → Rz Int64) {h : Hp} {nx : Nat} {l0 : Nat} {l3 : Int32} {l7 : Int64} {l9 : Int32} : F_X12_looksFrom_135 G c_X12_looksFrom c_X12_meanFrom 0 h nx l0 l3 l7 l9 = none := rfl
theorem F_X12_looksFrom_135_s {G : Gx} (c_X12_looksFrom : Hp → Nat → Nat → Int32 → Int32 → Int32 → Int32 → Int32 → Rz Int64) (c_X12_meanFrom : Hp → Nat → Nat → Int32 → Int32 → Int32 → Rz Int64) {n : Nat} {h : Hp} {nx : Nat} {l0 : Nat} {l3 : Int32} {l7 : Int64} {l9 : Int32} : F_X12_looksFrom_135 G c_X12_looksFrom c_X12_meanFrom (n + 1) h nx l0 l3 l7 l9 = (
gfR h l0 [12] 1 (fun v1 =>
nn v1 (fun p2 =>
alI (g_c G 0) h p2 (nI 1) (fun v3 =>
if v3 ≤ l9 then
some (l7, h, nx)
else
gfR h l0 [12] 1 (fun v4 =>
gfR h l0 [12] 22 (fun v5 =>
nn v5 (fun p6 =>
alI (g_c G 0) h p6 (((((nI 8) * l3)) + l9)) (fun v7 =>
nn v4 (fun p8 =>
asI (g_c G 0) id h p8 (((nI 1034) + l9)) v7 (fun h9 =>
gfR h9 l0 [12] 1 (fun v10 =>
gfR h9 l0 [12] 23 (fun v11 =>
nn v11 (fun p12 =>
alI (g_c G 0) h9 p12 (((((nI 8) * l3)) + l9)) (fun v13 =>
nn v10 (fun p14 =>
asI (g_c G 0) id h9 p14 (((nI 1042) + l9)) v13 (fun h15 =>
nm (l9 + (nI 1)) (fun v16 =>
((F_X12_looksFrom_135 G c_X12_looksFrom c_X12_meanFrom n) h15 nx l0 l3 l7 v16)))))))))))))))))) := rfl
set_option maxRecDepth 100000 in
set_option maxHeartbeats 4000000 in
theorem k_X12_looksFrom_135 {G : Gx} {d : Nat} {v' : Int64} {h' : Hp} {n' : Nat} {c_X12_looksFrom : Hp → Nat → Nat → Int32 → Int32 → Int32 → Int32 → Int32 → Rz Int64} (C_X12_looksFrom : ∀ {h : Hp} {nx : Nat} {b0 : Nat} {b1 : Int32} {b2 : Int32} {b3 : Int32} {b4 : Int32} {b5 : Int32} {v : Int64} {h1 : Hp} {n1 : Nat}, c_X12_looksFrom h nx b0 b1 b2 b3 b4 b5 = some (v, h1, n1) → Ct G mX12_looksFrom (d + 74) (Same (some (.long v)) h1 n1) [.ref b0, .int b1, .int b2, .int b3, .int b4, .int b5] h nx) {c_X12_meanFrom : Hp → Nat → Nat → Int32 → Int32 → Int32 → Rz Int64} (C_X12_meanFrom : ∀ {h : Hp} {nx : Nat} {b0 : Nat} {b1 : Int32} {b2 : Int32} {b3 : Int32} {v : Int64} {h1 : Hp} {n1 : Nat}, c_X12_meanFrom h nx b0 b1 b2 b3 = some (v, h1, n1) → Ct G mX12_meanFrom (d + 74) (Same (some (.long v)) h1 n1) [.ref b0, .int b1, .int b2, .int b3] h nx) : ∀ (n : Nat) {h : Hp} {nx : Nat} {l0 : Nat} {l3 : Int32} {l7 : Int64} {l9 : Int32}, F_X12_looksFrom_135 G c_X12_looksFrom c_X12_meanFrom n h nx l0 l3 l7 l9 = some (v', h', n') → Ok G mX12_looksFrom (d + 75) (Same (some (.long v')) h' n') 135 [some (.ref l0), none, none, some (.int l3), none, none, none, some (.long l7), none, some (.int l9), none, none, none, none] [] h nx 0 0 := by
  intro n
  induction n with
  | zero =>
    intro h nx l0 l3 l7 l9 e
    rw [F_X12_looksFrom_135_0] at e
    cases e
  | succ n K135 =>
    intro h nx l0 l3 l7 l9 e
    rw [F_X12_looksFrom_135_s] at e
    refine Ok.iload dX12_looksFrom_135 rfl ?_
    refine Ok.aload_n dX12_looksFrom_137 rfl ?_
    refine X.rgfR fl_RX12_9 dX12_looksFrom_138 e (fun v1 e1 => ?_)
    clear e
    refine Ok.iconstV (v := (nI 1)) dX12_looksFrom_141 (by decide +kernel) ?_
    refine X.rnn e1 (fun p2 q e2 => ?_)
    clear e1
    subst q
    refine X.iald dX12_looksFrom_142 e2 (fun v3 e3 => ?_)
    clear e2
    refine X.icmp_ge (tgt := 198) dX12_looksFrom_143 (by decide) e3 (fun e4 => ?_) (fun e4 => ?_)
    · clear e3
      refine Ok.lload dX12_looksFrom_198 rfl ?_
      exact X.lret dX12_looksFrom_200 rfl (Nat.le_of_ble_eq_true rfl) (Nat.le_of_ble_eq_true rfl) e4
    · clear e3
      refine Ok.aload_n dX12_looksFrom_146 rfl ?_
      refine X.rgfR fl_RX12_9 dX12_looksFrom_147 e4 (fun v4 e5 => ?_)
      clear e4
      refine Ok.sipushV (v := (nI 1034)) dX12_looksFrom_150 (by decide +kernel) ?_
      refine Ok.iload dX12_looksFrom_153 rfl ?_
      refine Ok.iadd dX12_looksFrom_155 ?_
      refine Ok.aload_n dX12_looksFrom_156 rfl ?_
      refine X.rgfR fl_RX12_48 dX12_looksFrom_157 e5 (fun v5 e6 => ?_)
      clear e5
      refine Ok.bipushV (v := (nI 8)) dX12_looksFrom_160 (by decide +kernel) ?_
      refine Ok.iload_n dX12_looksFrom_162 rfl ?_
      refine Ok.imul dX12_looksFrom_163 ?_
      refine Ok.iload dX12_looksFrom_164 rfl ?_
      refine Ok.iadd dX12_looksFrom_166 ?_
      refine X.rnn e6 (fun p6 q e7 => ?_)
      clear e6
      subst q
      refine X.iald dX12_looksFrom_167 e7 (fun v7 e8 => ?_)
      clear e7
      refine X.rnn e8 (fun p8 q e9 => ?_)
      clear e8
      subst q
      refine X.iast dX12_looksFrom_168 e9 (fun h9 e10 => ?_)
      clear e9
      refine Ok.aload_n dX12_looksFrom_169 rfl ?_
      refine X.rgfR fl_RX12_9 dX12_looksFrom_170 e10 (fun v10 e11 => ?_)
      clear e10
      refine Ok.sipushV (v := (nI 1042)) dX12_looksFrom_173 (by decide +kernel) ?_
      refine Ok.iload dX12_looksFrom_176 rfl ?_
      refine Ok.iadd dX12_looksFrom_178 ?_
      refine Ok.aload_n dX12_looksFrom_179 rfl ?_
      refine X.rgfR fl_RX12_51 dX12_looksFrom_180 e11 (fun v11 e12 => ?_)
      clear e11
      refine Ok.bipushV (v := (nI 8)) dX12_looksFrom_183 (by decide +kernel) ?_
      refine Ok.iload_n dX12_looksFrom_185 rfl ?_
      refine Ok.imul dX12_looksFrom_186 ?_
      refine Ok.iload dX12_looksFrom_187 rfl ?_
      refine Ok.iadd dX12_looksFrom_189 ?_
      refine X.rnn e12 (fun p12 q e13 => ?_)
      clear e12
      subst q
      refine X.iald dX12_looksFrom_190 e13 (fun v13 e14 => ?_)
      clear e13
      refine X.rnn e14 (fun p14 q e15 => ?_)
      clear e14
      subst q
      refine X.iast dX12_looksFrom_191 e15 (fun h15 e16 => ?_)
      clear e15
      refine X.iinc dX12_looksFrom_192 rfl (by decide) (by decide +kernel) e16 (L := fun v16 => [some (.ref l0), none, none, some (.int l3), none, none, none, some (.long l7), none, some (.int v16), none, none, none, none]) (fun _ => rfl) (fun v16 e17 => ?_)
      clear e16
      refine Ok.goto (tgt := 135) dX12_looksFrom_195 (by decide) ?_
      exact Ok.weakL (K135 e17) ⟨rfl, ⟨rfl, ⟨rfl, ⟨rfl, trivial⟩⟩⟩⟩
noncomputable def F_X12_looksFrom_52 (G : Gx) (c_X12_looksFrom : Hp → Nat → Nat → Int32 → Int32 → Int32 → Int32 → Int32 → Rz Int64) (c_X12_meanFrom : Hp → Nat → Nat → Int32 → Int32 → Int32 → Rz Int64) : Nat → Hp → Nat → Nat → Int32 → Int32 → Int32 → Int32 → Rz Int64 := fun n => Nat.rec (motive := fun _ => Hp → Nat → Nat → Int32 → Int32 → Int32 → Int32 → Rz Int64) (fun _ _ _ _ _ _ _ => none) (fun _ k52 => fun h nx l0 l1 l2 l3 l7 =>
gfR h l0 [12] 1 (fun v1 =>
nn v1 (fun p2 =>
alI (g_c G 0) h p2 (nI 1) (fun v3 =>
if v3 ≤ l7 then
ck h l0 [12] (fun _ =>
cl (F_X12_over G h nx l0) (fun _ h5 n6 =>
ck h5 l0 [12] (fun _ =>
cl (c_X12_meanFrom h5 n6 l0 l1 ((l2 + (nI 1))) ((l3 - (nI 1)))) (fun r7 h8 n9 =>
(F_X12_looksFrom_135 G c_X12_looksFrom c_X12_meanFrom fuelL h8 n9 l0 l3 r7 (nI 0))))))
else
gfR h l0 [12] 22 (fun v10 =>
gfR h l0 [12] 1 (fun v11 =>
nn v11 (fun p12 =>
alI (g_c G 0) h p12 (((nI 1034) + l7)) (fun v13 =>
nn v10 (fun p14 =>
asI (g_c G 0) id h p14 (((((nI 8) * l3)) + l7)) v13 (fun h15 =>
gfR h15 l0 [12] 23 (fun v16 =>
gfR h15 l0 [12] 1 (fun v17 =>
nn v17 (fun p18 =>
alI (g_c G 0) h15 p18 (((nI 1042) + l7)) (fun v19 =>
nn v16 (fun p20 =>
asI (g_c G 0) id h15 p20 (((((nI 8) * l3)) + l7)) v19 (fun h21 =>
nm (l7 + (nI 1)) (fun v22 =>
(k52 h21 nx l0 l1 l2 l3 v22)))))))))))))))))) n
theorem F_X12_looksFrom_52_0 {G : Gx} (c_X12_looksFrom : Hp → Nat → Nat → Int32 → Int32 → Int32 → Int32 → Int32 → Rz Int64) (c_X12_meanFrom : Hp → Nat → Nat → Int32 → Int32 → Int32 → Rz Int64) {h : Hp} {nx : Nat} {l0 : Nat} {l1 : Int32} {l2 : Int32} {l3 : Int32} {l7 : Int32} : F_X12_looksFrom_52 G c_X12_looksFrom c_X12_meanFrom 0 h nx l0 l1 l2 l3 l7 = none := rfl
theorem F_X12_looksFrom_52_s {G : Gx} (c_X12_looksFrom : Hp → Nat → Nat → Int32 → Int32 → Int32 → Int32 → Int32 → Rz Int64) (c_X12_meanFrom : Hp → Nat → Nat → Int32 → Int32 → Int32 → Rz Int64) {n : Nat} {h : Hp} {nx : Nat} {l0 : Nat} {l1 : Int32} {l2 : Int32} {l3 : Int32} {l7 : Int32} : F_X12_looksFrom_52 G c_X12_looksFrom c_X12_meanFrom (n + 1) h nx l0 l1 l2 l3 l7 = (
gfR h l0 [12] 1 (fun v1 =>
nn v1 (fun p2 =>
alI (g_c G 0) h p2 (nI 1) (fun v3 =>
if v3 ≤ l7 then
ck h l0 [12] (fun _ =>
cl (F_X12_over G h nx l0) (fun _ h5 n6 =>
ck h5 l0 [12] (fun _ =>
cl (c_X12_meanFrom h5 n6 l0 l1 ((l2 + (nI 1))) ((l3 - (nI 1)))) (fun r7 h8 n9 =>
(F_X12_looksFrom_135 G c_X12_looksFrom c_X12_meanFrom fuelL h8 n9 l0 l3 r7 (nI 0))))))
else
gfR h l0 [12] 22 (fun v10 =>
gfR h l0 [12] 1 (fun v11 =>
nn v11 (fun p12 =>
alI (g_c G 0) h p12 (((nI 1034) + l7)) (fun v13 =>
nn v10 (fun p14 =>
asI (g_c G 0) id h p14 (((((nI 8) * l3)) + l7)) v13 (fun h15 =>
gfR h15 l0 [12] 23 (fun v16 =>
gfR h15 l0 [12] 1 (fun v17 =>
nn v17 (fun p18 =>
alI (g_c G 0) h15 p18 (((nI 1042) + l7)) (fun v19 =>
nn v16 (fun p20 =>
asI (g_c G 0) id h15 p20 (((((nI 8) * l3)) + l7)) v19 (fun h21 =>
nm (l7 + (nI 1)) (fun v22 =>
((F_X12_looksFrom_52 G c_X12_looksFrom c_X12_meanFrom n) h21 nx l0 l1 l2 l3 v22)))))))))))))))))) := rfl
set_option maxRecDepth 100000 in
set_option maxHeartbeats 4000000 in
theorem k_X12_looksFrom_52 {G : Gx} {d : Nat} {v' : Int64} {h' : Hp} {n' : Nat} {c_X12_looksFrom : Hp → Nat → Nat → Int32 → Int32 → Int32 → Int32 → Int32 → Rz Int64} (C_X12_looksFrom : ∀ {h : Hp} {nx : Nat} {b0 : Nat} {b1 : Int32} {b2 : Int32} {b3 : Int32} {b4 : Int32} {b5 : Int32} {v : Int64} {h1 : Hp} {n1 : Nat}, c_X12_looksFrom h nx b0 b1 b2 b3 b4 b5 = some (v, h1, n1) → Ct G mX12_looksFrom (d + 74) (Same (some (.long v)) h1 n1) [.ref b0, .int b1, .int b2, .int b3, .int b4, .int b5] h nx) {c_X12_meanFrom : Hp → Nat → Nat → Int32 → Int32 → Int32 → Rz Int64} (C_X12_meanFrom : ∀ {h : Hp} {nx : Nat} {b0 : Nat} {b1 : Int32} {b2 : Int32} {b3 : Int32} {v : Int64} {h1 : Hp} {n1 : Nat}, c_X12_meanFrom h nx b0 b1 b2 b3 = some (v, h1, n1) → Ct G mX12_meanFrom (d + 74) (Same (some (.long v)) h1 n1) [.ref b0, .int b1, .int b2, .int b3] h nx) : ∀ (n : Nat) {h : Hp} {nx : Nat} {l0 : Nat} {l1 : Int32} {l2 : Int32} {l3 : Int32} {l7 : Int32}, F_X12_looksFrom_52 G c_X12_looksFrom c_X12_meanFrom n h nx l0 l1 l2 l3 l7 = some (v', h', n') → Ok G mX12_looksFrom (d + 75) (Same (some (.long v')) h' n') 52 [some (.ref l0), some (.int l1), some (.int l2), some (.int l3), none, none, none, some (.int l7), none, none, none, none, none, none] [] h nx 0 0 := by
  intro n
  induction n with
  | zero =>
    intro h nx l0 l1 l2 l3 l7 e
    rw [F_X12_looksFrom_52_0] at e
    cases e
  | succ n K52 =>
    intro h nx l0 l1 l2 l3 l7 e
    rw [F_X12_looksFrom_52_s] at e
    refine Ok.iload dX12_looksFrom_52 rfl ?_
    refine Ok.aload_n dX12_looksFrom_54 rfl ?_
    refine X.rgfR fl_RX12_9 dX12_looksFrom_55 e (fun v1 e1 => ?_)
    clear e
    refine Ok.iconstV (v := (nI 1)) dX12_looksFrom_58 (by decide +kernel) ?_
    refine X.rnn e1 (fun p2 q e2 => ?_)
    clear e1
    subst q
    refine X.iald dX12_looksFrom_59 e2 (fun v3 e3 => ?_)
    clear e2
    refine X.icmp_ge (tgt := 115) dX12_looksFrom_60 (by decide) e3 (fun e4 => ?_) (fun e4 => ?_)
    · clear e3
      refine Ok.aload_n dX12_looksFrom_115 rfl ?_
      refine X.rck e4 (fun c fs hb hc e5 => ?_)
      clear e4
      obtain rfl := List.mem_singleton.mp hc
      refine X.callV (My := mX12_over) (n := 0) (As := []) (T := (fun v => none)) (stk' := (fun _ => [])) (rest := []) (kc' := 0) (ks' := 0) dX12_looksFrom_116 e5 (fun v h n e => k_X12_over (d := d + 71) e) hb rfl wd1286 wd80 wd1285 wd39 wd1283 (by decide +kernel) rfl (by decide) rfl rfl (Nat.le_of_ble_eq_true rfl) (Nat.le_of_ble_eq_true rfl) (Nat.le_of_ble_eq_true rfl) rfl rfl (fun _ => rfl) (fun _ h5 n6 e6 => ?_)
      clear e5
      refine Ok.aload_n dX12_looksFrom_119 rfl ?_
      refine Ok.iload_n dX12_looksFrom_120 rfl ?_
      refine Ok.iload_n dX12_looksFrom_121 rfl ?_
      refine Ok.iconstV (v := (nI 1)) dX12_looksFrom_122 (by decide +kernel) ?_
      refine Ok.iadd dX12_looksFrom_123 ?_
      refine Ok.iload_n dX12_looksFrom_124 rfl ?_
      refine Ok.iconstV (v := (nI 1)) dX12_looksFrom_125 (by decide +kernel) ?_
      refine Ok.isub dX12_looksFrom_126 ?_
      refine X.rck e6 (fun c fs hb hc e7 => ?_)
      clear e6
      obtain rfl := List.mem_singleton.mp hc
      refine X.callV (My := mX12_meanFrom) (n := 3) (As := [.int l1, .int ((l2 + (nI 1))), .int ((l3 - (nI 1)))]) (T := (fun v => (some (.long v)))) (stk' := (fun v => [.long v])) (rest := []) (kc' := 0) (ks' := 0) dX12_looksFrom_127 e7 (fun v h n e => C_X12_meanFrom e) hb rfl wd1403 wd80 wd1402 wd57 wd1400 (by decide +kernel) rfl (by decide) rfl rfl (Nat.le_of_ble_eq_true rfl) (Nat.le_of_ble_eq_true rfl) (Nat.le_of_ble_eq_true rfl) rfl rfl (fun _ => rfl) (fun r7 h8 n9 e8 => ?_)
      clear e7
      refine XL.lstore dX12_looksFrom_130 (by decide) (L := [some (.ref l0), some (.int l1), some (.int l2), some (.int l3), none, none, none, some (.long r7), none, none, none, none, none, none]) rfl ?_
      refine Ok.iconstV (v := (nI 0)) dX12_looksFrom_132 (by decide +kernel) ?_
      refine XL.istore dX12_looksFrom_133 (by decide) (L := [some (.ref l0), some (.int l1), some (.int l2), some (.int l3), none, none, none, some (.long r7), none, some (.int (nI 0)), none, none, none, none]) rfl ?_
      exact Ok.weakL (k_X12_looksFrom_135 (d := d) C_X12_looksFrom C_X12_meanFrom fuelL e8) ⟨rfl, ⟨rfl, ⟨rfl, ⟨rfl, trivial⟩⟩⟩⟩
    · clear e3
      refine Ok.aload_n dX12_looksFrom_63 rfl ?_
      refine X.rgfR fl_RX12_48 dX12_looksFrom_64 e4 (fun v10 e5 => ?_)
      clear e4
      refine Ok.bipushV (v := (nI 8)) dX12_looksFrom_67 (by decide +kernel) ?_
      refine Ok.iload_n dX12_looksFrom_69 rfl ?_
      refine Ok.imul dX12_looksFrom_70 ?_
      refine Ok.iload dX12_looksFrom_71 rfl ?_
      refine Ok.iadd dX12_looksFrom_73 ?_
      refine Ok.aload_n dX12_looksFrom_74 rfl ?_
      refine X.rgfR fl_RX12_9 dX12_looksFrom_75 e5 (fun v11 e6 => ?_)
      clear e5
      refine Ok.sipushV (v := (nI 1034)) dX12_looksFrom_78 (by decide +kernel) ?_
      refine Ok.iload dX12_looksFrom_81 rfl ?_
      refine Ok.iadd dX12_looksFrom_83 ?_
      refine X.rnn e6 (fun p12 q e7 => ?_)
      clear e6
      subst q
      refine X.iald dX12_looksFrom_84 e7 (fun v13 e8 => ?_)
      clear e7
      refine X.rnn e8 (fun p14 q e9 => ?_)
      clear e8
      subst q
      refine X.iast dX12_looksFrom_85 e9 (fun h15 e10 => ?_)
      clear e9
      refine Ok.aload_n dX12_looksFrom_86 rfl ?_
      refine X.rgfR fl_RX12_51 dX12_looksFrom_87 e10 (fun v16 e11 => ?_)
      clear e10
      refine Ok.bipushV (v := (nI 8)) dX12_looksFrom_90 (by decide +kernel) ?_
      refine Ok.iload_n dX12_looksFrom_92 rfl ?_
      refine Ok.imul dX12_looksFrom_93 ?_
      refine Ok.iload dX12_looksFrom_94 rfl ?_
      refine Ok.iadd dX12_looksFrom_96 ?_
      refine Ok.aload_n dX12_looksFrom_97 rfl ?_
      refine X.rgfR fl_RX12_9 dX12_looksFrom_98 e11 (fun v17 e12 => ?_)
      clear e11
      refine Ok.sipushV (v := (nI 1042)) dX12_looksFrom_101 (by decide +kernel) ?_
      refine Ok.iload dX12_looksFrom_104 rfl ?_
      refine Ok.iadd dX12_looksFrom_106 ?_
      refine X.rnn e12 (fun p18 q e13 => ?_)
      clear e12
      subst q
      refine X.iald dX12_looksFrom_107 e13 (fun v19 e14 => ?_)
      clear e13
      refine X.rnn e14 (fun p20 q e15 => ?_)
      clear e14
      subst q
      refine X.iast dX12_looksFrom_108 e15 (fun h21 e16 => ?_)
      clear e15
      refine X.iinc dX12_looksFrom_109 rfl (by decide) (by decide +kernel) e16 (L := fun v22 => [some (.ref l0), some (.int l1), some (.int l2), some (.int l3), none, none, none, some (.int v22), none, none, none, none, none, none]) (fun _ => rfl) (fun v22 e17 => ?_)
      clear e16
      refine Ok.goto (tgt := 52) dX12_looksFrom_112 (by decide) ?_
      exact Ok.weakL (K52 e17) ⟨rfl, ⟨rfl, ⟨rfl, ⟨rfl, ⟨rfl, trivial⟩⟩⟩⟩⟩
noncomputable def F_X12_looksFrom_31 (G : Gx) (c_X12_looksFrom : Hp → Nat → Nat → Int32 → Int32 → Int32 → Int32 → Int32 → Rz Int64) (c_X12_meanFrom : Hp → Nat → Nat → Int32 → Int32 → Int32 → Rz Int64) (h : Hp) (nx : Nat) (l0 : Nat) (l1 : Int32) (l2 : Int32) (l3 : Int32) (l4 : Int32) (l6 : Int32) : Rz Int64 :=
gfR h l0 [12] 1 (fun v1 =>
nn v1 (fun p2 =>
alI (g_c G 0) h p2 (nI 1) (fun v3 =>
if l6 = v3 then
if l3 = (nI 1) then
some ((0 : Int64), h, nx)
else
(F_X12_looksFrom_52 G c_X12_looksFrom c_X12_meanFrom fuelL h nx l0 l1 l2 l3 (nI 0))
else
gfR h l0 [12] 1 (fun v4 =>
nn v4 (fun p5 =>
alI (g_c G 0) h p5 (((nI 1034) + l6)) (fun v6 =>
gfR h l0 [12] 1 (fun v7 =>
nn v7 (fun p8 =>
alI (g_c G 0) h p8 (((nI 1042) + l6)) (fun v9 =>
ck h l0 [12] (fun _ =>
cl (F_X12_value G h nx l0 l6 (nI 3)) (fun r10 h11 n12 =>
gfR h11 l0 [12] 1 (fun v13 =>
nn v13 (fun p14 =>
asI (g_c G 0) id h11 p14 (((nI 1034) + l6)) (nI 1000000) (fun h15 =>
gfR h15 l0 [12] 1 (fun v16 =>
nn v16 (fun p17 =>
asI (g_c G 0) id h15 p17 (((nI 1042) + l6)) (nI 0) (fun h18 =>
ck h18 l0 [12] (fun _ =>
cl (c_X12_looksFrom h18 n12 l0 l1 l2 l3 l4 ((l6 + (nI 1)))) (fun r19 h20 n21 =>
gfR h20 l0 [12] 1 (fun v22 =>
if r10 ≤ 0 then
(F_X12_looksFrom_297 G c_X12_looksFrom c_X12_meanFrom h20 n21 v22 (((nI 1034) + l6)) (nI 0) l0 l1 l2 l3 l4 l6 v6 v9 r10 r19)
else
(F_X12_looksFrom_297 G c_X12_looksFrom c_X12_meanFrom h20 n21 v22 (((nI 1034) + l6)) (nI 1000000) l0 l1 l2 l3 l4 l6 v6 v9 r10 r19)))))))))))))))))))))
set_option maxRecDepth 100000 in
set_option maxHeartbeats 4000000 in
theorem k_X12_looksFrom_31 {G : Gx} {d : Nat} {v' : Int64} {h' : Hp} {n' : Nat} {c_X12_looksFrom : Hp → Nat → Nat → Int32 → Int32 → Int32 → Int32 → Int32 → Rz Int64} (C_X12_looksFrom : ∀ {h : Hp} {nx : Nat} {b0 : Nat} {b1 : Int32} {b2 : Int32} {b3 : Int32} {b4 : Int32} {b5 : Int32} {v : Int64} {h1 : Hp} {n1 : Nat}, c_X12_looksFrom h nx b0 b1 b2 b3 b4 b5 = some (v, h1, n1) → Ct G mX12_looksFrom (d + 74) (Same (some (.long v)) h1 n1) [.ref b0, .int b1, .int b2, .int b3, .int b4, .int b5] h nx) {c_X12_meanFrom : Hp → Nat → Nat → Int32 → Int32 → Int32 → Rz Int64} (C_X12_meanFrom : ∀ {h : Hp} {nx : Nat} {b0 : Nat} {b1 : Int32} {b2 : Int32} {b3 : Int32} {v : Int64} {h1 : Hp} {n1 : Nat}, c_X12_meanFrom h nx b0 b1 b2 b3 = some (v, h1, n1) → Ct G mX12_meanFrom (d + 74) (Same (some (.long v)) h1 n1) [.ref b0, .int b1, .int b2, .int b3] h nx) {h : Hp} {nx : Nat} {l0 : Nat} {l1 : Int32} {l2 : Int32} {l3 : Int32} {l4 : Int32} {l6 : Int32} (e : F_X12_looksFrom_31 G c_X12_looksFrom c_X12_meanFrom h nx l0 l1 l2 l3 l4 l6 = some (v', h', n')) : Ok G mX12_looksFrom (d + 75) (Same (some (.long v')) h' n') 31 [some (.ref l0), some (.int l1), some (.int l2), some (.int l3), some (.int l4), none, some (.int l6), none, none, none, none, none, none, none] [] h nx 0 0 := by
  unfold F_X12_looksFrom_31 at e
  refine Ok.iload dX12_looksFrom_31 rfl ?_
  refine Ok.aload_n dX12_looksFrom_33 rfl ?_
  refine X.rgfR fl_RX12_9 dX12_looksFrom_34 e (fun v1 e1 => ?_)
  clear e
  refine Ok.iconstV (v := (nI 1)) dX12_looksFrom_37 (by decide +kernel) ?_
  refine X.rnn e1 (fun p2 q e2 => ?_)
  clear e1
  subst q
  refine X.iald dX12_looksFrom_38 e2 (fun v3 e3 => ?_)
  clear e2
  refine X.icmp_ne (tgt := 201) dX12_looksFrom_39 (by decide) e3 (fun e4 => ?_) (fun e4 => ?_)
  · clear e3
    refine Ok.aload_n dX12_looksFrom_201 rfl ?_
    refine X.rgfR fl_RX12_9 dX12_looksFrom_202 e4 (fun v4 e5 => ?_)
    clear e4
    refine Ok.sipushV (v := (nI 1034)) dX12_looksFrom_205 (by decide +kernel) ?_
    refine Ok.iload dX12_looksFrom_208 rfl ?_
    refine Ok.iadd dX12_looksFrom_210 ?_
    refine X.rnn e5 (fun p5 q e6 => ?_)
    clear e5
    subst q
    refine X.iald dX12_looksFrom_211 e6 (fun v6 e7 => ?_)
    clear e6
    refine XL.istore dX12_looksFrom_212 (by decide) (L := [some (.ref l0), some (.int l1), some (.int l2), some (.int l3), some (.int l4), none, some (.int l6), some (.int v6), none, none, none, none, none, none]) rfl ?_
    refine Ok.aload_n dX12_looksFrom_214 rfl ?_
    refine X.rgfR fl_RX12_9 dX12_looksFrom_215 e7 (fun v7 e8 => ?_)
    clear e7
    refine Ok.sipushV (v := (nI 1042)) dX12_looksFrom_218 (by decide +kernel) ?_
    refine Ok.iload dX12_looksFrom_221 rfl ?_
    refine Ok.iadd dX12_looksFrom_223 ?_
    refine X.rnn e8 (fun p8 q e9 => ?_)
    clear e8
    subst q
    refine X.iald dX12_looksFrom_224 e9 (fun v9 e10 => ?_)
    clear e9
    refine XL.istore dX12_looksFrom_225 (by decide) (L := [some (.ref l0), some (.int l1), some (.int l2), some (.int l3), some (.int l4), none, some (.int l6), some (.int v6), some (.int v9), none, none, none, none, none]) rfl ?_
    refine Ok.aload_n dX12_looksFrom_227 rfl ?_
    refine Ok.iload dX12_looksFrom_228 rfl ?_
    refine Ok.iconstV (v := (nI 3)) dX12_looksFrom_230 (by decide +kernel) ?_
    refine X.rck e10 (fun c fs hb hc e11 => ?_)
    clear e10
    obtain rfl := List.mem_singleton.mp hc
    refine X.callV (My := mX12_value) (n := 2) (As := [.int l6, .int (nI 3)]) (T := (fun v => (some (.int v)))) (stk' := (fun v => [.int v])) (rest := []) (kc' := 0) (ks' := 0) dX12_looksFrom_231 e11 (fun v h n e => k_X12_value (d := d + 74) e) hb rfl wd1319 wd80 wd1318 wd44 wd1316 (by decide +kernel) rfl (by decide) rfl rfl (Nat.le_of_ble_eq_true rfl) (Nat.le_of_ble_eq_true rfl) (Nat.le_of_ble_eq_true rfl) rfl rfl (fun _ => rfl) (fun r10 h11 n12 e12 => ?_)
    clear e11
    refine XL.istore dX12_looksFrom_234 (by decide) (L := [some (.ref l0), some (.int l1), some (.int l2), some (.int l3), some (.int l4), none, some (.int l6), some (.int v6), some (.int v9), some (.int r10), none, none, none, none]) rfl ?_
    refine Ok.aload_n dX12_looksFrom_236 rfl ?_
    refine X.rgfR fl_RX12_9 dX12_looksFrom_237 e12 (fun v13 e13 => ?_)
    clear e12
    refine Ok.sipushV (v := (nI 1034)) dX12_looksFrom_240 (by decide +kernel) ?_
    refine Ok.iload dX12_looksFrom_243 rfl ?_
    refine Ok.iadd dX12_looksFrom_245 ?_
    refine Ok.ldc (v := (nI 1000000)) dX12_looksFrom_246 wd1270 ?_
    refine X.rnn e13 (fun p14 q e14 => ?_)
    clear e13
    subst q
    refine X.iast dX12_looksFrom_248 e14 (fun h15 e15 => ?_)
    clear e14
    refine Ok.aload_n dX12_looksFrom_249 rfl ?_
    refine X.rgfR fl_RX12_9 dX12_looksFrom_250 e15 (fun v16 e16 => ?_)
    clear e15
    refine Ok.sipushV (v := (nI 1042)) dX12_looksFrom_253 (by decide +kernel) ?_
    refine Ok.iload dX12_looksFrom_256 rfl ?_
    refine Ok.iadd dX12_looksFrom_258 ?_
    refine Ok.iconstV (v := (nI 0)) dX12_looksFrom_259 (by decide +kernel) ?_
    refine X.rnn e16 (fun p17 q e17 => ?_)
    clear e16
    subst q
    refine X.iast dX12_looksFrom_260 e17 (fun h18 e18 => ?_)
    clear e17
    refine Ok.aload_n dX12_looksFrom_261 rfl ?_
    refine Ok.iload_n dX12_looksFrom_262 rfl ?_
    refine Ok.iload_n dX12_looksFrom_263 rfl ?_
    refine Ok.iload_n dX12_looksFrom_264 rfl ?_
    refine Ok.iload dX12_looksFrom_265 rfl ?_
    refine Ok.iload dX12_looksFrom_267 rfl ?_
    refine Ok.iconstV (v := (nI 1)) dX12_looksFrom_269 (by decide +kernel) ?_
    refine Ok.iadd dX12_looksFrom_270 ?_
    refine X.rck e18 (fun c fs hb hc e19 => ?_)
    clear e18
    obtain rfl := List.mem_singleton.mp hc
    refine X.callV (My := mX12_looksFrom) (n := 5) (As := [.int l1, .int l2, .int l3, .int l4, .int ((l6 + (nI 1)))]) (T := (fun v => (some (.long v)))) (stk' := (fun v => [.long v])) (rest := []) (kc' := 0) (ks' := 0) dX12_looksFrom_271 e19 (fun v h n e => C_X12_looksFrom e) hb rfl wd1415 wd80 wd1414 wd60 wd1412 (by decide +kernel) rfl (by decide) rfl rfl (Nat.le_of_ble_eq_true rfl) (Nat.le_of_ble_eq_true rfl) (Nat.le_of_ble_eq_true rfl) rfl rfl (fun _ => rfl) (fun r19 h20 n21 e20 => ?_)
    clear e19
    refine XL.lstore dX12_looksFrom_274 (by decide) (L := [some (.ref l0), some (.int l1), some (.int l2), some (.int l3), some (.int l4), none, some (.int l6), some (.int v6), some (.int v9), some (.int r10), some (.long r19), none, none, none]) rfl ?_
    refine Ok.aload_n dX12_looksFrom_276 rfl ?_
    refine X.rgfR fl_RX12_9 dX12_looksFrom_277 e20 (fun v22 e21 => ?_)
    clear e20
    refine Ok.sipushV (v := (nI 1034)) dX12_looksFrom_280 (by decide +kernel) ?_
    refine Ok.iload dX12_looksFrom_283 rfl ?_
    refine Ok.iadd dX12_looksFrom_285 ?_
    refine Ok.iload dX12_looksFrom_286 rfl ?_
    refine X.if_le (tgt := 296) dX12_looksFrom_288 (by decide) e21 (fun e22 => ?_) (fun e22 => ?_)
    · clear e21
      refine Ok.iconstV (v := (nI 0)) dX12_looksFrom_296 (by decide +kernel) ?_
      exact Ok.weakL (k_X12_looksFrom_297 (d := d) C_X12_looksFrom C_X12_meanFrom e22) ⟨rfl, ⟨rfl, ⟨rfl, ⟨rfl, ⟨rfl, ⟨rfl, ⟨rfl, ⟨rfl, ⟨rfl, ⟨rfl, trivial⟩⟩⟩⟩⟩⟩⟩⟩⟩⟩
    · clear e21
      refine Ok.ldc (v := (nI 1000000)) dX12_looksFrom_291 wd1270 ?_
      refine Ok.goto (tgt := 297) dX12_looksFrom_293 (by decide) ?_
      exact Ok.weakL (k_X12_looksFrom_297 (d := d) C_X12_looksFrom C_X12_meanFrom e22) ⟨rfl, ⟨rfl, ⟨rfl, ⟨rfl, ⟨rfl, ⟨rfl, ⟨rfl, ⟨rfl, ⟨rfl, ⟨rfl, trivial⟩⟩⟩⟩⟩⟩⟩⟩⟩⟩
  · clear e3
    refine Ok.iload_n dX12_looksFrom_42 rfl ?_
    refine Ok.iconstV (v := (nI 1)) dX12_looksFrom_43 (by decide +kernel) ?_
    refine X.icmp_ne (tgt := 49) dX12_looksFrom_44 (by decide) e4 (fun e5 => ?_) (fun e5 => ?_)
    · clear e4
      refine Ok.iconstV (v := (nI 0)) dX12_looksFrom_49 (by decide +kernel) ?_
      refine XL.istore dX12_looksFrom_50 (by decide) (L := [some (.ref l0), some (.int l1), some (.int l2), some (.int l3), some (.int l4), none, some (.int l6), some (.int (nI 0)), none, none, none, none, none, none]) rfl ?_
      exact Ok.weakL (k_X12_looksFrom_52 (d := d) C_X12_looksFrom C_X12_meanFrom fuelL e5) ⟨rfl, ⟨rfl, ⟨rfl, ⟨rfl, ⟨rfl, trivial⟩⟩⟩⟩⟩
    · clear e4
      refine XL.lconst (v := 0) dX12_looksFrom_47 (by decide +kernel) ?_
      exact X.lret dX12_looksFrom_48 rfl (Nat.le_of_ble_eq_true rfl) (Nat.le_of_ble_eq_true rfl) e5
noncomputable def F_X12_looksFrom_4 (G : Gx) (c_X12_looksFrom : Hp → Nat → Nat → Int32 → Int32 → Int32 → Int32 → Int32 → Rz Int64) (c_X12_meanFrom : Hp → Nat → Nat → Int32 → Int32 → Int32 → Rz Int64) : Nat → Hp → Nat → Nat → Int32 → Int32 → Int32 → Int32 → Int32 → Rz Int64 := fun n => Nat.rec (motive := fun _ => Hp → Nat → Nat → Int32 → Int32 → Int32 → Int32 → Int32 → Rz Int64) (fun _ _ _ _ _ _ _ _ => none) (fun _ k4 => fun h nx l0 l1 l2 l3 l4 l6 =>
gfR h l0 [12] 1 (fun v1 =>
nn v1 (fun p2 =>
alI (g_c G 0) h p2 (nI 1) (fun v3 =>
if v3 ≤ l6 then
(F_X12_looksFrom_31 G c_X12_looksFrom c_X12_meanFrom h nx l0 l1 l2 l3 l4 l6)
else
if ((((l4 >>> (l6 &&& 31))) &&& (nI 1))) = 0 then
nm (l6 + (nI 1)) (fun v4 =>
(k4 h nx l0 l1 l2 l3 l4 v4))
else
(F_X12_looksFrom_31 G c_X12_looksFrom c_X12_meanFrom h nx l0 l1 l2 l3 l4 l6))))) n
theorem F_X12_looksFrom_4_0 {G : Gx} (c_X12_looksFrom : Hp → Nat → Nat → Int32 → Int32 → Int32 → Int32 → Int32 → Rz Int64) (c_X12_meanFrom : Hp → Nat → Nat → Int32 → Int32 → Int32 → Rz Int64) {h : Hp} {nx : Nat} {l0 : Nat} {l1 : Int32} {l2 : Int32} {l3 : Int32} {l4 : Int32} {l6 : Int32} : F_X12_looksFrom_4 G c_X12_looksFrom c_X12_meanFrom 0 h nx l0 l1 l2 l3 l4 l6 = none := rfl
theorem F_X12_looksFrom_4_s {G : Gx} (c_X12_looksFrom : Hp → Nat → Nat → Int32 → Int32 → Int32 → Int32 → Int32 → Rz Int64) (c_X12_meanFrom : Hp → Nat → Nat → Int32 → Int32 → Int32 → Rz Int64) {n : Nat} {h : Hp} {nx : Nat} {l0 : Nat} {l1 : Int32} {l2 : Int32} {l3 : Int32} {l4 : Int32} {l6 : Int32} : F_X12_looksFrom_4 G c_X12_looksFrom c_X12_meanFrom (n + 1) h nx l0 l1 l2 l3 l4 l6 = (
gfR h l0 [12] 1 (fun v1 =>
nn v1 (fun p2 =>
alI (g_c G 0) h p2 (nI 1) (fun v3 =>
if v3 ≤ l6 then
(F_X12_looksFrom_31 G c_X12_looksFrom c_X12_meanFrom h nx l0 l1 l2 l3 l4 l6)
else
if ((((l4 >>> (l6 &&& 31))) &&& (nI 1))) = 0 then
nm (l6 + (nI 1)) (fun v4 =>
((F_X12_looksFrom_4 G c_X12_looksFrom c_X12_meanFrom n) h nx l0 l1 l2 l3 l4 v4))
else
(F_X12_looksFrom_31 G c_X12_looksFrom c_X12_meanFrom h nx l0 l1 l2 l3 l4 l6))))) := rfl
set_option maxRecDepth 100000 in
set_option maxHeartbeats 4000000 in
theorem k_X12_looksFrom_4 {G : Gx} {d : Nat} {v' : Int64} {h' : Hp} {n' : Nat} {c_X12_looksFrom : Hp → Nat → Nat → Int32 → Int32 → Int32 → Int32 → Int32 → Rz Int64} (C_X12_looksFrom : ∀ {h : Hp} {nx : Nat} {b0 : Nat} {b1 : Int32} {b2 : Int32} {b3 : Int32} {b4 : Int32} {b5 : Int32} {v : Int64} {h1 : Hp} {n1 : Nat}, c_X12_looksFrom h nx b0 b1 b2 b3 b4 b5 = some (v, h1, n1) → Ct G mX12_looksFrom (d + 74) (Same (some (.long v)) h1 n1) [.ref b0, .int b1, .int b2, .int b3, .int b4, .int b5] h nx) {c_X12_meanFrom : Hp → Nat → Nat → Int32 → Int32 → Int32 → Rz Int64} (C_X12_meanFrom : ∀ {h : Hp} {nx : Nat} {b0 : Nat} {b1 : Int32} {b2 : Int32} {b3 : Int32} {v : Int64} {h1 : Hp} {n1 : Nat}, c_X12_meanFrom h nx b0 b1 b2 b3 = some (v, h1, n1) → Ct G mX12_meanFrom (d + 74) (Same (some (.long v)) h1 n1) [.ref b0, .int b1, .int b2, .int b3] h nx) : ∀ (n : Nat) {h : Hp} {nx : Nat} {l0 : Nat} {l1 : Int32} {l2 : Int32} {l3 : Int32} {l4 : Int32} {l6 : Int32}, F_X12_looksFrom_4 G c_X12_looksFrom c_X12_meanFrom n h nx l0 l1 l2 l3 l4 l6 = some (v', h', n') → Ok G mX12_looksFrom (d + 75) (Same (some (.long v')) h' n') 4 [some (.ref l0), some (.int l1), some (.int l2), some (.int l3), some (.int l4), none, some (.int l6), none, none, none, none, none, none, none] [] h nx 0 0 := by
  intro n
  induction n with
  | zero =>
    intro h nx l0 l1 l2 l3 l4 l6 e
    rw [F_X12_looksFrom_4_0] at e
    cases e
  | succ n K4 =>
    intro h nx l0 l1 l2 l3 l4 l6 e
    rw [F_X12_looksFrom_4_s] at e
    refine Ok.iload dX12_looksFrom_4 rfl ?_
    refine Ok.aload_n dX12_looksFrom_6 rfl ?_
    refine X.rgfR fl_RX12_9 dX12_looksFrom_7 e (fun v1 e1 => ?_)
    clear e
    refine Ok.iconstV (v := (nI 1)) dX12_looksFrom_10 (by decide +kernel) ?_
    refine X.rnn e1 (fun p2 q e2 => ?_)
    clear e1
    subst q
    refine X.iald dX12_looksFrom_11 e2 (fun v3 e3 => ?_)
    clear e2
    refine X.icmp_ge (tgt := 31) dX12_looksFrom_12 (by decide) e3 (fun e4 => ?_) (fun e4 => ?_)
    · clear e3
      exact Ok.weakL (k_X12_looksFrom_31 (d := d) C_X12_looksFrom C_X12_meanFrom e4) ⟨rfl, ⟨rfl, ⟨rfl, ⟨rfl, ⟨rfl, ⟨rfl, trivial⟩⟩⟩⟩⟩⟩
    · clear e3
      refine Ok.iload dX12_looksFrom_15 rfl ?_
      refine Ok.iload dX12_looksFrom_17 rfl ?_
      refine Ok.ishr dX12_looksFrom_19 ?_
      refine Ok.iconstV (v := (nI 1)) dX12_looksFrom_20 (by decide +kernel) ?_
      refine Ok.iand dX12_looksFrom_21 ?_
      refine X.if_ne (tgt := 31) dX12_looksFrom_22 (by decide) e4 (fun e5 => ?_) (fun e5 => ?_)
      · clear e4
        exact Ok.weakL (k_X12_looksFrom_31 (d := d) C_X12_looksFrom C_X12_meanFrom e5) ⟨rfl, ⟨rfl, ⟨rfl, ⟨rfl, ⟨rfl, ⟨rfl, trivial⟩⟩⟩⟩⟩⟩
      · clear e4
        refine X.iinc dX12_looksFrom_25 rfl (by decide) (by decide +kernel) e5 (L := fun v4 => [some (.ref l0), some (.int l1), some (.int l2), some (.int l3), some (.int l4), none, some (.int v4), none, none, none, none, none, none, none]) (fun _ => rfl) (fun v4 e6 => ?_)
        clear e5
        refine Ok.goto (tgt := 4) dX12_looksFrom_28 (by decide) ?_
        exact Ok.weakL (K4 e6) ⟨rfl, ⟨rfl, ⟨rfl, ⟨rfl, ⟨rfl, ⟨rfl, trivial⟩⟩⟩⟩⟩⟩
noncomputable def B_X12_looksFrom (G : Gx) (c_X12_looksFrom : Hp → Nat → Nat → Int32 → Int32 → Int32 → Int32 → Int32 → Rz Int64) (c_X12_meanFrom : Hp → Nat → Nat → Int32 → Int32 → Int32 → Rz Int64) (h : Hp) (nx : Nat) (a0 : Nat) (a1 : Int32) (a2 : Int32) (a3 : Int32) (a4 : Int32) (a5 : Int32) : Rz Int64 :=
(F_X12_looksFrom_4 G c_X12_looksFrom c_X12_meanFrom fuelL h nx a0 a1 a2 a3 a4 a5)
set_option maxRecDepth 100000 in
set_option maxHeartbeats 4000000 in
theorem b_X12_looksFrom {G : Gx} {d : Nat} {c_X12_looksFrom : Hp → Nat → Nat → Int32 → Int32 → Int32 → Int32 → Int32 → Rz Int64} (C_X12_looksFrom : ∀ {h : Hp} {nx : Nat} {b0 : Nat} {b1 : Int32} {b2 : Int32} {b3 : Int32} {b4 : Int32} {b5 : Int32} {v : Int64} {h1 : Hp} {n1 : Nat}, c_X12_looksFrom h nx b0 b1 b2 b3 b4 b5 = some (v, h1, n1) → Ct G mX12_looksFrom (d + 74) (Same (some (.long v)) h1 n1) [.ref b0, .int b1, .int b2, .int b3, .int b4, .int b5] h nx) {c_X12_meanFrom : Hp → Nat → Nat → Int32 → Int32 → Int32 → Rz Int64} (C_X12_meanFrom : ∀ {h : Hp} {nx : Nat} {b0 : Nat} {b1 : Int32} {b2 : Int32} {b3 : Int32} {v : Int64} {h1 : Hp} {n1 : Nat}, c_X12_meanFrom h nx b0 b1 b2 b3 = some (v, h1, n1) → Ct G mX12_meanFrom (d + 74) (Same (some (.long v)) h1 n1) [.ref b0, .int b1, .int b2, .int b3] h nx) {h : Hp} {nx : Nat} {a0 : Nat} {a1 : Int32} {a2 : Int32} {a3 : Int32} {a4 : Int32} {a5 : Int32} {v' : Int64} {h' : Hp} {n' : Nat} (e : B_X12_looksFrom G c_X12_looksFrom c_X12_meanFrom h nx a0 a1 a2 a3 a4 a5 = some (v', h', n')) : Ct G mX12_looksFrom (d + 75) (Same (some (.long v')) h' n') [.ref a0, .int a1, .int a2, .int a3, .int a4, .int a5] h nx := by
  unfold B_X12_looksFrom at e
  refine Ct.of (ls := [some (.ref a0), some (.int a1), some (.int a2), some (.int a3), some (.int a4), some (.int a5), none, none, none, none, none, none, none, none]) (by decide +kernel) rfl (Nat.le_of_ble_eq_true rfl) rfl ?_
  refine Ok.iload dX12_looksFrom_0 rfl ?_
  refine XL.istore dX12_looksFrom_2 (by decide) (L := [some (.ref a0), some (.int a1), some (.int a2), some (.int a3), some (.int a4), some (.int a5), some (.int a5), none, none, none, none, none, none, none]) rfl ?_
  exact Ok.weakL (k_X12_looksFrom_4 (d := d) C_X12_looksFrom C_X12_meanFrom fuelL e) ⟨rfl, ⟨rfl, ⟨rfl, ⟨rfl, ⟨rfl, ⟨rfl, trivial⟩⟩⟩⟩⟩⟩
noncomputable def F_X12_meanFrom_18 (G : Gx) (c_X12_looksFrom : Hp → Nat → Nat → Int32 → Int32 → Int32 → Int32 → Int32 → Rz Int64) (c_X12_meanFrom : Hp → Nat → Nat → Int32 → Int32 → Int32 → Rz Int64) (h : Hp) (nx : Nat) (l0 : Nat) (l1 : Int32) (l2 : Int32) (l3 : Int32) : Rz Int64 :=
ck h l0 [12] (fun _ =>
cl (F_X12_bringsAll G h nx l0) (fun r1 h2 n3 =>
ck h2 l0 [12] (fun _ =>
cl (F_X12_lookedAt G h2 n3 l0 l1 l2) (fun r4 h5 n6 =>
ck h5 l0 [12] (fun _ =>
cl (c_X12_looksFrom h5 n6 l0 l1 l2 l3 r4 (nI 0)) (fun r7 h8 n9 =>
some (((r1 + r7)), h8, n9)))))))
set_option maxRecDepth 100000 in
set_option maxHeartbeats 4000000 in
theorem k_X12_meanFrom_18 {G : Gx} {d : Nat} {v' : Int64} {h' : Hp} {n' : Nat} {c_X12_looksFrom : Hp → Nat → Nat → Int32 → Int32 → Int32 → Int32 → Int32 → Rz Int64} (C_X12_looksFrom : ∀ {h : Hp} {nx : Nat} {b0 : Nat} {b1 : Int32} {b2 : Int32} {b3 : Int32} {b4 : Int32} {b5 : Int32} {v : Int64} {h1 : Hp} {n1 : Nat}, c_X12_looksFrom h nx b0 b1 b2 b3 b4 b5 = some (v, h1, n1) → Ct G mX12_looksFrom (d + 74) (Same (some (.long v)) h1 n1) [.ref b0, .int b1, .int b2, .int b3, .int b4, .int b5] h nx) {c_X12_meanFrom : Hp → Nat → Nat → Int32 → Int32 → Int32 → Rz Int64} (C_X12_meanFrom : ∀ {h : Hp} {nx : Nat} {b0 : Nat} {b1 : Int32} {b2 : Int32} {b3 : Int32} {v : Int64} {h1 : Hp} {n1 : Nat}, c_X12_meanFrom h nx b0 b1 b2 b3 = some (v, h1, n1) → Ct G mX12_meanFrom (d + 74) (Same (some (.long v)) h1 n1) [.ref b0, .int b1, .int b2, .int b3] h nx) {h : Hp} {nx : Nat} {l0 : Nat} {l1 : Int32} {l2 : Int32} {l3 : Int32} (e : F_X12_meanFrom_18 G c_X12_looksFrom c_X12_meanFrom h nx l0 l1 l2 l3 = some (v', h', n')) : Ok G mX12_meanFrom (d + 75) (Same (some (.long v')) h' n') 18 [some (.ref l0), some (.int l1), some (.int l2), some (.int l3), none, none, none, none, none, none, none] [] h nx 0 0 := by
  unfold F_X12_meanFrom_18 at e
  refine Ok.aload_n dX12_meanFrom_18 rfl ?_
  refine X.rck e (fun c fs hb hc e1 => ?_)
  clear e
  obtain rfl := List.mem_singleton.mp hc
  refine X.callV (My := mX12_bringsAll) (n := 0) (As := []) (T := (fun v => (some (.long v)))) (stk' := (fun v => [.long v])) (rest := []) (kc' := 0) (ks' := 0) dX12_meanFrom_19 e1 (fun v h n e => k_X12_bringsAll (d := d + 72) e) hb rfl wd1407 wd80 wd1406 wd58 wd1404 (by decide +kernel) rfl (by decide) rfl rfl (Nat.le_of_ble_eq_true rfl) (Nat.le_of_ble_eq_true rfl) (Nat.le_of_ble_eq_true rfl) rfl rfl (fun _ => rfl) (fun r1 h2 n3 e2 => ?_)
  clear e1
  refine Ok.aload_n dX12_meanFrom_22 rfl ?_
  refine Ok.iload_n dX12_meanFrom_23 rfl ?_
  refine Ok.iload_n dX12_meanFrom_24 rfl ?_
  refine Ok.iload_n dX12_meanFrom_25 rfl ?_
  refine Ok.aload_n dX12_meanFrom_26 rfl ?_
  refine Ok.iload_n dX12_meanFrom_27 rfl ?_
  refine Ok.iload_n dX12_meanFrom_28 rfl ?_
  refine X.rck e2 (fun c fs hb hc e3 => ?_)
  clear e2
  obtain rfl := List.mem_singleton.mp hc
  refine X.callV (My := mX12_lookedAt) (n := 2) (As := [.int l1, .int l2]) (T := (fun v => (some (.int v)))) (stk' := (fun v => [.int v, .int l3, .int l2, .int l1, .ref l0, .long r1])) (rest := [.int l3, .int l2, .int l1, .ref l0, .long r1]) (kc' := 0) (ks' := 0) dX12_meanFrom_29 e3 (fun v h n e => k_X12_lookedAt (d := d + 1) e) hb rfl wd1411 wd80 wd1410 wd59 wd1408 (by decide +kernel) rfl (by decide) rfl rfl (Nat.le_of_ble_eq_true rfl) (Nat.le_of_ble_eq_true rfl) (Nat.le_of_ble_eq_true rfl) rfl rfl (fun _ => rfl) (fun r4 h5 n6 e4 => ?_)
  clear e3
  refine Ok.iconstV (v := (nI 0)) dX12_meanFrom_32 (by decide +kernel) ?_
  refine X.rck e4 (fun c fs hb hc e5 => ?_)
  clear e4
  obtain rfl := List.mem_singleton.mp hc
  refine X.callV (My := mX12_looksFrom) (n := 5) (As := [.int l1, .int l2, .int l3, .int r4, .int (nI 0)]) (T := (fun v => (some (.long v)))) (stk' := (fun v => [.long v, .long r1])) (rest := [.long r1]) (kc' := 0) (ks' := 0) dX12_meanFrom_33 e5 (fun v h n e => C_X12_looksFrom e) hb rfl wd1415 wd80 wd1414 wd60 wd1412 (by decide +kernel) rfl (by decide) rfl rfl (Nat.le_of_ble_eq_true rfl) (Nat.le_of_ble_eq_true rfl) (Nat.le_of_ble_eq_true rfl) rfl rfl (fun _ => rfl) (fun r7 h8 n9 e6 => ?_)
  clear e5
  refine Ok.ladd dX12_meanFrom_36 ?_
  exact X.lret dX12_meanFrom_37 rfl (Nat.le_of_ble_eq_true rfl) (Nat.le_of_ble_eq_true rfl) e6
noncomputable def F_X12_meanFrom_134 (G : Gx) (c_X12_looksFrom : Hp → Nat → Nat → Int32 → Int32 → Int32 → Int32 → Int32 → Rz Int64) (c_X12_meanFrom : Hp → Nat → Nat → Int32 → Int32 → Int32 → Rz Int64) (k50 : Hp → Nat → Nat → Int32 → Int32 → Int64 → Int32 → Int32 → Int32 → Rz Int64) (h : Hp) (nx : Nat) (l0 : Nat) (l2 : Int32) (l3 : Int32) (l4 : Int64) (l6 : Int32) (l7 : Int32) (l8 : Int32) : Rz Int64 :=
nm (l8 + (nI 1)) (fun v1 =>
(k50 h nx l0 l2 l3 l4 l6 l7 v1))
set_option maxRecDepth 100000 in
set_option maxHeartbeats 4000000 in
theorem k_X12_meanFrom_134 {G : Gx} {d : Nat} {v' : Int64} {h' : Hp} {n' : Nat} {c_X12_looksFrom : Hp → Nat → Nat → Int32 → Int32 → Int32 → Int32 → Int32 → Rz Int64} (C_X12_looksFrom : ∀ {h : Hp} {nx : Nat} {b0 : Nat} {b1 : Int32} {b2 : Int32} {b3 : Int32} {b4 : Int32} {b5 : Int32} {v : Int64} {h1 : Hp} {n1 : Nat}, c_X12_looksFrom h nx b0 b1 b2 b3 b4 b5 = some (v, h1, n1) → Ct G mX12_looksFrom (d + 74) (Same (some (.long v)) h1 n1) [.ref b0, .int b1, .int b2, .int b3, .int b4, .int b5] h nx) {c_X12_meanFrom : Hp → Nat → Nat → Int32 → Int32 → Int32 → Rz Int64} (C_X12_meanFrom : ∀ {h : Hp} {nx : Nat} {b0 : Nat} {b1 : Int32} {b2 : Int32} {b3 : Int32} {v : Int64} {h1 : Hp} {n1 : Nat}, c_X12_meanFrom h nx b0 b1 b2 b3 = some (v, h1, n1) → Ct G mX12_meanFrom (d + 74) (Same (some (.long v)) h1 n1) [.ref b0, .int b1, .int b2, .int b3] h nx) {k50 : Hp → Nat → Nat → Int32 → Int32 → Int64 → Int32 → Int32 → Int32 → Rz Int64} (K50 : ∀ {h : Hp} {nx : Nat} {l0 : Nat} {l2 : Int32} {l3 : Int32} {l4 : Int64} {l6 : Int32} {l7 : Int32} {l8 : Int32}, k50 h nx l0 l2 l3 l4 l6 l7 l8 = some (v', h', n') → Ok G mX12_meanFrom (d + 75) (Same (some (.long v')) h' n') 50 [some (.ref l0), none, some (.int l2), some (.int l3), some (.long l4), none, some (.int l6), some (.int l7), some (.int l8), none, none] [] h nx 0 0) {h : Hp} {nx : Nat} {l0 : Nat} {l2 : Int32} {l3 : Int32} {l4 : Int64} {l6 : Int32} {l7 : Int32} {l8 : Int32} (e : F_X12_meanFrom_134 G c_X12_looksFrom c_X12_meanFrom k50 h nx l0 l2 l3 l4 l6 l7 l8 = some (v', h', n')) : Ok G mX12_meanFrom (d + 75) (Same (some (.long v')) h' n') 134 [some (.ref l0), none, some (.int l2), some (.int l3), some (.long l4), none, some (.int l6), some (.int l7), some (.int l8), none, none] [] h nx 0 0 := by
  unfold F_X12_meanFrom_134 at e
  refine X.iinc dX12_meanFrom_134 rfl (by decide) (by decide +kernel) e (L := fun v1 => [some (.ref l0), none, some (.int l2), some (.int l3), some (.long l4), none, some (.int l6), some (.int l7), some (.int v1), none, none]) (fun _ => rfl) (fun v1 e1 => ?_)
  clear e
  refine Ok.goto (tgt := 50) dX12_meanFrom_137 (by decide) ?_
  exact Ok.weakL (K50 e1) ⟨rfl, ⟨rfl, ⟨rfl, ⟨rfl, ⟨rfl, ⟨rfl, ⟨rfl, trivial⟩⟩⟩⟩⟩⟩⟩
noncomputable def F_X12_meanFrom_129 (G : Gx) (c_X12_looksFrom : Hp → Nat → Nat → Int32 → Int32 → Int32 → Int32 → Int32 → Rz Int64) (c_X12_meanFrom : Hp → Nat → Nat → Int32 → Int32 → Int32 → Rz Int64) (k50 : Hp → Nat → Nat → Int32 → Int32 → Int64 → Int32 → Int32 → Int32 → Rz Int64) (h : Hp) (nx : Nat) (s0 : Int64) (l0 : Nat) (l2 : Int32) (l3 : Int32) (l7 : Int32) (l8 : Int32) : Rz Int64 :=
(F_X12_meanFrom_134 G c_X12_looksFrom c_X12_meanFrom k50 h nx l0 l2 l3 s0 (nI 1) l7 l8)
set_option maxRecDepth 100000 in
set_option maxHeartbeats 4000000 in
theorem k_X12_meanFrom_129 {G : Gx} {d : Nat} {v' : Int64} {h' : Hp} {n' : Nat} {c_X12_looksFrom : Hp → Nat → Nat → Int32 → Int32 → Int32 → Int32 → Int32 → Rz Int64} (C_X12_looksFrom : ∀ {h : Hp} {nx : Nat} {b0 : Nat} {b1 : Int32} {b2 : Int32} {b3 : Int32} {b4 : Int32} {b5 : Int32} {v : Int64} {h1 : Hp} {n1 : Nat}, c_X12_looksFrom h nx b0 b1 b2 b3 b4 b5 = some (v, h1, n1) → Ct G mX12_looksFrom (d + 74) (Same (some (.long v)) h1 n1) [.ref b0, .int b1, .int b2, .int b3, .int b4, .int b5] h nx) {c_X12_meanFrom : Hp → Nat → Nat → Int32 → Int32 → Int32 → Rz Int64} (C_X12_meanFrom : ∀ {h : Hp} {nx : Nat} {b0 : Nat} {b1 : Int32} {b2 : Int32} {b3 : Int32} {v : Int64} {h1 : Hp} {n1 : Nat}, c_X12_meanFrom h nx b0 b1 b2 b3 = some (v, h1, n1) → Ct G mX12_meanFrom (d + 74) (Same (some (.long v)) h1 n1) [.ref b0, .int b1, .int b2, .int b3] h nx) {k50 : Hp → Nat → Nat → Int32 → Int32 → Int64 → Int32 → Int32 → Int32 → Rz Int64} (K50 : ∀ {h : Hp} {nx : Nat} {l0 : Nat} {l2 : Int32} {l3 : Int32} {l4 : Int64} {l6 : Int32} {l7 : Int32} {l8 : Int32}, k50 h nx l0 l2 l3 l4 l6 l7 l8 = some (v', h', n') → Ok G mX12_meanFrom (d + 75) (Same (some (.long v')) h' n') 50 [some (.ref l0), none, some (.int l2), some (.int l3), some (.long l4), none, some (.int l6), some (.int l7), some (.int l8), none, none] [] h nx 0 0) {h : Hp} {nx : Nat} {s0 : Int64} {l0 : Nat} {l2 : Int32} {l3 : Int32} {l7 : Int32} {l8 : Int32} (e : F_X12_meanFrom_129 G c_X12_looksFrom c_X12_meanFrom k50 h nx s0 l0 l2 l3 l7 l8 = some (v', h', n')) : Ok G mX12_meanFrom (d + 75) (Same (some (.long v')) h' n') 129 [some (.ref l0), none, some (.int l2), some (.int l3), none, none, none, some (.int l7), some (.int l8), none, none] [.long s0] h nx 0 0 := by
  unfold F_X12_meanFrom_129 at e
  refine XL.lstore dX12_meanFrom_129 (by decide) (L := [some (.ref l0), none, some (.int l2), some (.int l3), some (.long s0), none, none, some (.int l7), some (.int l8), none, none]) rfl ?_
  refine Ok.iconstV (v := (nI 1)) dX12_meanFrom_131 (by decide +kernel) ?_
  refine XL.istore dX12_meanFrom_132 (by decide) (L := [some (.ref l0), none, some (.int l2), some (.int l3), some (.long s0), none, some (.int (nI 1)), some (.int l7), some (.int l8), none, none]) rfl ?_
  exact Ok.weakL (k_X12_meanFrom_134 (d := d) C_X12_looksFrom C_X12_meanFrom K50 e) ⟨rfl, ⟨rfl, ⟨rfl, ⟨rfl, ⟨rfl, ⟨rfl, ⟨rfl, trivial⟩⟩⟩⟩⟩⟩⟩
noncomputable def F_X12_meanFrom_122 (G : Gx) (c_X12_looksFrom : Hp → Nat → Nat → Int32 → Int32 → Int32 → Int32 → Int32 → Rz Int64) (c_X12_meanFrom : Hp → Nat → Nat → Int32 → Int32 → Int32 → Rz Int64) (k50 : Hp → Nat → Nat → Int32 → Int32 → Int64 → Int32 → Int32 → Int32 → Rz Int64) (h : Hp) (nx : Nat) (l0 : Nat) (l2 : Int32) (l3 : Int32) (l7 : Int32) (l8 : Int32) (l9 : Int64) : Rz Int64 :=
(F_X12_meanFrom_129 G c_X12_looksFrom c_X12_meanFrom k50 h nx l9 l0 l2 l3 l7 l8)
set_option maxRecDepth 100000 in
set_option maxHeartbeats 4000000 in
theorem k_X12_meanFrom_122 {G : Gx} {d : Nat} {v' : Int64} {h' : Hp} {n' : Nat} {c_X12_looksFrom : Hp → Nat → Nat → Int32 → Int32 → Int32 → Int32 → Int32 → Rz Int64} (C_X12_looksFrom : ∀ {h : Hp} {nx : Nat} {b0 : Nat} {b1 : Int32} {b2 : Int32} {b3 : Int32} {b4 : Int32} {b5 : Int32} {v : Int64} {h1 : Hp} {n1 : Nat}, c_X12_looksFrom h nx b0 b1 b2 b3 b4 b5 = some (v, h1, n1) → Ct G mX12_looksFrom (d + 74) (Same (some (.long v)) h1 n1) [.ref b0, .int b1, .int b2, .int b3, .int b4, .int b5] h nx) {c_X12_meanFrom : Hp → Nat → Nat → Int32 → Int32 → Int32 → Rz Int64} (C_X12_meanFrom : ∀ {h : Hp} {nx : Nat} {b0 : Nat} {b1 : Int32} {b2 : Int32} {b3 : Int32} {v : Int64} {h1 : Hp} {n1 : Nat}, c_X12_meanFrom h nx b0 b1 b2 b3 = some (v, h1, n1) → Ct G mX12_meanFrom (d + 74) (Same (some (.long v)) h1 n1) [.ref b0, .int b1, .int b2, .int b3] h nx) {k50 : Hp → Nat → Nat → Int32 → Int32 → Int64 → Int32 → Int32 → Int32 → Rz Int64} (K50 : ∀ {h : Hp} {nx : Nat} {l0 : Nat} {l2 : Int32} {l3 : Int32} {l4 : Int64} {l6 : Int32} {l7 : Int32} {l8 : Int32}, k50 h nx l0 l2 l3 l4 l6 l7 l8 = some (v', h', n') → Ok G mX12_meanFrom (d + 75) (Same (some (.long v')) h' n') 50 [some (.ref l0), none, some (.int l2), some (.int l3), some (.long l4), none, some (.int l6), some (.int l7), some (.int l8), none, none] [] h nx 0 0) {h : Hp} {nx : Nat} {l0 : Nat} {l2 : Int32} {l3 : Int32} {l7 : Int32} {l8 : Int32} {l9 : Int64} (e : F_X12_meanFrom_122 G c_X12_looksFrom c_X12_meanFrom k50 h nx l0 l2 l3 l7 l8 l9 = some (v', h', n')) : Ok G mX12_meanFrom (d + 75) (Same (some (.long v')) h' n') 122 [some (.ref l0), none, some (.int l2), some (.int l3), none, none, none, some (.int l7), some (.int l8), some (.long l9), none] [] h nx 0 0 := by
  unfold F_X12_meanFrom_122 at e
  refine Ok.lload dX12_meanFrom_122 rfl ?_
  refine Ok.goto (tgt := 129) dX12_meanFrom_124 (by decide) ?_
  exact Ok.weakL (k_X12_meanFrom_129 (d := d) C_X12_looksFrom C_X12_meanFrom K50 e) ⟨rfl, ⟨rfl, ⟨rfl, ⟨rfl, ⟨rfl, trivial⟩⟩⟩⟩⟩
noncomputable def F_X12_meanFrom_107 (G : Gx) (c_X12_looksFrom : Hp → Nat → Nat → Int32 → Int32 → Int32 → Int32 → Int32 → Rz Int64) (c_X12_meanFrom : Hp → Nat → Nat → Int32 → Int32 → Int32 → Rz Int64) (k50 : Hp → Nat → Nat → Int32 → Int32 → Int64 → Int32 → Int32 → Int32 → Rz Int64) (h : Hp) (nx : Nat) (s0 : Int32) (l0 : Nat) (l2 : Int32) (l3 : Int32) (l4 : Int64) (l6 : Int32) (l8 : Int32) (l9 : Int64) : Rz Int64 :=
if l6 = 0 then
(F_X12_meanFrom_122 G c_X12_looksFrom c_X12_meanFrom k50 h nx l0 l2 l3 s0 l8 l9)
else
if ((lg_cmp l9 l4)) ≤ 0 then
(F_X12_meanFrom_129 G c_X12_looksFrom c_X12_meanFrom k50 h nx l4 l0 l2 l3 s0 l8)
else
(F_X12_meanFrom_122 G c_X12_looksFrom c_X12_meanFrom k50 h nx l0 l2 l3 s0 l8 l9)
set_option maxRecDepth 100000 in
set_option maxHeartbeats 4000000 in
theorem k_X12_meanFrom_107 {G : Gx} {d : Nat} {v' : Int64} {h' : Hp} {n' : Nat} {c_X12_looksFrom : Hp → Nat → Nat → Int32 → Int32 → Int32 → Int32 → Int32 → Rz Int64} (C_X12_looksFrom : ∀ {h : Hp} {nx : Nat} {b0 : Nat} {b1 : Int32} {b2 : Int32} {b3 : Int32} {b4 : Int32} {b5 : Int32} {v : Int64} {h1 : Hp} {n1 : Nat}, c_X12_looksFrom h nx b0 b1 b2 b3 b4 b5 = some (v, h1, n1) → Ct G mX12_looksFrom (d + 74) (Same (some (.long v)) h1 n1) [.ref b0, .int b1, .int b2, .int b3, .int b4, .int b5] h nx) {c_X12_meanFrom : Hp → Nat → Nat → Int32 → Int32 → Int32 → Rz Int64} (C_X12_meanFrom : ∀ {h : Hp} {nx : Nat} {b0 : Nat} {b1 : Int32} {b2 : Int32} {b3 : Int32} {v : Int64} {h1 : Hp} {n1 : Nat}, c_X12_meanFrom h nx b0 b1 b2 b3 = some (v, h1, n1) → Ct G mX12_meanFrom (d + 74) (Same (some (.long v)) h1 n1) [.ref b0, .int b1, .int b2, .int b3] h nx) {k50 : Hp → Nat → Nat → Int32 → Int32 → Int64 → Int32 → Int32 → Int32 → Rz Int64} (K50 : ∀ {h : Hp} {nx : Nat} {l0 : Nat} {l2 : Int32} {l3 : Int32} {l4 : Int64} {l6 : Int32} {l7 : Int32} {l8 : Int32}, k50 h nx l0 l2 l3 l4 l6 l7 l8 = some (v', h', n') → Ok G mX12_meanFrom (d + 75) (Same (some (.long v')) h' n') 50 [some (.ref l0), none, some (.int l2), some (.int l3), some (.long l4), none, some (.int l6), some (.int l7), some (.int l8), none, none] [] h nx 0 0) {h : Hp} {nx : Nat} {s0 : Int32} {l0 : Nat} {l2 : Int32} {l3 : Int32} {l4 : Int64} {l6 : Int32} {l8 : Int32} {l9 : Int64} (e : F_X12_meanFrom_107 G c_X12_looksFrom c_X12_meanFrom k50 h nx s0 l0 l2 l3 l4 l6 l8 l9 = some (v', h', n')) : Ok G mX12_meanFrom (d + 75) (Same (some (.long v')) h' n') 107 [some (.ref l0), none, some (.int l2), some (.int l3), some (.long l4), none, some (.int l6), none, some (.int l8), some (.long l9), none] [.int s0] h nx 0 0 := by
  unfold F_X12_meanFrom_107 at e
  refine XL.istore dX12_meanFrom_107 (by decide) (L := [some (.ref l0), none, some (.int l2), some (.int l3), some (.long l4), none, some (.int l6), some (.int s0), some (.int l8), some (.long l9), none]) rfl ?_
  refine Ok.iload dX12_meanFrom_109 rfl ?_
  refine X.if_eq (tgt := 122) dX12_meanFrom_111 (by decide) e (fun e1 => ?_) (fun e1 => ?_)
  · clear e
    exact Ok.weakL (k_X12_meanFrom_122 (d := d) C_X12_looksFrom C_X12_meanFrom K50 e1) ⟨rfl, ⟨rfl, ⟨rfl, ⟨rfl, ⟨rfl, ⟨rfl, trivial⟩⟩⟩⟩⟩⟩
  · clear e
    refine Ok.lload dX12_meanFrom_114 rfl ?_
    refine Ok.lload dX12_meanFrom_116 rfl ?_
    refine Ok.lcmp dX12_meanFrom_118 ?_
    refine X.if_le (tgt := 127) dX12_meanFrom_119 (by decide) e1 (fun e2 => ?_) (fun e2 => ?_)
    · clear e1
      refine Ok.lload dX12_meanFrom_127 rfl ?_
      exact Ok.weakL (k_X12_meanFrom_129 (d := d) C_X12_looksFrom C_X12_meanFrom K50 e2) ⟨rfl, ⟨rfl, ⟨rfl, ⟨rfl, ⟨rfl, trivial⟩⟩⟩⟩⟩
    · clear e1
      exact Ok.weakL (k_X12_meanFrom_122 (d := d) C_X12_looksFrom C_X12_meanFrom K50 e2) ⟨rfl, ⟨rfl, ⟨rfl, ⟨rfl, ⟨rfl, ⟨rfl, trivial⟩⟩⟩⟩⟩⟩
noncomputable def F_X12_meanFrom_100 (G : Gx) (c_X12_looksFrom : Hp → Nat → Nat → Int32 → Int32 → Int32 → Int32 → Int32 → Rz Int64) (c_X12_meanFrom : Hp → Nat → Nat → Int32 → Int32 → Int32 → Rz Int64) (k50 : Hp → Nat → Nat → Int32 → Int32 → Int64 → Int32 → Int32 → Int32 → Rz Int64) (h : Hp) (nx : Nat) (l0 : Nat) (l2 : Int32) (l3 : Int32) (l4 : Int64) (l6 : Int32) (l8 : Int32) (l9 : Int64) : Rz Int64 :=
(F_X12_meanFrom_107 G c_X12_looksFrom c_X12_meanFrom k50 h nx l8 l0 l2 l3 l4 l6 l8 l9)
set_option maxRecDepth 100000 in
set_option maxHeartbeats 4000000 in
theorem k_X12_meanFrom_100 {G : Gx} {d : Nat} {v' : Int64} {h' : Hp} {n' : Nat} {c_X12_looksFrom : Hp → Nat → Nat → Int32 → Int32 → Int32 → Int32 → Int32 → Rz Int64} (C_X12_looksFrom : ∀ {h : Hp} {nx : Nat} {b0 : Nat} {b1 : Int32} {b2 : Int32} {b3 : Int32} {b4 : Int32} {b5 : Int32} {v : Int64} {h1 : Hp} {n1 : Nat}, c_X12_looksFrom h nx b0 b1 b2 b3 b4 b5 = some (v, h1, n1) → Ct G mX12_looksFrom (d + 74) (Same (some (.long v)) h1 n1) [.ref b0, .int b1, .int b2, .int b3, .int b4, .int b5] h nx) {c_X12_meanFrom : Hp → Nat → Nat → Int32 → Int32 → Int32 → Rz Int64} (C_X12_meanFrom : ∀ {h : Hp} {nx : Nat} {b0 : Nat} {b1 : Int32} {b2 : Int32} {b3 : Int32} {v : Int64} {h1 : Hp} {n1 : Nat}, c_X12_meanFrom h nx b0 b1 b2 b3 = some (v, h1, n1) → Ct G mX12_meanFrom (d + 74) (Same (some (.long v)) h1 n1) [.ref b0, .int b1, .int b2, .int b3] h nx) {k50 : Hp → Nat → Nat → Int32 → Int32 → Int64 → Int32 → Int32 → Int32 → Rz Int64} (K50 : ∀ {h : Hp} {nx : Nat} {l0 : Nat} {l2 : Int32} {l3 : Int32} {l4 : Int64} {l6 : Int32} {l7 : Int32} {l8 : Int32}, k50 h nx l0 l2 l3 l4 l6 l7 l8 = some (v', h', n') → Ok G mX12_meanFrom (d + 75) (Same (some (.long v')) h' n') 50 [some (.ref l0), none, some (.int l2), some (.int l3), some (.long l4), none, some (.int l6), some (.int l7), some (.int l8), none, none] [] h nx 0 0) {h : Hp} {nx : Nat} {l0 : Nat} {l2 : Int32} {l3 : Int32} {l4 : Int64} {l6 : Int32} {l8 : Int32} {l9 : Int64} (e : F_X12_meanFrom_100 G c_X12_looksFrom c_X12_meanFrom k50 h nx l0 l2 l3 l4 l6 l8 l9 = some (v', h', n')) : Ok G mX12_meanFrom (d + 75) (Same (some (.long v')) h' n') 100 [some (.ref l0), none, some (.int l2), some (.int l3), some (.long l4), none, some (.int l6), none, some (.int l8), some (.long l9), none] [] h nx 0 0 := by
  unfold F_X12_meanFrom_100 at e
  refine Ok.iload dX12_meanFrom_100 rfl ?_
  refine Ok.goto (tgt := 107) dX12_meanFrom_102 (by decide) ?_
  exact Ok.weakL (k_X12_meanFrom_107 (d := d) C_X12_looksFrom C_X12_meanFrom K50 e) ⟨rfl, ⟨rfl, ⟨rfl, ⟨rfl, ⟨rfl, ⟨rfl, ⟨rfl, trivial⟩⟩⟩⟩⟩⟩⟩
noncomputable def F_X12_meanFrom_50 (G : Gx) (c_X12_looksFrom : Hp → Nat → Nat → Int32 → Int32 → Int32 → Int32 → Int32 → Rz Int64) (c_X12_meanFrom : Hp → Nat → Nat → Int32 → Int32 → Int32 → Rz Int64) : Nat → Hp → Nat → Nat → Int32 → Int32 → Int64 → Int32 → Int32 → Int32 → Rz Int64 := fun n => Nat.rec (motive := fun _ => Hp → Nat → Nat → Int32 → Int32 → Int64 → Int32 → Int32 → Int32 → Rz Int64) (fun _ _ _ _ _ _ _ _ _ => none) (fun _ k50 => fun h nx l0 l2 l3 l4 l6 l7 l8 =>
gfR h l0 [12] 1 (fun v1 =>
nn v1 (fun p2 =>
alI (g_c G 0) h p2 (nI 1) (fun v3 =>
if (((nI 1) <<< (v3 &&& 31))) ≤ l8 then
pfV h l0 [12] 26 (.int l7) (fun h4 =>
ck h4 l0 [12] (fun _ =>
cl (F_X12_bringsAll G h4 nx l0) (fun r5 h6 n7 =>
some (((r5 + l4)), h6, n7))))
else
cl (F_X12_count1 G h nx l8) (fun r8 h9 n10 =>
ck h9 l0 [12] (fun _ =>
cl (F_X12_looking G h9 n10 l0) (fun r11 h12 n13 =>
if r8 = r11 then
ck h12 l0 [12] (fun _ =>
cl (c_X12_looksFrom h12 n13 l0 (-1 : Int32) l2 l3 l8 (nI 0)) (fun r14 h15 n16 =>
if l6 = 0 then
(F_X12_meanFrom_100 G c_X12_looksFrom c_X12_meanFrom k50 h15 n16 l0 l2 l3 l4 l6 l8 r14)
else
if ((lg_cmp r14 l4)) ≤ 0 then
(F_X12_meanFrom_107 G c_X12_looksFrom c_X12_meanFrom k50 h15 n16 l7 l0 l2 l3 l4 l6 l8 r14)
else
(F_X12_meanFrom_100 G c_X12_looksFrom c_X12_meanFrom k50 h15 n16 l0 l2 l3 l4 l6 l8 r14)))
else
(F_X12_meanFrom_134 G c_X12_looksFrom c_X12_meanFrom k50 h12 n13 l0 l2 l3 l4 l6 l7 l8)))))))) n
theorem F_X12_meanFrom_50_0 {G : Gx} (c_X12_looksFrom : Hp → Nat → Nat → Int32 → Int32 → Int32 → Int32 → Int32 → Rz Int64) (c_X12_meanFrom : Hp → Nat → Nat → Int32 → Int32 → Int32 → Rz Int64) {h : Hp} {nx : Nat} {l0 : Nat} {l2 : Int32} {l3 : Int32} {l4 : Int64} {l6 : Int32} {l7 : Int32} {l8 : Int32} : F_X12_meanFrom_50 G c_X12_looksFrom c_X12_meanFrom 0 h nx l0 l2 l3 l4 l6 l7 l8 = none := rfl
theorem F_X12_meanFrom_50_s {G : Gx} (c_X12_looksFrom : Hp → Nat → Nat → Int32 → Int32 → Int32 → Int32 → Int32 → Rz Int64) (c_X12_meanFrom : Hp → Nat → Nat → Int32 → Int32 → Int32 → Rz Int64) {n : Nat} {h : Hp} {nx : Nat} {l0 : Nat} {l2 : Int32} {l3 : Int32} {l4 : Int64} {l6 : Int32} {l7 : Int32} {l8 : Int32} : F_X12_meanFrom_50 G c_X12_looksFrom c_X12_meanFrom (n + 1) h nx l0 l2 l3 l4 l6 l7 l8 = (
gfR h l0 [12] 1 (fun v1 =>
nn v1 (fun p2 =>
alI (g_c G 0) h p2 (nI 1) (fun v3 =>
if (((nI 1) <<< (v3 &&& 31))) ≤ l8 then
pfV h l0 [12] 26 (.int l7) (fun h4 =>
ck h4 l0 [12] (fun _ =>
cl (F_X12_bringsAll G h4 nx l0) (fun r5 h6 n7 =>
some (((r5 + l4)), h6, n7))))
else
cl (F_X12_count1 G h nx l8) (fun r8 h9 n10 =>
ck h9 l0 [12] (fun _ =>
cl (F_X12_looking G h9 n10 l0) (fun r11 h12 n13 =>
if r8 = r11 then
ck h12 l0 [12] (fun _ =>
cl (c_X12_looksFrom h12 n13 l0 (-1 : Int32) l2 l3 l8 (nI 0)) (fun r14 h15 n16 =>
if l6 = 0 then
(F_X12_meanFrom_100 G c_X12_looksFrom c_X12_meanFrom (F_X12_meanFrom_50 G c_X12_looksFrom c_X12_meanFrom n) h15 n16 l0 l2 l3 l4 l6 l8 r14)
else
if ((lg_cmp r14 l4)) ≤ 0 then
(F_X12_meanFrom_107 G c_X12_looksFrom c_X12_meanFrom (F_X12_meanFrom_50 G c_X12_looksFrom c_X12_meanFrom n) h15 n16 l7 l0 l2 l3 l4 l6 l8 r14)
else
(F_X12_meanFrom_100 G c_X12_looksFrom c_X12_meanFrom (F_X12_meanFrom_50 G c_X12_looksFrom c_X12_meanFrom n) h15 n16 l0 l2 l3 l4 l6 l8 r14)))
else
(F_X12_meanFrom_134 G c_X12_looksFrom c_X12_meanFrom (F_X12_meanFrom_50 G c_X12_looksFrom c_X12_meanFrom n) h12 n13 l0 l2 l3 l4 l6 l7 l8)))))))) := rfl
set_option maxRecDepth 100000 in
set_option maxHeartbeats 4000000 in
theorem k_X12_meanFrom_50 {G : Gx} {d : Nat} {v' : Int64} {h' : Hp} {n' : Nat} {c_X12_looksFrom : Hp → Nat → Nat → Int32 → Int32 → Int32 → Int32 → Int32 → Rz Int64} (C_X12_looksFrom : ∀ {h : Hp} {nx : Nat} {b0 : Nat} {b1 : Int32} {b2 : Int32} {b3 : Int32} {b4 : Int32} {b5 : Int32} {v : Int64} {h1 : Hp} {n1 : Nat}, c_X12_looksFrom h nx b0 b1 b2 b3 b4 b5 = some (v, h1, n1) → Ct G mX12_looksFrom (d + 74) (Same (some (.long v)) h1 n1) [.ref b0, .int b1, .int b2, .int b3, .int b4, .int b5] h nx) {c_X12_meanFrom : Hp → Nat → Nat → Int32 → Int32 → Int32 → Rz Int64} (C_X12_meanFrom : ∀ {h : Hp} {nx : Nat} {b0 : Nat} {b1 : Int32} {b2 : Int32} {b3 : Int32} {v : Int64} {h1 : Hp} {n1 : Nat}, c_X12_meanFrom h nx b0 b1 b2 b3 = some (v, h1, n1) → Ct G mX12_meanFrom (d + 74) (Same (some (.long v)) h1 n1) [.ref b0, .int b1, .int b2, .int b3] h nx) : ∀ (n : Nat) {h : Hp} {nx : Nat} {l0 : Nat} {l2 : Int32} {l3 : Int32} {l4 : Int64} {l6 : Int32} {l7 : Int32} {l8 : Int32}, F_X12_meanFrom_50 G c_X12_looksFrom c_X12_meanFrom n h nx l0 l2 l3 l4 l6 l7 l8 = some (v', h', n') → Ok G mX12_meanFrom (d + 75) (Same (some (.long v')) h' n') 50 [some (.ref l0), none, some (.int l2), some (.int l3), some (.long l4), none, some (.int l6), some (.int l7), some (.int l8), none, none] [] h nx 0 0 := by
  intro n
  induction n with
  | zero =>
    intro h nx l0 l2 l3 l4 l6 l7 l8 e
    rw [F_X12_meanFrom_50_0] at e
    cases e
  | succ n K50 =>
    intro h nx l0 l2 l3 l4 l6 l7 l8 e
    rw [F_X12_meanFrom_50_s] at e
    refine Ok.iload dX12_meanFrom_50 rfl ?_
    refine Ok.iconstV (v := (nI 1)) dX12_meanFrom_52 (by decide +kernel) ?_
    refine Ok.aload_n dX12_meanFrom_53 rfl ?_
    refine X.rgfR fl_RX12_9 dX12_meanFrom_54 e (fun v1 e1 => ?_)
    clear e
    refine Ok.iconstV (v := (nI 1)) dX12_meanFrom_57 (by decide +kernel) ?_
    refine X.rnn e1 (fun p2 q e2 => ?_)
    clear e1
    subst q
    refine X.iald dX12_meanFrom_58 e2 (fun v3 e3 => ?_)
    clear e2
    refine Ok.ishl dX12_meanFrom_59 ?_
    refine X.icmp_ge (tgt := 140) dX12_meanFrom_60 (by decide) e3 (fun e4 => ?_) (fun e4 => ?_)
    · clear e3
      refine Ok.aload_n dX12_meanFrom_140 rfl ?_
      refine Ok.iload dX12_meanFrom_141 rfl ?_
      refine X.rpfV (v := (.int l7)) fp_RX12_258 rfl rfl dX12_meanFrom_143 e4 (fun h4 e5 => ?_)
      clear e4
      refine Ok.aload_n dX12_meanFrom_146 rfl ?_
      refine X.rck e5 (fun c fs hb hc e6 => ?_)
      clear e5
      obtain rfl := List.mem_singleton.mp hc
      refine X.callV (My := mX12_bringsAll) (n := 0) (As := []) (T := (fun v => (some (.long v)))) (stk' := (fun v => [.long v])) (rest := []) (kc' := 0) (ks' := 0) dX12_meanFrom_147 e6 (fun v h n e => k_X12_bringsAll (d := d + 72) e) hb rfl wd1407 wd80 wd1406 wd58 wd1404 (by decide +kernel) rfl (by decide) rfl rfl (Nat.le_of_ble_eq_true rfl) (Nat.le_of_ble_eq_true rfl) (Nat.le_of_ble_eq_true rfl) rfl rfl (fun _ => rfl) (fun r5 h6 n7 e7 => ?_)
      clear e6
      refine Ok.lload dX12_meanFrom_150 rfl ?_
      refine Ok.ladd dX12_meanFrom_152 ?_
      exact X.lret dX12_meanFrom_153 rfl (Nat.le_of_ble_eq_true rfl) (Nat.le_of_ble_eq_true rfl) e7
    · clear e3
      refine Ok.iload dX12_meanFrom_63 rfl ?_
      refine X.callS (My := mX12_count1) (n := 1) (As := [.int l8]) (T := (fun v => (some (.int v)))) (stk' := (fun v => [.int v])) (rest := []) (kc' := 0) (ks' := 0) dX12_meanFrom_65 e4 (fun v h n e => k_X12_count1 (d := d + 74) e) wd1387 wd80 wd1386 wd1385 (by decide +kernel) rfl (by decide) rfl rfl (Nat.le_of_ble_eq_true rfl) (Nat.le_of_ble_eq_true rfl) (Nat.le_of_ble_eq_true rfl) rfl rfl (fun _ => rfl) (fun r8 h9 n10 e5 => ?_)
      clear e4
      refine Ok.aload_n dX12_meanFrom_68 rfl ?_
      refine X.rck e5 (fun c fs hb hc e6 => ?_)
      clear e5
      obtain rfl := List.mem_singleton.mp hc
      refine X.callV (My := mX12_looking) (n := 0) (As := []) (T := (fun v => (some (.int v)))) (stk' := (fun v => [.int v, .int r8])) (rest := [.int r8]) (kc' := 0) (ks' := 0) dX12_meanFrom_69 e6 (fun v h n e => k_X12_looking (d := d + 74) e) hb rfl wd1376 wd80 wd1375 wd52 wd1373 (by decide +kernel) rfl (by decide) rfl rfl (Nat.le_of_ble_eq_true rfl) (Nat.le_of_ble_eq_true rfl) (Nat.le_of_ble_eq_true rfl) rfl rfl (fun _ => rfl) (fun r11 h12 n13 e7 => ?_)
      clear e6
      refine X.icmp_ne (tgt := 134) dX12_meanFrom_72 (by decide) e7 (fun e8 => ?_) (fun e8 => ?_)
      · clear e7
        exact Ok.weakL (k_X12_meanFrom_134 (d := d) C_X12_looksFrom C_X12_meanFrom K50 e8) ⟨rfl, ⟨rfl, ⟨rfl, ⟨rfl, ⟨rfl, ⟨rfl, ⟨rfl, trivial⟩⟩⟩⟩⟩⟩⟩
      · clear e7
        refine Ok.aload_n dX12_meanFrom_75 rfl ?_
        refine Ok.iconstV (v := (-1 : Int32)) dX12_meanFrom_76 (by decide +kernel) ?_
        refine Ok.iload_n dX12_meanFrom_77 rfl ?_
        refine Ok.iload_n dX12_meanFrom_78 rfl ?_
        refine Ok.iload dX12_meanFrom_79 rfl ?_
        refine Ok.iconstV (v := (nI 0)) dX12_meanFrom_81 (by decide +kernel) ?_
        refine X.rck e8 (fun c fs hb hc e9 => ?_)
        clear e8
        obtain rfl := List.mem_singleton.mp hc
        refine X.callV (My := mX12_looksFrom) (n := 5) (As := [.int (-1 : Int32), .int l2, .int l3, .int l8, .int (nI 0)]) (T := (fun v => (some (.long v)))) (stk' := (fun v => [.long v])) (rest := []) (kc' := 0) (ks' := 0) dX12_meanFrom_82 e9 (fun v h n e => C_X12_looksFrom e) hb rfl wd1415 wd80 wd1414 wd60 wd1412 (by decide +kernel) rfl (by decide) rfl rfl (Nat.le_of_ble_eq_true rfl) (Nat.le_of_ble_eq_true rfl) (Nat.le_of_ble_eq_true rfl) rfl rfl (fun _ => rfl) (fun r14 h15 n16 e10 => ?_)
        clear e9
        refine XL.lstore dX12_meanFrom_85 (by decide) (L := [some (.ref l0), none, some (.int l2), some (.int l3), some (.long l4), none, some (.int l6), some (.int l7), some (.int l8), some (.long r14), none]) rfl ?_
        refine Ok.iload dX12_meanFrom_87 rfl ?_
        refine X.if_eq (tgt := 100) dX12_meanFrom_89 (by decide) e10 (fun e11 => ?_) (fun e11 => ?_)
        · clear e10
          exact Ok.weakL (k_X12_meanFrom_100 (d := d) C_X12_looksFrom C_X12_meanFrom K50 e11) ⟨rfl, ⟨rfl, ⟨rfl, ⟨rfl, ⟨rfl, ⟨rfl, ⟨rfl, trivial⟩⟩⟩⟩⟩⟩⟩
        · clear e10
          refine Ok.lload dX12_meanFrom_92 rfl ?_
          refine Ok.lload dX12_meanFrom_94 rfl ?_
          refine Ok.lcmp dX12_meanFrom_96 ?_
          refine X.if_le (tgt := 105) dX12_meanFrom_97 (by decide) e11 (fun e12 => ?_) (fun e12 => ?_)
          · clear e11
            refine Ok.iload dX12_meanFrom_105 rfl ?_
            exact Ok.weakL (k_X12_meanFrom_107 (d := d) C_X12_looksFrom C_X12_meanFrom K50 e12) ⟨rfl, ⟨rfl, ⟨rfl, ⟨rfl, ⟨rfl, ⟨rfl, ⟨rfl, trivial⟩⟩⟩⟩⟩⟩⟩
          · clear e11
            exact Ok.weakL (k_X12_meanFrom_100 (d := d) C_X12_looksFrom C_X12_meanFrom K50 e12) ⟨rfl, ⟨rfl, ⟨rfl, ⟨rfl, ⟨rfl, ⟨rfl, ⟨rfl, trivial⟩⟩⟩⟩⟩⟩⟩
noncomputable def B_X12_meanFrom (G : Gx) (c_X12_looksFrom : Hp → Nat → Nat → Int32 → Int32 → Int32 → Int32 → Int32 → Rz Int64) (c_X12_meanFrom : Hp → Nat → Nat → Int32 → Int32 → Int32 → Rz Int64) (h : Hp) (nx : Nat) (a0 : Nat) (a1 : Int32) (a2 : Int32) (a3 : Int32) : Rz Int64 :=
if a3 = 0 then
some ((0 : Int64), h, nx)
else
if a1 = (-1 : Int32) then
gfI h a0 [12] 25 (fun v1 =>
if v1 ≤ 0 then
(F_X12_meanFrom_50 G c_X12_looksFrom c_X12_meanFrom fuelL h nx a0 a2 a3 (0 : Int64) (nI 0) (nI 0) (nI 0))
else
(F_X12_meanFrom_18 G c_X12_looksFrom c_X12_meanFrom h nx a0 a1 a2 a3))
else
(F_X12_meanFrom_18 G c_X12_looksFrom c_X12_meanFrom h nx a0 a1 a2 a3)
set_option maxRecDepth 100000 in
set_option maxHeartbeats 4000000 in
theorem b_X12_meanFrom {G : Gx} {d : Nat} {c_X12_looksFrom : Hp → Nat → Nat → Int32 → Int32 → Int32 → Int32 → Int32 → Rz Int64} (C_X12_looksFrom : ∀ {h : Hp} {nx : Nat} {b0 : Nat} {b1 : Int32} {b2 : Int32} {b3 : Int32} {b4 : Int32} {b5 : Int32} {v : Int64} {h1 : Hp} {n1 : Nat}, c_X12_looksFrom h nx b0 b1 b2 b3 b4 b5 = some (v, h1, n1) → Ct G mX12_looksFrom (d + 74) (Same (some (.long v)) h1 n1) [.ref b0, .int b1, .int b2, .int b3, .int b4, .int b5] h nx) {c_X12_meanFrom : Hp → Nat → Nat → Int32 → Int32 → Int32 → Rz Int64} (C_X12_meanFrom : ∀ {h : Hp} {nx : Nat} {b0 : Nat} {b1 : Int32} {b2 : Int32} {b3 : Int32} {v : Int64} {h1 : Hp} {n1 : Nat}, c_X12_meanFrom h nx b0 b1 b2 b3 = some (v, h1, n1) → Ct G mX12_meanFrom (d + 74) (Same (some (.long v)) h1 n1) [.ref b0, .int b1, .int b2, .int b3] h nx) {h : Hp} {nx : Nat} {a0 : Nat} {a1 : Int32} {a2 : Int32} {a3 : Int32} {v' : Int64} {h' : Hp} {n' : Nat} (e : B_X12_meanFrom G c_X12_looksFrom c_X12_meanFrom h nx a0 a1 a2 a3 = some (v', h', n')) : Ct G mX12_meanFrom (d + 75) (Same (some (.long v')) h' n') [.ref a0, .int a1, .int a2, .int a3] h nx := by
  unfold B_X12_meanFrom at e
  refine Ct.of (ls := [some (.ref a0), some (.int a1), some (.int a2), some (.int a3), none, none, none, none, none, none, none]) (by decide +kernel) rfl (Nat.le_of_ble_eq_true rfl) rfl ?_
  refine Ok.iload_n dX12_meanFrom_0 rfl ?_
  refine X.if_ne (tgt := 6) dX12_meanFrom_1 (by decide) e (fun e1 => ?_) (fun e1 => ?_)
  · clear e
    refine Ok.iload_n dX12_meanFrom_6 rfl ?_
    refine Ok.iconstV (v := (-1 : Int32)) dX12_meanFrom_7 (by decide +kernel) ?_
    refine X.icmp_ne (tgt := 18) dX12_meanFrom_8 (by decide) e1 (fun e2 => ?_) (fun e2 => ?_)
    · clear e1
      exact Ok.weakL (k_X12_meanFrom_18 (d := d) C_X12_looksFrom C_X12_meanFrom e2) ⟨rfl, ⟨rfl, ⟨rfl, ⟨rfl, trivial⟩⟩⟩⟩
    · clear e1
      refine Ok.aload_n dX12_meanFrom_11 rfl ?_
      refine X.rgfI fl_RX12_244 dX12_meanFrom_12 e2 (fun v1 e3 => ?_)
      clear e2
      refine X.if_le (tgt := 38) dX12_meanFrom_15 (by decide) e3 (fun e4 => ?_) (fun e4 => ?_)
      · clear e3
        refine XL.lconst (v := 0) dX12_meanFrom_38 (by decide +kernel) ?_
        refine XL.lstore dX12_meanFrom_39 (by decide) (L := [some (.ref a0), some (.int a1), some (.int a2), some (.int a3), some (.long (0 : Int64)), none, none, none, none, none, none]) rfl ?_
        refine Ok.iconstV (v := (nI 0)) dX12_meanFrom_41 (by decide +kernel) ?_
        refine XL.istore dX12_meanFrom_42 (by decide) (L := [some (.ref a0), some (.int a1), some (.int a2), some (.int a3), some (.long (0 : Int64)), none, some (.int (nI 0)), none, none, none, none]) rfl ?_
        refine Ok.iconstV (v := (nI 0)) dX12_meanFrom_44 (by decide +kernel) ?_
        refine XL.istore dX12_meanFrom_45 (by decide) (L := [some (.ref a0), some (.int a1), some (.int a2), some (.int a3), some (.long (0 : Int64)), none, some (.int (nI 0)), some (.int (nI 0)), none, none, none]) rfl ?_
        refine Ok.iconstV (v := (nI 0)) dX12_meanFrom_47 (by decide +kernel) ?_
        refine XL.istore dX12_meanFrom_48 (by decide) (L := [some (.ref a0), some (.int a1), some (.int a2), some (.int a3), some (.long (0 : Int64)), none, some (.int (nI 0)), some (.int (nI 0)), some (.int (nI 0)), none, none]) rfl ?_
        exact Ok.weakL (k_X12_meanFrom_50 (d := d) C_X12_looksFrom C_X12_meanFrom fuelL e4) ⟨rfl, ⟨rfl, ⟨rfl, ⟨rfl, ⟨rfl, ⟨rfl, ⟨rfl, trivial⟩⟩⟩⟩⟩⟩⟩
      · clear e3
        exact Ok.weakL (k_X12_meanFrom_18 (d := d) C_X12_looksFrom C_X12_meanFrom e4) ⟨rfl, ⟨rfl, ⟨rfl, ⟨rfl, trivial⟩⟩⟩⟩
  · clear e
    refine XL.lconst (v := 0) dX12_meanFrom_4 (by decide +kernel) ?_
    exact X.lret dX12_meanFrom_5 rfl (Nat.le_of_ble_eq_true rfl) (Nat.le_of_ble_eq_true rfl) e1
noncomputable def R_X12_looksFrom (G : Gx) : Nat → ((Hp → Nat → Nat → Int32 → Int32 → Int32 → Int32 → Int32 → Rz Int64) × (Hp → Nat → Nat → Int32 → Int32 → Int32 → Rz Int64)) := fun n => Nat.rec (motive := fun _ => ((Hp → Nat → Nat → Int32 → Int32 → Int32 → Int32 → Int32 → Rz Int64) × (Hp → Nat → Nat → Int32 → Int32 → Int32 → Rz Int64))) ((fun _ _ _ _ _ _ _ _ => none), (fun _ _ _ _ _ _ => none)) (fun _ p => (B_X12_looksFrom G p.1 p.2, B_X12_meanFrom G p.1 p.2)) n
noncomputable def F_X12_looksFrom (G : Gx) (n : Nat) : Hp → Nat → Nat → Int32 → Int32 → Int32 → Int32 → Int32 → Rz Int64 := (R_X12_looksFrom G n).1
noncomputable def F_X12_meanFrom (G : Gx) (n : Nat) : Hp → Nat → Nat → Int32 → Int32 → Int32 → Rz Int64 := (R_X12_looksFrom G n).2
set_option maxRecDepth 100000 in
theorem R_X12_looksFrom_s {G : Gx} {n : Nat} : R_X12_looksFrom G (n + 1) = (B_X12_looksFrom G (F_X12_looksFrom G n) (F_X12_meanFrom G n), B_X12_meanFrom G (F_X12_looksFrom G n) (F_X12_meanFrom G n)) := rfl
set_option maxRecDepth 100000 in
theorem F_X12_looksFrom_s {G : Gx} {n : Nat} : F_X12_looksFrom G (n + 1) = B_X12_looksFrom G (F_X12_looksFrom G n) (F_X12_meanFrom G n) := congrArg (fun p => p.1) R_X12_looksFrom_s
theorem F_X12_looksFrom_0 {G : Gx} : F_X12_looksFrom G 0 = (fun _ _ _ _ _ _ _ _ => none) := rfl
set_option maxRecDepth 100000 in
theorem F_X12_meanFrom_s {G : Gx} {n : Nat} : F_X12_meanFrom G (n + 1) = B_X12_meanFrom G (F_X12_looksFrom G n) (F_X12_meanFrom G n) := congrArg (fun p => p.2) R_X12_looksFrom_s
theorem F_X12_meanFrom_0 {G : Gx} : F_X12_meanFrom G 0 = (fun _ _ _ _ _ _ => none) := rfl
set_option maxRecDepth 100000 in
set_option maxHeartbeats 4000000 in
theorem kk_X12_looksFrom {G : Gx} {d : Nat} : ∀ n : Nat, (∀ {h : Hp} {nx : Nat} {a0 : Nat} {a1 : Int32} {a2 : Int32} {a3 : Int32} {a4 : Int32} {a5 : Int32} {v : Int64} {h1 : Hp} {n1 : Nat}, F_X12_looksFrom G n h nx a0 a1 a2 a3 a4 a5 = some (v, h1, n1) → Ct G mX12_looksFrom (d + (n + 74)) (Same (some (.long v)) h1 n1) [.ref a0, .int a1, .int a2, .int a3, .int a4, .int a5] h nx) ∧ (∀ {h : Hp} {nx : Nat} {a0 : Nat} {a1 : Int32} {a2 : Int32} {a3 : Int32} {v : Int64} {h1 : Hp} {n1 : Nat}, F_X12_meanFrom G n h nx a0 a1 a2 a3 = some (v, h1, n1) → Ct G mX12_meanFrom (d + (n + 74)) (Same (some (.long v)) h1 n1) [.ref a0, .int a1, .int a2, .int a3] h nx) := by
  intro n
  induction n with
  | zero => exact ⟨(fun e => (by have e9 : (none : Rz Int64) = some _ := e; cases e9)), (fun e => (by have e9 : (none : Rz Int64) = some _ := e; cases e9))⟩
  | succ n ih =>
    obtain ⟨i0, i1⟩ := ih
    exact ⟨(by
      intro h nx a0 a1 a2 a3 a4 a5 v h1 n1 e
      rw [F_X12_looksFrom_s] at e
      rw [show d + (n + 1 + 74) = (d + n) + 75 by omega]
      exact b_X12_looksFrom (d := d + n) (fun e => by rw [show d + n + 74 = d + (n + 74) by omega]; exact i0 e) (fun e => by rw [show d + n + 74 = d + (n + 74) by omega]; exact i1 e) e), (by
      intro h nx a0 a1 a2 a3 v h1 n1 e
      rw [F_X12_meanFrom_s] at e
      rw [show d + (n + 1 + 74) = (d + n) + 75 by omega]
      exact b_X12_meanFrom (d := d + n) (fun e => by rw [show d + n + 74 = d + (n + 74) by omega]; exact i0 e) (fun e => by rw [show d + n + 74 = d + (n + 74) by omega]; exact i1 e) e)⟩
theorem k_X12_looksFrom {G : Gx} {d : Nat} (n : Nat) : ∀ {h : Hp} {nx : Nat} {a0 : Nat} {a1 : Int32} {a2 : Int32} {a3 : Int32} {a4 : Int32} {a5 : Int32} {v : Int64} {h1 : Hp} {n1 : Nat}, F_X12_looksFrom G n h nx a0 a1 a2 a3 a4 a5 = some (v, h1, n1) → Ct G mX12_looksFrom (d + (n + 74)) (Same (some (.long v)) h1 n1) [.ref a0, .int a1, .int a2, .int a3, .int a4, .int a5] h nx := (@kk_X12_looksFrom G d n).1
theorem k_X12_meanFrom {G : Gx} {d : Nat} (n : Nat) : ∀ {h : Hp} {nx : Nat} {a0 : Nat} {a1 : Int32} {a2 : Int32} {a3 : Int32} {v : Int64} {h1 : Hp} {n1 : Nat}, F_X12_meanFrom G n h nx a0 a1 a2 a3 = some (v, h1, n1) → Ct G mX12_meanFrom (d + (n + 74)) (Same (some (.long v)) h1 n1) [.ref a0, .int a1, .int a2, .int a3] h nx := (@kk_X12_looksFrom G d n).2
