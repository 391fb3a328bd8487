noncomputable def F_X12_mean_17 (G : Gx) (h : Hp) (nx : Nat) : Rz Int64 :=
some ((-9223372036854775808 : Int64), h, nx)
set_option maxRecDepth 100000 in
set_option maxHeartbeats 4000000 in
theorem k_X12_mean_17 {G : Gx} {d : Nat} {v' : Int64} {h' : Hp} {n' : Nat} {h : Hp} {nx : Nat} (e : F_X12_mean_17 G h nx = some (v', h', n')) : Ok G mX12_mean (d + 139) (Same (some (.long v')) h' n') 17 [none, none, none] [] h nx 0 0 := by
  unfold F_X12_mean_17 at e
  refine Ok.ldc2_w (v := -9223372036854775808) dX12_mean_17 wd1311 ?_
  exact X.lret dX12_mean_20 rfl (Nat.le_of_ble_eq_true rfl) (Nat.le_of_ble_eq_true rfl) e
noncomputable def F_X12_mean (G : Gx) (h : Hp) (nx : Nat) (a0 : Nat) (a1 : Int32) (a2 : Int32) : Rz Int64 :=
ck h a0 [12] (fun _ =>
cl (F_X12_isPlan G h nx a0 a1) (fun r1 h2 n3 =>
if r1 = 0 then
(F_X12_mean_17 G h2 n3)
else
cl (F_X12_in G h2 n3 a2 (nI 1) (nI 3)) (fun r4 h5 n6 =>
if r4 = 0 then
(F_X12_mean_17 G h5 n6)
else
pfV h5 a0 [12] 25 (.int (nI 0)) (fun h7 =>
gfR h7 a0 [12] 1 (fun v8 =>
nn v8 (fun p9 =>
alI (g_c G 0) h7 p9 (nI 3) (fun v10 =>
ck h7 a0 [12] (fun _ =>
cl (F_X12_meanFrom G 64 h7 n6 a0 a1 v10 a2) (fun r11 h12 n13 =>
some (r11, h12, n13))))))))))
set_option maxRecDepth 100000 in
set_option maxHeartbeats 4000000 in
theorem k_X12_mean {G : Gx} {d : Nat} {h : Hp} {nx : Nat} {a0 : Nat} {a1 : Int32} {a2 : Int32} {v' : Int64} {h' : Hp} {n' : Nat} (e : F_X12_mean G h nx a0 a1 a2 = some (v', h', n')) : Ct G mX12_mean (d + 139) (Same (some (.long v')) h' n') [.ref a0, .int a1, .int a2] h nx := by
  unfold F_X12_mean at e
  refine Ct.of (ls := [some (.ref a0), some (.int a1), some (.int a2)]) (by decide +kernel) rfl (Nat.le_of_ble_eq_true rfl) rfl ?_
  refine Ok.aload_n dX12_mean_0 rfl ?_
  refine Ok.iload_n dX12_mean_1 rfl ?_
  refine X.rck e (fun c fs hb hc e1 => ?_)
  clear e
  obtain rfl := List.mem_singleton.mp hc
  refine X.callV (My := mX12_isPlan) (n := 1) (As := [.int a1]) (T := (fun v => (some (.int v)))) (stk' := (fun v => [.int v])) (rest := []) (kc' := 0) (ks' := 0) dX12_mean_2 e1 (fun v h n e => k_X12_isPlan (d := d + 137) e) hb rfl wd1364 wd80 wd1363 wd50 wd1361 (by decide +kernel) rfl (by decide) rfl rfl (Nat.le_of_ble_eq_true rfl) (Nat.le_of_ble_eq_true rfl) (Nat.le_of_ble_eq_true rfl) rfl rfl (fun _ => rfl) (fun r1 h2 n3 e2 => ?_)
  clear e1
  refine X.if_eq (tgt := 17) dX12_mean_5 (by decide) e2 (fun e3 => ?_) (fun e3 => ?_)
  · clear e2
    exact Ok.weakL (k_X12_mean_17 (d := d) e3) trivial
  · clear e2
    refine Ok.iload_n dX12_mean_8 rfl ?_
    refine Ok.iconstV (v := (nI 1)) dX12_mean_9 (by decide +kernel) ?_
    refine Ok.iconstV (v := (nI 3)) dX12_mean_10 (by decide +kernel) ?_
    refine X.callS (My := mX12_in) (n := 3) (As := [.int a2, .int (nI 1), .int (nI 3)]) (T := (fun v => (some (.int v)))) (stk' := (fun v => [.int v])) (rest := []) (kc' := 0) (ks' := 0) dX12_mean_11 e3 (fun v h n e => k_X12_in (d := d + 138) e) wd1196 wd80 wd1195 wd1194 (by decide +kernel) rfl (by decide) rfl rfl (Nat.le_of_ble_eq_true rfl) (Nat.le_of_ble_eq_true rfl) (Nat.le_of_ble_eq_true rfl) rfl rfl (fun _ => rfl) (fun r4 h5 n6 e4 => ?_)
    clear e3
    refine X.if_ne (tgt := 21) dX12_mean_14 (by decide) e4 (fun e5 => ?_) (fun e5 => ?_)
    · clear e4
      refine Ok.aload_n dX12_mean_21 rfl ?_
      refine Ok.iconstV (v := (nI 0)) dX12_mean_22 (by decide +kernel) ?_
      refine X.rpfV (v := (.int (nI 0))) fp_RX12_244 rfl rfl dX12_mean_23 e5 (fun h7 e6 => ?_)
      clear e5
      refine Ok.aload_n dX12_mean_26 rfl ?_
      refine Ok.iload_n dX12_mean_27 rfl ?_
      refine Ok.aload_n dX12_mean_28 rfl ?_
      refine X.rgfR fl_RX12_9 dX12_mean_29 e6 (fun v8 e7 => ?_)
      clear e6
      refine Ok.iconstV (v := (nI 3)) dX12_mean_32 (by decide +kernel) ?_
      refine X.rnn e7 (fun p9 q e8 => ?_)
      clear e7
      subst q
      refine X.iald dX12_mean_33 e8 (fun v10 e9 => ?_)
      clear e8
      refine Ok.iload_n dX12_mean_34 rfl ?_
      refine X.rck e9 (fun c fs hb hc e10 => ?_)
      clear e9
      obtain rfl := List.mem_singleton.mp hc
      refine X.callV (My := mX12_meanFrom) (n := 3) (As := [.int a1, .int v10, .int a2]) (T := (fun v => (some (.long v)))) (stk' := (fun v => [.long v])) (rest := []) (kc' := 0) (ks' := 0) dX12_mean_35 e10 (fun v h n e => k_X12_meanFrom 64 (d := d + 0) e) hb rfl wd1403 wd80 wd1402 wd57 wd1400 (by decide +kernel) rfl (by decide) rfl rfl (Nat.le_of_ble_eq_true rfl) (Nat.le_of_ble_eq_true rfl) (Nat.le_of_ble_eq_true rfl) rfl rfl (fun _ => rfl) (fun r11 h12 n13 e11 => ?_)
      clear e10
      exact X.lret dX12_mean_38 rfl (Nat.le_of_ble_eq_true rfl) (Nat.le_of_ble_eq_true rfl) e11
    · clear e4
      exact Ok.weakL (k_X12_mean_17 (d := d) e5) trivial
noncomputable def F_X12_allOf (G : Gx) (h : Hp) (nx : Nat) (a0 : Nat) (a1 : Int32) : Rz Int64 :=
pfV h a0 [12] 25 (.int (nI 0)) (fun h1 =>
gfR h1 a0 [12] 1 (fun v2 =>
nn v2 (fun p3 =>
alI (g_c G 0) h1 p3 (nI 3) (fun v4 =>
ck h1 a0 [12] (fun _ =>
cl (F_X12_meanFrom G 64 h1 nx a0 (-1 : Int32) v4 a1) (fun r5 h6 n7 =>
some (r5, h6, n7)))))))
set_option maxRecDepth 100000 in
set_option maxHeartbeats 4000000 in
theorem k_X12_allOf {G : Gx} {d : Nat} {h : Hp} {nx : Nat} {a0 : Nat} {a1 : Int32} {v' : Int64} {h' : Hp} {n' : Nat} (e : F_X12_allOf G h nx a0 a1 = some (v', h', n')) : Ct G mX12_allOf (d + 139) (Same (some (.long v')) h' n') [.ref a0, .int a1] h nx := by
  unfold F_X12_allOf at e
  refine Ct.of (ls := [some (.ref a0), some (.int a1)]) (by decide +kernel) rfl (Nat.le_of_ble_eq_true rfl) rfl ?_
  refine Ok.aload_n dX12_allOf_0 rfl ?_
  refine Ok.iconstV (v := (nI 0)) dX12_allOf_1 (by decide +kernel) ?_
  refine X.rpfV (v := (.int (nI 0))) fp_RX12_244 rfl rfl dX12_allOf_2 e (fun h1 e1 => ?_)
  clear e
  refine Ok.aload_n dX12_allOf_5 rfl ?_
  refine Ok.iconstV (v := (-1 : Int32)) dX12_allOf_6 (by decide +kernel) ?_
  refine Ok.aload_n dX12_allOf_7 rfl ?_
  refine X.rgfR fl_RX12_9 dX12_allOf_8 e1 (fun v2 e2 => ?_)
  clear e1
  refine Ok.iconstV (v := (nI 3)) dX12_allOf_11 (by decide +kernel) ?_
  refine X.rnn e2 (fun p3 q e3 => ?_)
  clear e2
  subst q
  refine X.iald dX12_allOf_12 e3 (fun v4 e4 => ?_)
  clear e3
  refine Ok.iload_n dX12_allOf_13 rfl ?_
  refine X.rck e4 (fun c fs hb hc e5 => ?_)
  clear e4
  obtain rfl := List.mem_singleton.mp hc
  refine X.callV (My := mX12_meanFrom) (n := 3) (As := [.int (-1 : Int32), .int v4, .int a1]) (T := (fun v => (some (.long v)))) (stk' := (fun v => [.long v])) (rest := []) (kc' := 0) (ks' := 0) dX12_allOf_14 e5 (fun v h n e => k_X12_meanFrom 64 (d := d + 0) e) hb rfl wd1403 wd80 wd1402 wd57 wd1400 (by decide +kernel) rfl (by decide) rfl rfl (Nat.le_of_ble_eq_true rfl) (Nat.le_of_ble_eq_true rfl) (Nat.le_of_ble_eq_true rfl) rfl rfl (fun _ => rfl) (fun r5 h6 n7 e6 => ?_)
  clear e5
  exact X.lret dX12_allOf_17 rfl (Nat.le_of_ble_eq_true rfl) (Nat.le_of_ble_eq_true rfl) e6
noncomputable def F_X12_all_27 (G : Gx) (h : Hp) (nx : Nat) : Rz Int64 :=
some ((-9223372036854775808 : Int64), h, nx)
set_option maxRecDepth 100000 in
set_option maxHeartbeats 4000000 in
theorem k_X12_all_27 {G : Gx} {d : Nat} {v' : Int64} {h' : Hp} {n' : Nat} {h : Hp} {nx : Nat} (e : F_X12_all_27 G h nx = some (v', h', n')) : Ok G mX12_all (d + 140) (Same (some (.long v')) h' n') 27 [none, none, none, none, none] [] h nx 0 0 := by
  unfold F_X12_all_27 at e
  refine Ok.ldc2_w (v := -9223372036854775808) dX12_all_27 wd1311 ?_
  exact X.lret dX12_all_30 rfl (Nat.le_of_ble_eq_true rfl) (Nat.le_of_ble_eq_true rfl) e
noncomputable def F_X12_all_50 (G : Gx) (h : Hp) (nx : Nat) (s0 : Int64) : Rz Int64 :=
some (s0, h, nx)
set_option maxRecDepth 100000 in
set_option maxHeartbeats 4000000 in
theorem k_X12_all_50 {G : Gx} {d : Nat} {v' : Int64} {h' : Hp} {n' : Nat} {h : Hp} {nx : Nat} {s0 : Int64} (e : F_X12_all_50 G h nx s0 = some (v', h', n')) : Ok G mX12_all (d + 140) (Same (some (.long v')) h' n') 50 [none, none, none, none, none] [.long s0] h nx 0 0 := by
  unfold F_X12_all_50 at e
  exact X.lret dX12_all_50 rfl (Nat.le_of_ble_eq_true rfl) (Nat.le_of_ble_eq_true rfl) e
noncomputable def F_X12_all (G : Gx) (h : Hp) (nx : Nat) (a0 : Nat) (a1 : Int32) (a2 : Int32) : Rz Int64 :=
cl (F_X12_in G h nx a1 (nI 1) (nI 2)) (fun r1 h2 n3 =>
if r1 = 0 then
(F_X12_all_27 G h2 n3)
else
cl (F_X12_in G h2 n3 a2 (nI 0) (nI 1)) (fun r4 h5 n6 =>
if r4 = 0 then
(F_X12_all_27 G h5 n6)
else
gfR h5 a0 [12] 1 (fun v7 =>
nn v7 (fun p8 =>
alI (g_c G 0) h5 p8 (nI 1) (fun v9 =>
if v9 = 0 then
(F_X12_all_27 G h5 n6)
else
ck h5 a0 [12] (fun _ =>
cl (F_X12_allOf G h5 n6 a0 a1) (fun r10 h11 n12 =>
if a2 = 0 then
(F_X12_all_50 G h11 n12 r10)
else
gfI h11 a0 [12] 26 (fun v13 =>
(F_X12_all_50 G h11 n12 (v13.toInt64))))))))))
set_option maxRecDepth 100000 in
set_option maxHeartbeats 4000000 in
theorem k_X12_all {G : Gx} {d : Nat} {h : Hp} {nx : Nat} {a0 : Nat} {a1 : Int32} {a2 : Int32} {v' : Int64} {h' : Hp} {n' : Nat} (e : F_X12_all G h nx a0 a1 a2 = some (v', h', n')) : Ct G mX12_all (d + 140) (Same (some (.long v')) h' n') [.ref a0, .int a1, .int a2] h nx := by
  unfold F_X12_all at e
  refine Ct.of (ls := [some (.ref a0), some (.int a1), some (.int a2), none, none]) (by decide +kernel) rfl (Nat.le_of_ble_eq_true rfl) rfl ?_
  refine Ok.iload_n dX12_all_0 rfl ?_
  refine Ok.iconstV (v := (nI 1)) dX12_all_1 (by decide +kernel) ?_
  refine Ok.iconstV (v := (nI 2)) dX12_all_2 (by decide +kernel) ?_
  refine X.callS (My := mX12_in) (n := 3) (As := [.int a1, .int (nI 1), .int (nI 2)]) (T := (fun v => (some (.int v)))) (stk' := (fun v => [.int v])) (rest := []) (kc' := 0) (ks' := 0) dX12_all_3 e (fun v h n e => k_X12_in (d := d + 139) e) wd1196 wd80 wd1195 wd1194 (by decide +kernel) rfl (by decide) rfl rfl (Nat.le_of_ble_eq_true rfl) (Nat.le_of_ble_eq_true rfl) (Nat.le_of_ble_eq_true rfl) rfl rfl (fun _ => rfl) (fun r1 h2 n3 e1 => ?_)
  clear e
  refine X.if_eq (tgt := 27) dX12_all_6 (by decide) e1 (fun e2 => ?_) (fun e2 => ?_)
  · clear e1
    exact Ok.weakL (k_X12_all_27 (d := d) e2) trivial
  · clear e1
    refine Ok.iload_n dX12_all_9 rfl ?_
    refine Ok.iconstV (v := (nI 0)) dX12_all_10 (by decide +kernel) ?_
    refine Ok.iconstV (v := (nI 1)) dX12_all_11 (by decide +kernel) ?_
    refine X.callS (My := mX12_in) (n := 3) (As := [.int a2, .int (nI 0), .int (nI 1)]) (T := (fun v => (some (.int v)))) (stk' := (fun v => [.int v])) (rest := []) (kc' := 0) (ks' := 0) dX12_all_12 e2 (fun v h n e => k_X12_in (d := d + 139) e) wd1196 wd80 wd1195 wd1194 (by decide +kernel) rfl (by decide) rfl rfl (Nat.le_of_ble_eq_true rfl) (Nat.le_of_ble_eq_true rfl) (Nat.le_of_ble_eq_true rfl) rfl rfl (fun _ => rfl) (fun r4 h5 n6 e3 => ?_)
    clear e2
    refine X.if_eq (tgt := 27) dX12_all_15 (by decide) e3 (fun e4 => ?_) (fun e4 => ?_)
    · clear e3
      exact Ok.weakL (k_X12_all_27 (d := d) e4) trivial
    · clear e3
      refine Ok.aload_n dX12_all_18 rfl ?_
      refine X.rgfR fl_RX12_9 dX12_all_19 e4 (fun v7 e5 => ?_)
      clear e4
      refine Ok.iconstV (v := (nI 1)) dX12_all_22 (by decide +kernel) ?_
      refine X.rnn e5 (fun p8 q e6 => ?_)
      clear e5
      subst q
      refine X.iald dX12_all_23 e6 (fun v9 e7 => ?_)
      clear e6
      refine X.if_ne (tgt := 31) dX12_all_24 (by decide) e7 (fun e8 => ?_) (fun e8 => ?_)
      · clear e7
        refine Ok.aload_n dX12_all_31 rfl ?_
        refine Ok.iload_n dX12_all_32 rfl ?_
        refine X.rck e8 (fun c fs hb hc e9 => ?_)
        clear e8
        obtain rfl := List.mem_singleton.mp hc
        refine X.callV (My := mX12_allOf) (n := 1) (As := [.int a1]) (T := (fun v => (some (.long v)))) (stk' := (fun v => [.long v])) (rest := []) (kc' := 0) (ks' := 0) dX12_all_33 e9 (fun v h n e => k_X12_allOf (d := d + 0) e) hb rfl wd1423 wd80 wd1422 wd61 wd1420 (by decide +kernel) rfl (by decide) rfl rfl (Nat.le_of_ble_eq_true rfl) (Nat.le_of_ble_eq_true rfl) (Nat.le_of_ble_eq_true rfl) rfl rfl (fun _ => rfl) (fun r10 h11 n12 e10 => ?_)
        clear e9
        refine XL.lstore_n dX12_all_36 (by decide) (L := [some (.ref a0), some (.int a1), some (.int a2), some (.long r10), none]) rfl ?_
        refine Ok.iload_n dX12_all_37 rfl ?_
        refine X.if_ne (tgt := 45) dX12_all_38 (by decide) e10 (fun e11 => ?_) (fun e11 => ?_)
        · clear e10
          refine Ok.aload_n dX12_all_45 rfl ?_
          refine X.rgfI fl_RX12_258 dX12_all_46 e11 (fun v13 e12 => ?_)
          clear e11
          refine Ok.i2l dX12_all_49 ?_
          exact Ok.weakL (k_X12_all_50 (d := d) e12) trivial
        · clear e10
          refine Ok.lload_n dX12_all_41 rfl ?_
          refine Ok.goto (tgt := 50) dX12_all_42 (by decide) ?_
          exact Ok.weakL (k_X12_all_50 (d := d) e11) trivial
      · clear e7
        exact Ok.weakL (k_X12_all_27 (d := d) e8) trivial
noncomputable def F_X12_loses_26 (G : Gx) (h : Hp) (nx : Nat) : Rz Int64 :=
some ((-9223372036854775808 : Int64), h, nx)
set_option maxRecDepth 100000 in
set_option maxHeartbeats 4000000 in
theorem k_X12_loses_26 {G : Gx} {d : Nat} {v' : Int64} {h' : Hp} {n' : Nat} {h : Hp} {nx : Nat} (e : F_X12_loses_26 G h nx = some (v', h', n')) : Ok G mX12_loses (d + 140) (Same (some (.long v')) h' n') 26 [none, none, none] [] h nx 0 0 := by
  unfold F_X12_loses_26 at e
  refine Ok.ldc2_w (v := -9223372036854775808) dX12_loses_26 wd1311 ?_
  exact X.lret dX12_loses_29 rfl (Nat.le_of_ble_eq_true rfl) (Nat.le_of_ble_eq_true rfl) e
noncomputable def F_X12_loses (G : Gx) (h : Hp) (nx : Nat) (a0 : Nat) (a1 : Int32) (a2 : Int32) : Rz Int64 :=
ck h a0 [12] (fun _ =>
cl (F_X12_isPlan G h nx a0 a1) (fun r1 h2 n3 =>
if r1 = 0 then
(F_X12_loses_26 G h2 n3)
else
cl (F_X12_in G h2 n3 a2 (nI 1) (nI 2)) (fun r4 h5 n6 =>
if r4 = 0 then
(F_X12_loses_26 G h5 n6)
else
gfR h5 a0 [12] 1 (fun v7 =>
nn v7 (fun p8 =>
alI (g_c G 0) h5 p8 (nI 1) (fun v9 =>
if v9 = 0 then
(F_X12_loses_26 G h5 n6)
else
ck h5 a0 [12] (fun _ =>
cl (F_X12_allOf G h5 n6 a0 a2) (fun r10 h11 n12 =>
ck h11 a0 [12] (fun _ =>
cl (F_X12_mean G h11 n12 a0 a1 a2) (fun r13 h14 n15 =>
some (((r10 - r13)), h14, n15)))))))))))
set_option maxRecDepth 100000 in
set_option maxHeartbeats 4000000 in
theorem k_X12_loses {G : Gx} {d : Nat} {h : Hp} {nx : Nat} {a0 : Nat} {a1 : Int32} {a2 : Int32} {v' : Int64} {h' : Hp} {n' : Nat} (e : F_X12_loses G h nx a0 a1 a2 = some (v', h', n')) : Ct G mX12_loses (d + 140) (Same (some (.long v')) h' n') [.ref a0, .int a1, .int a2] h nx := by
  unfold F_X12_loses at e
  refine Ct.of (ls := [some (.ref a0), some (.int a1), some (.int a2)]) (by decide +kernel) rfl (Nat.le_of_ble_eq_true rfl) rfl ?_
  refine Ok.aload_n dX12_loses_0 rfl ?_
  refine Ok.iload_n dX12_loses_1 rfl ?_
  refine X.rck e (fun c fs hb hc e1 => ?_)
  clear e
  obtain rfl := List.mem_singleton.mp hc
  refine X.callV (My := mX12_isPlan) (n := 1) (As := [.int a1]) (T := (fun v => (some (.int v)))) (stk' := (fun v => [.int v])) (rest := []) (kc' := 0) (ks' := 0) dX12_loses_2 e1 (fun v h n e => k_X12_isPlan (d := d + 138) e) hb rfl wd1364 wd80 wd1363 wd50 wd1361 (by decide +kernel) rfl (by decide) rfl rfl (Nat.le_of_ble_eq_true rfl) (Nat.le_of_ble_eq_true rfl) (Nat.le_of_ble_eq_true rfl) rfl rfl (fun _ => rfl) (fun r1 h2 n3 e2 => ?_)
  clear e1
  refine X.if_eq (tgt := 26) dX12_loses_5 (by decide) e2 (fun e3 => ?_) (fun e3 => ?_)
  · clear e2
    exact Ok.weakL (k_X12_loses_26 (d := d) e3) trivial
  · clear e2
    refine Ok.iload_n dX12_loses_8 rfl ?_
    refine Ok.iconstV (v := (nI 1)) dX12_loses_9 (by decide +kernel) ?_
    refine Ok.iconstV (v := (nI 2)) dX12_loses_10 (by decide +kernel) ?_
    refine X.callS (My := mX12_in) (n := 3) (As := [.int a2, .int (nI 1), .int (nI 2)]) (T := (fun v => (some (.int v)))) (stk' := (fun v => [.int v])) (rest := []) (kc' := 0) (ks' := 0) dX12_loses_11 e3 (fun v h n e => k_X12_in (d := d + 139) e) wd1196 wd80 wd1195 wd1194 (by decide +kernel) rfl (by decide) rfl rfl (Nat.le_of_ble_eq_true rfl) (Nat.le_of_ble_eq_true rfl) (Nat.le_of_ble_eq_true rfl) rfl rfl (fun _ => rfl) (fun r4 h5 n6 e4 => ?_)
    clear e3
    refine X.if_eq (tgt := 26) dX12_loses_14 (by decide) e4 (fun e5 => ?_) (fun e5 => ?_)
    · clear e4
      exact Ok.weakL (k_X12_loses_26 (d := d) e5) trivial
    · clear e4
      refine Ok.aload_n dX12_loses_17 rfl ?_
      refine X.rgfR fl_RX12_9 dX12_loses_18 e5 (fun v7 e6 => ?_)
      clear e5
      refine Ok.iconstV (v := (nI 1)) dX12_loses_21 (by decide +kernel) ?_
      refine X.rnn e6 (fun p8 q e7 => ?_)
      clear e6
      subst q
      refine X.iald dX12_loses_22 e7 (fun v9 e8 => ?_)
      clear e7
      refine X.if_ne (tgt := 30) dX12_loses_23 (by decide) e8 (fun e9 => ?_) (fun e9 => ?_)
      · clear e8
        refine Ok.aload_n dX12_loses_30 rfl ?_
        refine Ok.iload_n dX12_loses_31 rfl ?_
        refine X.rck e9 (fun c fs hb hc e10 => ?_)
        clear e9
        obtain rfl := List.mem_singleton.mp hc
        refine X.callV (My := mX12_allOf) (n := 1) (As := [.int a2]) (T := (fun v => (some (.long v)))) (stk' := (fun v => [.long v])) (rest := []) (kc' := 0) (ks' := 0) dX12_loses_32 e10 (fun v h n e => k_X12_allOf (d := d + 0) e) hb rfl wd1423 wd80 wd1422 wd61 wd1420 (by decide +kernel) rfl (by decide) rfl rfl (Nat.le_of_ble_eq_true rfl) (Nat.le_of_ble_eq_true rfl) (Nat.le_of_ble_eq_true rfl) rfl rfl (fun _ => rfl) (fun r10 h11 n12 e11 => ?_)
        clear e10
        refine Ok.aload_n dX12_loses_35 rfl ?_
        refine Ok.iload_n dX12_loses_36 rfl ?_
        refine Ok.iload_n dX12_loses_37 rfl ?_
        refine X.rck e11 (fun c fs hb hc e12 => ?_)
        clear e11
        obtain rfl := List.mem_singleton.mp hc
        refine X.callV (My := mX12_mean) (n := 2) (As := [.int a1, .int a2]) (T := (fun v => (some (.long v)))) (stk' := (fun v => [.long v, .long r10])) (rest := [.long r10]) (kc' := 0) (ks' := 0) dX12_loses_38 e12 (fun v h n e => k_X12_mean (d := d + 0) e) hb rfl wd1399 wd80 wd1397 wd1398 wd1428 (by decide +kernel) rfl (by decide) rfl rfl (Nat.le_of_ble_eq_true rfl) (Nat.le_of_ble_eq_true rfl) (Nat.le_of_ble_eq_true rfl) rfl rfl (fun _ => rfl) (fun r13 h14 n15 e13 => ?_)
        clear e12
        refine Ok.lsub dX12_loses_41 ?_
        exact X.lret dX12_loses_42 rfl (Nat.le_of_ble_eq_true rfl) (Nat.le_of_ble_eq_true rfl) e13
      · clear e8
        exact Ok.weakL (k_X12_loses_26 (d := d) e9) trivial
noncomputable def F_X12_bound_151 (G : Gx) (k120 : Hp → Nat → Nat → Int64 → Int32 → Rz Int64) (h : Hp) (nx : Nat) (s0 : Int64) (l0 : Nat) (l4 : Int32) : Rz Int64 :=
nm (l4 + (nI 1)) (fun v1 =>
(k120 h nx l0 s0 v1))
set_option maxRecDepth 100000 in
set_option maxHeartbeats 4000000 in
theorem k_X12_bound_151 {G : Gx} {d : Nat} {v' : Int64} {h' : Hp} {n' : Nat} {k120 : Hp → Nat → Nat → Int64 → Int32 → Rz Int64} (K120 : ∀ {h : Hp} {nx : Nat} {l0 : Nat} {l2 : Int64} {l4 : Int32}, k120 h nx l0 l2 l4 = some (v', h', n') → Ok G mX12_bound (d + 68) (Same (some (.long v')) h' n') 120 [some (.ref l0), none, some (.long l2), none, some (.int l4)] [] h nx 0 0) {h : Hp} {nx : Nat} {s0 : Int64} {l0 : Nat} {l4 : Int32} (e : F_X12_bound_151 G k120 h nx s0 l0 l4 = some (v', h', n')) : Ok G mX12_bound (d + 68) (Same (some (.long v')) h' n') 151 [some (.ref l0), none, none, none, some (.int l4)] [.long s0] h nx 0 0 := by
  unfold F_X12_bound_151 at e
  refine XL.lstore_n dX12_bound_151 (by decide) (L := [some (.ref l0), none, some (.long s0), none, some (.int l4)]) rfl ?_
  refine X.iinc dX12_bound_152 rfl (by decide) (by decide +kernel) e (L := fun v1 => [some (.ref l0), none, some (.long s0), none, some (.int v1)]) (fun _ => rfl) (fun v1 e1 => ?_)
  clear e
  refine Ok.goto (tgt := 120) dX12_bound_155 (by decide) ?_
  exact Ok.weakL (K120 e1) ⟨rfl, ⟨rfl, ⟨rfl, trivial⟩⟩⟩
noncomputable def F_X12_bound_120 (G : Gx) : Nat → Hp → Nat → Nat → Int64 → Int32 → Rz Int64 := fun n => Nat.rec (motive := fun _ => Hp → Nat → Nat → Int64 → Int32 → Rz Int64) (fun _ _ _ _ _ => none) (fun _ k120 => fun h nx l0 l2 l4 =>
if (nI 200) < l4 then
some (l2, h, nx)
else
gfR h l0 [12] 27 (fun v1 =>
nn v1 (fun p2 =>
alJ (g_c G 1) h p2 l4 (fun v3 =>
if 0 ≤ ((lg_cmp v3 l2)) then
(F_X12_bound_151 G k120 h nx l2 l0 l4)
else
gfR h l0 [12] 27 (fun v4 =>
nn v4 (fun p5 =>
alJ (g_c G 1) h p5 l4 (fun v6 =>
(F_X12_bound_151 G k120 h nx v6 l0 l4)))))))) n
theorem F_X12_bound_120_0 {G : Gx} {h : Hp} {nx : Nat} {l0 : Nat} {l2 : Int64} {l4 : Int32} : F_X12_bound_120 G 0 h nx l0 l2 l4 = none := rfl
theorem F_X12_bound_120_s {G : Gx} {n : Nat} {h : Hp} {nx : Nat} {l0 : Nat} {l2 : Int64} {l4 : Int32} : F_X12_bound_120 G (n + 1) h nx l0 l2 l4 = (
if (nI 200) < l4 then
some (l2, h, nx)
else
gfR h l0 [12] 27 (fun v1 =>
nn v1 (fun p2 =>
alJ (g_c G 1) h p2 l4 (fun v3 =>
if 0 ≤ ((lg_cmp v3 l2)) then
(F_X12_bound_151 G (F_X12_bound_120 G n) h nx l2 l0 l4)
else
gfR h l0 [12] 27 (fun v4 =>
nn v4 (fun p5 =>
alJ (g_c G 1) h p5 l4 (fun v6 =>
(F_X12_bound_151 G (F_X12_bound_120 G n) h nx v6 l0 l4)))))))) := rfl
set_option maxRecDepth 100000 in
set_option maxHeartbeats 4000000 in
theorem k_X12_bound_120 {G : Gx} {d : Nat} {v' : Int64} {h' : Hp} {n' : Nat} : ∀ (n : Nat) {h : Hp} {nx : Nat} {l0 : Nat} {l2 : Int64} {l4 : Int32}, F_X12_bound_120 G n h nx l0 l2 l4 = some (v', h', n') → Ok G mX12_bound (d + 68) (Same (some (.long v')) h' n') 120 [some (.ref l0), none, some (.long l2), none, some (.int l4)] [] h nx 0 0 := by
  intro n
  induction n with
  | zero =>
    intro h nx l0 l2 l4 e
    rw [F_X12_bound_120_0] at e
    cases e
  | succ n K120 =>
    intro h nx l0 l2 l4 e
    rw [F_X12_bound_120_s] at e
    refine Ok.iload dX12_bound_120 rfl ?_
    refine Ok.sipushV (v := (nI 200)) dX12_bound_122 (by decide +kernel) ?_
    refine X.icmp_gt (tgt := 158) dX12_bound_125 (by decide) e (fun e1 => ?_) (fun e1 => ?_)
    · clear e
      refine Ok.lload_n dX12_bound_158 rfl ?_
      exact X.lret dX12_bound_159 rfl (Nat.le_of_ble_eq_true rfl) (Nat.le_of_ble_eq_true rfl) e1
    · clear e
      refine Ok.aload_n dX12_bound_128 rfl ?_
      refine X.rgfR fl_RX12_57 dX12_bound_129 e1 (fun v1 e2 => ?_)
      clear e1
      refine Ok.iload dX12_bound_132 rfl ?_
      refine X.rnn e2 (fun p2 q e3 => ?_)
      clear e2
      subst q
      refine X.lald dX12_bound_134 e3 (fun v3 e4 => ?_)
      clear e3
      refine Ok.lload_n dX12_bound_135 rfl ?_
      refine Ok.lcmp dX12_bound_136 ?_
      refine X.if_ge (tgt := 150) dX12_bound_137 (by decide) e4 (fun e5 => ?_) (fun e5 => ?_)
      · clear e4
        refine Ok.lload_n dX12_bound_150 rfl ?_
        exact Ok.weakL (k_X12_bound_151 (d := d) K120 e5) ⟨rfl, ⟨rfl, trivial⟩⟩
      · clear e4
        refine Ok.aload_n dX12_bound_140 rfl ?_
        refine X.rgfR fl_RX12_57 dX12_bound_141 e5 (fun v4 e6 => ?_)
        clear e5
        refine Ok.iload dX12_bound_144 rfl ?_
        refine X.rnn e6 (fun p5 q e7 => ?_)
        clear e6
        subst q
        refine X.lald dX12_bound_146 e7 (fun v6 e8 => ?_)
        clear e7
        refine Ok.goto (tgt := 151) dX12_bound_147 (by decide) ?_
        exact Ok.weakL (k_X12_bound_151 (d := d) K120 e8) ⟨rfl, ⟨rfl, trivial⟩⟩
noncomputable def F_X12_bound_76 (G : Gx) (k59 : Hp → Nat → Nat → Int32 → Int32 → Rz Int64) : Nat → Hp → Nat → Nat → Int32 → Int32 → Int32 → Rz Int64 := fun n => Nat.rec (motive := fun _ => Hp → Nat → Nat → Int32 → Int32 → Int32 → Rz Int64) (fun _ _ _ _ _ _ => none) (fun _ k76 => fun h nx l0 l1 l2 l3 =>
if (nI 200) < l3 then
nm (l2 + (nI 1)) (fun v1 =>
(k59 h nx l0 l1 v1))
else
gfR h l0 [12] 27 (fun v2 =>
nn v2 (fun p3 =>
alJ (g_c G 1) h p3 l3 (fun v4 =>
ck h l0 [12] (fun _ =>
cl (F_X12_bestBy G h nx l0 l3 l1) (fun r5 h6 n7 =>
asJ (g_c G 1) h6 p3 l3 ((v4 + r5)) (fun h8 =>
nm (l3 + (nI 1)) (fun v9 =>
(k76 h8 n7 l0 l1 l2 v9))))))))) n
theorem F_X12_bound_76_0 {G : Gx} (k59 : Hp → Nat → Nat → Int32 → Int32 → Rz Int64) {h : Hp} {nx : Nat} {l0 : Nat} {l1 : Int32} {l2 : Int32} {l3 : Int32} : F_X12_bound_76 G k59 0 h nx l0 l1 l2 l3 = none := rfl
theorem F_X12_bound_76_s {G : Gx} (k59 : Hp → Nat → Nat → Int32 → Int32 → Rz Int64) {n : Nat} {h : Hp} {nx : Nat} {l0 : Nat} {l1 : Int32} {l2 : Int32} {l3 : Int32} : F_X12_bound_76 G k59 (n + 1) h nx l0 l1 l2 l3 = (
if (nI 200) < l3 then
nm (l2 + (nI 1)) (fun v1 =>
(k59 h nx l0 l1 v1))
else
gfR h l0 [12] 27 (fun v2 =>
nn v2 (fun p3 =>
alJ (g_c G 1) h p3 l3 (fun v4 =>
ck h l0 [12] (fun _ =>
cl (F_X12_bestBy G h nx l0 l3 l1) (fun r5 h6 n7 =>
asJ (g_c G 1) h6 p3 l3 ((v4 + r5)) (fun h8 =>
nm (l3 + (nI 1)) (fun v9 =>
((F_X12_bound_76 G k59 n) h8 n7 l0 l1 l2 v9))))))))) := rfl
set_option maxRecDepth 100000 in
set_option maxHeartbeats 4000000 in
theorem k_X12_bound_76 {G : Gx} {d : Nat} {v' : Int64} {h' : Hp} {n' : Nat} {k59 : Hp → Nat → Nat → Int32 → Int32 → Rz Int64} (K59 : ∀ {h : Hp} {nx : Nat} {l0 : Nat} {l1 : Int32} {l2 : Int32}, k59 h nx l0 l1 l2 = some (v', h', n') → Ok G mX12_bound (d + 68) (Same (some (.long v')) h' n') 59 [some (.ref l0), some (.int l1), some (.int l2), none, none] [] h nx 0 0) : ∀ (n : Nat) {h : Hp} {nx : Nat} {l0 : Nat} {l1 : Int32} {l2 : Int32} {l3 : Int32}, F_X12_bound_76 G k59 n h nx l0 l1 l2 l3 = some (v', h', n') → Ok G mX12_bound (d + 68) (Same (some (.long v')) h' n') 76 [some (.ref l0), some (.int l1), some (.int l2), some (.int l3), none] [] h nx 0 0 := by
  intro n
  induction n with
  | zero =>
    intro h nx l0 l1 l2 l3 e
    rw [F_X12_bound_76_0] at e
    cases e
  | succ n K76 =>
    intro h nx l0 l1 l2 l3 e
    rw [F_X12_bound_76_s] at e
    refine Ok.iload_n dX12_bound_76 rfl ?_
    refine Ok.sipushV (v := (nI 200)) dX12_bound_77 (by decide +kernel) ?_
    refine X.icmp_gt (tgt := 104) dX12_bound_80 (by decide) e (fun e1 => ?_) (fun e1 => ?_)
    · clear e
      refine X.iinc dX12_bound_104 rfl (by decide) (by decide +kernel) e1 (L := fun v1 => [some (.ref l0), some (.int l1), some (.int v1), some (.int l3), none]) (fun _ => rfl) (fun v1 e2 => ?_)
      clear e1
      refine Ok.goto (tgt := 59) dX12_bound_107 (by decide) ?_
      exact Ok.weakL (K59 e2) ⟨rfl, ⟨rfl, ⟨rfl, trivial⟩⟩⟩
    · clear e
      refine Ok.aload_n dX12_bound_83 rfl ?_
      refine X.rgfR fl_RX12_57 dX12_bound_84 e1 (fun v2 e2 => ?_)
      clear e1
      refine Ok.iload_n dX12_bound_87 rfl ?_
      refine Ok.dup2 dX12_bound_88 rfl (va_rf_cat _) ?_
      refine X.rnn e2 (fun p3 q e3 => ?_)
      clear e2
      subst q
      refine X.lald dX12_bound_89 e3 (fun v4 e4 => ?_)
      clear e3
      refine Ok.aload_n dX12_bound_90 rfl ?_
      refine Ok.iload_n dX12_bound_91 rfl ?_
      refine Ok.iload_n dX12_bound_92 rfl ?_
      refine X.rck e4 (fun c fs hb hc e5 => ?_)
      clear e4
      obtain rfl := List.mem_singleton.mp hc
      refine X.callV (My := mX12_bestBy) (n := 2) (As := [.int l3, .int l1]) (T := (fun v => (some (.long v)))) (stk' := (fun v => [.long v, .long v4, .int l3, .ref p3])) (rest := [.long v4, .int l3, .ref p3]) (kc' := 0) (ks' := 0) dX12_bound_93 e5 (fun v h n e => k_X12_bestBy (d := d + 0) e) hb rfl wd1323 wd80 wd1322 wd45 wd1320 (by decide +kernel) rfl (by decide) rfl rfl (Nat.le_of_ble_eq_true rfl) (Nat.le_of_ble_eq_true rfl) (Nat.le_of_ble_eq_true rfl) rfl rfl (fun _ => rfl) (fun r5 h6 n7 e6 => ?_)
      clear e5
      refine Ok.ladd dX12_bound_96 ?_
      refine X.last dX12_bound_97 e6 (fun h8 e7 => ?_)
      clear e6
      refine X.iinc dX12_bound_98 rfl (by decide) (by decide +kernel) e7 (L := fun v9 => [some (.ref l0), some (.int l1), some (.int l2), some (.int v9), none]) (fun _ => rfl) (fun v9 e8 => ?_)
      clear e7
      refine Ok.goto (tgt := 76) dX12_bound_101 (by decide) ?_
      exact Ok.weakL (K76 e8) ⟨rfl, ⟨rfl, ⟨rfl, ⟨rfl, trivial⟩⟩⟩⟩
noncomputable def F_X12_bound_59 (G : Gx) : Nat → Hp → Nat → Nat → Int32 → Int32 → Rz Int64 := fun n => Nat.rec (motive := fun _ => Hp → Nat → Nat → Int32 → Int32 → Rz Int64) (fun _ _ _ _ _ => none) (fun _ k59 => fun h nx l0 l1 l2 =>
gfR h l0 [12] 1 (fun v1 =>
nn v1 (fun p2 =>
alI (g_c G 0) h p2 (nI 1) (fun v3 =>
if v3 ≤ l2 then
gfR h l0 [12] 27 (fun v4 =>
nn v4 (fun p5 =>
alJ (g_c G 1) h p5 (nI 0) (fun v6 =>
(F_X12_bound_120 G fuelL h nx l0 v6 (nI 1)))))
else
ck h l0 [12] (fun _ =>
cl (F_X12_rowsOf G h nx l0 l2) (fun _ h8 n9 =>
(F_X12_bound_76 G k59 fuelL h8 n9 l0 l1 l2 (nI 0)))))))) n
theorem F_X12_bound_59_0 {G : Gx} {h : Hp} {nx : Nat} {l0 : Nat} {l1 : Int32} {l2 : Int32} : F_X12_bound_59 G 0 h nx l0 l1 l2 = none := rfl
theorem F_X12_bound_59_s {G : Gx} {n : Nat} {h : Hp} {nx : Nat} {l0 : Nat} {l1 : Int32} {l2 : Int32} : F_X12_bound_59 G (n + 1) h nx l0 l1 l2 = (
gfR h l0 [12] 1 (fun v1 =>
nn v1 (fun p2 =>
alI (g_c G 0) h p2 (nI 1) (fun v3 =>
if v3 ≤ l2 then
gfR h l0 [12] 27 (fun v4 =>
nn v4 (fun p5 =>
alJ (g_c G 1) h p5 (nI 0) (fun v6 =>
(F_X12_bound_120 G fuelL h nx l0 v6 (nI 1)))))
else
ck h l0 [12] (fun _ =>
cl (F_X12_rowsOf G h nx l0 l2) (fun _ h8 n9 =>
(F_X12_bound_76 G (F_X12_bound_59 G n) fuelL h8 n9 l0 l1 l2 (nI 0)))))))) := rfl
set_option maxRecDepth 100000 in
set_option maxHeartbeats 4000000 in
theorem k_X12_bound_59 {G : Gx} {d : Nat} {v' : Int64} {h' : Hp} {n' : Nat} : ∀ (n : Nat) {h : Hp} {nx : Nat} {l0 : Nat} {l1 : Int32} {l2 : Int32}, F_X12_bound_59 G n h nx l0 l1 l2 = some (v', h', n') → Ok G mX12_bound (d + 68) (Same (some (.long v')) h' n') 59 [some (.ref l0), some (.int l1), some (.int l2), none, none] [] h nx 0 0 := by
  intro n
  induction n with
  | zero =>
    intro h nx l0 l1 l2 e
    rw [F_X12_bound_59_0] at e
    cases e
  | succ n K59 =>
    intro h nx l0 l1 l2 e
    rw [F_X12_bound_59_s] at e
    refine Ok.iload_n dX12_bound_59 rfl ?_
    refine Ok.aload_n dX12_bound_60 rfl ?_
    refine X.rgfR fl_RX12_9 dX12_bound_61 e (fun v1 e1 => ?_)
    clear e
    refine Ok.iconstV (v := (nI 1)) dX12_bound_64 (by decide +kernel) ?_
    refine X.rnn e1 (fun p2 q e2 => ?_)
    clear e1
    subst q
    refine X.iald dX12_bound_65 e2 (fun v3 e3 => ?_)
    clear e2
    refine X.icmp_ge (tgt := 110) dX12_bound_66 (by decide) e3 (fun e4 => ?_) (fun e4 => ?_)
    · clear e3
      refine Ok.aload_n dX12_bound_110 rfl ?_
      refine X.rgfR fl_RX12_57 dX12_bound_111 e4 (fun v4 e5 => ?_)
      clear e4
      refine Ok.iconstV (v := (nI 0)) dX12_bound_114 (by decide +kernel) ?_
      refine X.rnn e5 (fun p5 q e6 => ?_)
      clear e5
      subst q
      refine X.lald dX12_bound_115 e6 (fun v6 e7 => ?_)
      clear e6
      refine XL.lstore_n dX12_bound_116 (by decide) (L := [some (.ref l0), some (.int l1), some (.long v6), none, none]) rfl ?_
      refine Ok.iconstV (v := (nI 1)) dX12_bound_117 (by decide +kernel) ?_
      refine XL.istore dX12_bound_118 (by decide) (L := [some (.ref l0), some (.int l1), some (.long v6), none, some (.int (nI 1))]) rfl ?_
      exact Ok.weakL (k_X12_bound_120 (d := d) fuelL e7) ⟨rfl, ⟨rfl, ⟨rfl, trivial⟩⟩⟩
    · clear e3
      refine Ok.aload_n dX12_bound_69 rfl ?_
      refine Ok.iload_n dX12_bound_70 rfl ?_
      refine X.rck e4 (fun c fs hb hc e5 => ?_)
      clear e4
      obtain rfl := List.mem_singleton.mp hc
      refine X.callV (My := mX12_rowsOf) (n := 1) (As := [.int l2]) (T := (fun v => none)) (stk' := (fun _ => [])) (rest := []) (kc' := 0) (ks' := 0) dX12_bound_71 e5 (fun v h n e => k_X12_rowsOf (d := d + 64) e) hb rfl wd1315 wd80 wd1314 wd43 wd1312 (by decide +kernel) rfl (by decide) rfl rfl (Nat.le_of_ble_eq_true rfl) (Nat.le_of_ble_eq_true rfl) (Nat.le_of_ble_eq_true rfl) rfl rfl (fun _ => rfl) (fun _ h8 n9 e6 => ?_)
      clear e5
      refine Ok.iconstV (v := (nI 0)) dX12_bound_74 (by decide +kernel) ?_
      refine XL.istore_n dX12_bound_75 (by decide) (L := [some (.ref l0), some (.int l1), some (.int l2), some (.int (nI 0)), none]) rfl ?_
      exact Ok.weakL (k_X12_bound_76 (d := d) K59 fuelL e6) ⟨rfl, ⟨rfl, ⟨rfl, ⟨rfl, trivial⟩⟩⟩⟩
noncomputable def F_X12_bound_16 (G : Gx) : Nat → Hp → Nat → Nat → Int32 → Int32 → Rz Int64 := fun n => Nat.rec (motive := fun _ => Hp → Nat → Nat → Int32 → Int32 → Rz Int64) (fun _ _ _ _ _ => none) (fun _ k16 => fun h nx l0 l1 l2 =>
if (nI 200) < l2 then
(F_X12_bound_59 G fuelL h nx l0 l1 (nI 0))
else
gfR h l0 [12] 27 (fun v1 =>
gfR h l0 [12] 1 (fun v2 =>
nn v2 (fun p3 =>
alI (g_c G 0) h p3 (nI 1) (fun v4 =>
ck h l0 [12] (fun _ =>
cl (F_X12_looking G h nx l0) (fun r5 h6 n7 =>
nn v1 (fun p8 =>
asJ (g_c G 1) h6 p8 l2 (((((((-1000 : Int64) * (l2.toInt64))) * (l1.toInt64))) * (((v4 - r5)).toInt64))) (fun h9 =>
nm (l2 + (nI 1)) (fun v10 =>
(k16 h9 n7 l0 l1 v10))))))))))) n
theorem F_X12_bound_16_0 {G : Gx} {h : Hp} {nx : Nat} {l0 : Nat} {l1 : Int32} {l2 : Int32} : F_X12_bound_16 G 0 h nx l0 l1 l2 = none := rfl
theorem F_X12_bound_16_s {G : Gx} {n : Nat} {h : Hp} {nx : Nat} {l0 : Nat} {l1 : Int32} {l2 : Int32} : F_X12_bound_16 G (n + 1) h nx l0 l1 l2 = (
if (nI 200) < l2 then
(F_X12_bound_59 G fuelL h nx l0 l1 (nI 0))
else
gfR h l0 [12] 27 (fun v1 =>
gfR h l0 [12] 1 (fun v2 =>
nn v2 (fun p3 =>
alI (g_c G 0) h p3 (nI 1) (fun v4 =>
ck h l0 [12] (fun _ =>
cl (F_X12_looking G h nx l0) (fun r5 h6 n7 =>
nn v1 (fun p8 =>
asJ (g_c G 1) h6 p8 l2 (((((((-1000 : Int64) * (l2.toInt64))) * (l1.toInt64))) * (((v4 - r5)).toInt64))) (fun h9 =>
nm (l2 + (nI 1)) (fun v10 =>
((F_X12_bound_16 G n) h9 n7 l0 l1 v10))))))))))) := rfl
set_option maxRecDepth 100000 in
set_option maxHeartbeats 4000000 in
theorem k_X12_bound_16 {G : Gx} {d : Nat} {v' : Int64} {h' : Hp} {n' : Nat} : ∀ (n : Nat) {h : Hp} {nx : Nat} {l0 : Nat} {l1 : Int32} {l2 : Int32}, F_X12_bound_16 G n h nx l0 l1 l2 = some (v', h', n') → Ok G mX12_bound (d + 68) (Same (some (.long v')) h' n') 16 [some (.ref l0), some (.int l1), some (.int l2), none, none] [] h nx 0 0 := by
  intro n
  induction n with
  | zero =>
    intro h nx l0 l1 l2 e
    rw [F_X12_bound_16_0] at e
    cases e
  | succ n K16 =>
    intro h nx l0 l1 l2 e
    rw [F_X12_bound_16_s] at e
    refine Ok.iload_n dX12_bound_16 rfl ?_
    refine Ok.sipushV (v := (nI 200)) dX12_bound_17 (by decide +kernel) ?_
    refine X.icmp_gt (tgt := 57) dX12_bound_20 (by decide) e (fun e1 => ?_) (fun e1 => ?_)
    · clear e
      refine Ok.iconstV (v := (nI 0)) dX12_bound_57 (by decide +kernel) ?_
      refine XL.istore_n dX12_bound_58 (by decide) (L := [some (.ref l0), some (.int l1), some (.int (nI 0)), none, none]) rfl ?_
      exact Ok.weakL (k_X12_bound_59 (d := d) fuelL e1) ⟨rfl, ⟨rfl, ⟨rfl, trivial⟩⟩⟩
    · clear e
      refine Ok.aload_n dX12_bound_23 rfl ?_
      refine X.rgfR fl_RX12_57 dX12_bound_24 e1 (fun v1 e2 => ?_)
      clear e1
      refine Ok.iload_n dX12_bound_27 rfl ?_
      refine Ok.ldc2_w (v := -1000) dX12_bound_28 wd1433 ?_
      refine Ok.iload_n dX12_bound_31 rfl ?_
      refine Ok.i2l dX12_bound_32 ?_
      refine Ok.lmul dX12_bound_33 ?_
      refine Ok.iload_n dX12_bound_34 rfl ?_
      refine Ok.i2l dX12_bound_35 ?_
      refine Ok.lmul dX12_bound_36 ?_
      refine Ok.aload_n dX12_bound_37 rfl ?_
      refine X.rgfR fl_RX12_9 dX12_bound_38 e2 (fun v2 e3 => ?_)
      clear e2
      refine Ok.iconstV (v := (nI 1)) dX12_bound_41 (by decide +kernel) ?_
      refine X.rnn e3 (fun p3 q e4 => ?_)
      clear e3
      subst q
      refine X.iald dX12_bound_42 e4 (fun v4 e5 => ?_)
      clear e4
      refine Ok.aload_n dX12_bound_43 rfl ?_
      refine X.rck e5 (fun c fs hb hc e6 => ?_)
      clear e5
      obtain rfl := List.mem_singleton.mp hc
      refine X.callV (My := mX12_looking) (n := 0) (As := []) (T := (fun v => (some (.int v)))) (stk' := (fun v => [.int v, .int v4, .long (((((-1000 : Int64) * (l2.toInt64))) * (l1.toInt64))), .int l2, va_rf v1])) (rest := [.int v4, .long (((((-1000 : Int64) * (l2.toInt64))) * (l1.toInt64))), .int l2, va_rf v1]) (kc' := 0) (ks' := 0) dX12_bound_44 e6 (fun v h n e => k_X12_looking (d := d + 67) e) hb rfl wd1376 wd80 wd1375 wd52 wd1373 (by decide +kernel) rfl (by decide) rfl rfl (cs_le (cs_c (a := 1) rfl (cs_c (a := 2) rfl (cs_c (a := 1) rfl (cs_c (a := 1) (va_rf_cat _) cs_n)))) (by decide)) (Nat.le_of_ble_eq_true rfl) (Nat.le_of_ble_eq_true rfl) rfl rfl (fun _ => rfl) (fun r5 h6 n7 e7 => ?_)
      clear e6
      refine Ok.isub dX12_bound_47 ?_
      refine Ok.i2l dX12_bound_48 ?_
      refine Ok.lmul dX12_bound_49 ?_
      refine X.rnn e7 (fun p8 q e8 => ?_)
      clear e7
      subst q
      refine X.last dX12_bound_50 e8 (fun h9 e9 => ?_)
      clear e8
      refine X.iinc dX12_bound_51 rfl (by decide) (by decide +kernel) e9 (L := fun v10 => [some (.ref l0), some (.int l1), some (.int v10), none, none]) (fun _ => rfl) (fun v10 e10 => ?_)
      clear e9
      refine Ok.goto (tgt := 16) dX12_bound_54 (by decide) ?_
      exact Ok.weakL (K16 e10) ⟨rfl, ⟨rfl, ⟨rfl, trivial⟩⟩⟩
noncomputable def F_X12_bound (G : Gx) (h : Hp) (nx : Nat) (a0 : Nat) (a1 : Int32) : Rz Int64 :=
cl (F_X12_in G h nx a1 (nI 1) (nI 8)) (fun r1 h2 n3 =>
if r1 = 0 then
some ((-9223372036854775808 : Int64), h2, n3)
else
(F_X12_bound_16 G fuelL h2 n3 a0 a1 (nI 0)))
set_option maxRecDepth 100000 in
set_option maxHeartbeats 4000000 in
theorem k_X12_bound {G : Gx} {d : Nat} {h : Hp} {nx : Nat} {a0 : Nat} {a1 : Int32} {v' : Int64} {h' : Hp} {n' : Nat} (e : F_X12_bound G h nx a0 a1 = some (v', h', n')) : Ct G mX12_bound (d + 68) (Same (some (.long v')) h' n') [.ref a0, .int a1] h nx := by
  unfold F_X12_bound at e
  refine Ct.of (ls := [some (.ref a0), some (.int a1), none, none, none]) (by decide +kernel) rfl (Nat.le_of_ble_eq_true rfl) rfl ?_
  refine Ok.iload_n dX12_bound_0 rfl ?_
  refine Ok.iconstV (v := (nI 1)) dX12_bound_1 (by decide +kernel) ?_
  refine Ok.bipushV (v := (nI 8)) dX12_bound_2 (by decide +kernel) ?_
  refine X.callS (My := mX12_in) (n := 3) (As := [.int a1, .int (nI 1), .int (nI 8)]) (T := (fun v => (some (.int v)))) (stk' := (fun v => [.int v])) (rest := []) (kc' := 0) (ks' := 0) dX12_bound_4 e (fun v h n e => k_X12_in (d := d + 67) e) wd1196 wd80 wd1195 wd1194 (by decide +kernel) rfl (by decide) rfl rfl (Nat.le_of_ble_eq_true rfl) (Nat.le_of_ble_eq_true rfl) (Nat.le_of_ble_eq_true rfl) rfl rfl (fun _ => rfl) (fun r1 h2 n3 e1 => ?_)
  clear e
  refine X.if_ne (tgt := 14) dX12_bound_7 (by decide) e1 (fun e2 => ?_) (fun e2 => ?_)
  · clear e1
    refine Ok.iconstV (v := (nI 0)) dX12_bound_14 (by decide +kernel) ?_
    refine XL.istore_n dX12_bound_15 (by decide) (L := [some (.ref a0), some (.int a1), some (.int (nI 0)), none, none]) rfl ?_
    exact Ok.weakL (k_X12_bound_16 (d := d) fuelL e2) ⟨rfl, ⟨rfl, ⟨rfl, trivial⟩⟩⟩
  · clear e1
    refine Ok.ldc2_w (v := -9223372036854775808) dX12_bound_10 wd1311 ?_
    exact X.lret dX12_bound_13 rfl (Nat.le_of_ble_eq_true rfl) (Nat.le_of_ble_eq_true rfl) e2
noncomputable def F_X12_shows_28 (G : Gx) (h : Hp) (nx : Nat) (s0 : Option Nat) (s1 : Int32) (s2 : Int32) (l0 : Nat) (l1 : Int32) : Rz Unit :=
nn s0 (fun p1 =>
asI (g_c G 0) id h p1 s1 s2 (fun h2 =>
gfR h2 l0 [12] 1 (fun v3 =>
nn v3 (fun p4 =>
asI (g_c G 0) id h2 p4 (((nI 1042) + l1)) (nI 0) (fun h5 =>
some ((), h5, nx))))))
set_option maxRecDepth 100000 in
set_option maxHeartbeats 4000000 in
theorem k_X12_shows_28 {G : Gx} {d : Nat} {v' : Unit} {h' : Hp} {n' : Nat} {h : Hp} {nx : Nat} {s0 : Option Nat} {s1 : Int32} {s2 : Int32} {l0 : Nat} {l1 : Int32} (e : F_X12_shows_28 G h nx s0 s1 s2 l0 l1 = some (v', h', n')) : Ok G mX12_shows (d + 1) (Same none h' n') 28 [some (.ref l0), some (.int l1), none] [.int s2, .int s1, va_rf s0] h nx 0 0 := by
  unfold F_X12_shows_28 at e
  refine X.rnn e (fun p1 q e1 => ?_)
  clear e
  subst q
  refine X.iast dX12_shows_28 e1 (fun h2 e2 => ?_)
  clear e1
  refine Ok.aload_n dX12_shows_29 rfl ?_
  refine X.rgfR fl_RX12_9 dX12_shows_30 e2 (fun v3 e3 => ?_)
  clear e2
  refine Ok.sipushV (v := (nI 1042)) dX12_shows_33 (by decide +kernel) ?_
  refine Ok.iload_n dX12_shows_36 rfl ?_
  refine Ok.iadd dX12_shows_37 ?_
  refine Ok.iconstV (v := (nI 0)) dX12_shows_38 (by decide +kernel) ?_
  refine X.rnn e3 (fun p4 q e4 => ?_)
  clear e3
  subst q
  refine X.iast dX12_shows_39 e4 (fun h5 e5 => ?_)
  clear e4
  exact X.vret dX12_shows_40 rfl (Nat.le_of_ble_eq_true rfl) (Nat.le_of_ble_eq_true rfl) e5
noncomputable def F_X12_shows_22 (G : Gx) (h : Hp) (nx : Nat) (s0 : Option Nat) (s1 : Int32) (l0 : Nat) (l1 : Int32) : Rz Unit :=
(F_X12_shows_28 G h nx s0 s1 (nI 1000000) l0 l1)
set_option maxRecDepth 100000 in
set_option maxHeartbeats 4000000 in
theorem k_X12_shows_22 {G : Gx} {d : Nat} {v' : Unit} {h' : Hp} {n' : Nat} {h : Hp} {nx : Nat} {s0 : Option Nat} {s1 : Int32} {l0 : Nat} {l1 : Int32} (e : F_X12_shows_22 G h nx s0 s1 l0 l1 = some (v', h', n')) : Ok G mX12_shows (d + 1) (Same none h' n') 22 [some (.ref l0), some (.int l1), none] [.int s1, va_rf s0] h nx 0 0 := by
  unfold F_X12_shows_22 at e
  refine Ok.ldc (v := (nI 1000000)) dX12_shows_22 wd1270 ?_
  refine Ok.goto (tgt := 28) dX12_shows_24 (by decide) ?_
  exact Ok.weakL (k_X12_shows_28 (d := d) e) ⟨rfl, ⟨rfl, trivial⟩⟩
noncomputable def F_X12_shows (G : Gx) (h : Hp) (nx : Nat) (a0 : Nat) (a1 : Int32) (a2 : Int32) : Rz Unit :=
gfR h a0 [12] 1 (fun v1 =>
if a2 = 0 then
ck h a0 [12] (fun _ =>
cl (F_X12_value G h nx a0 a1 (nI 3)) (fun r2 h3 n4 =>
if r2 ≤ 0 then
(F_X12_shows_28 G h3 n4 v1 (((nI 1034) + a1)) (nI 0) a0 a1)
else
(F_X12_shows_22 G h3 n4 v1 (((nI 1034) + a1)) a0 a1)))
else
(F_X12_shows_22 G h nx v1 (((nI 1034) + a1)) a0 a1))
set_option maxRecDepth 100000 in
set_option maxHeartbeats 4000000 in
theorem k_X12_shows {G : Gx} {d : Nat} {h : Hp} {nx : Nat} {a0 : Nat} {a1 : Int32} {a2 : Int32} {v' : Unit} {h' : Hp} {n' : Nat} (e : F_X12_shows G h nx a0 a1 a2 = some (v', h', n')) : Ct G mX12_shows (d + 1) (Same none h' n') [.ref a0, .int a1, .int a2] h nx := by
  unfold F_X12_shows at e
  refine Ct.of (ls := [some (.ref a0), some (.int a1), some (.int a2)]) (by decide +kernel) rfl (Nat.le_of_ble_eq_true rfl) rfl ?_
  refine Ok.aload_n dX12_shows_0 rfl ?_
  refine X.rgfR fl_RX12_9 dX12_shows_1 e (fun v1 e1 => ?_)
  clear e
  refine Ok.sipushV (v := (nI 1034)) dX12_shows_4 (by decide +kernel) ?_
  refine Ok.iload_n dX12_shows_7 rfl ?_
  refine Ok.iadd dX12_shows_8 ?_
  refine Ok.iload_n dX12_shows_9 rfl ?_
  refine X.if_ne (tgt := 22) dX12_shows_10 (by decide) e1 (fun e2 => ?_) (fun e2 => ?_)
  · clear e1
    exact Ok.weakL (k_X12_shows_22 (d := d) e2) ⟨rfl, ⟨rfl, trivial⟩⟩
  · clear e1
    refine Ok.aload_n dX12_shows_13 rfl ?_
    refine Ok.iload_n dX12_shows_14 rfl ?_
    refine Ok.iconstV (v := (nI 3)) dX12_shows_15 (by decide +kernel) ?_
    refine X.rck e2 (fun c fs hb hc e3 => ?_)
    clear e2
    obtain rfl := List.mem_singleton.mp hc
    refine X.callV (My := mX12_value) (n := 2) (As := [.int a1, .int (nI 3)]) (T := (fun v => (some (.int v)))) (stk' := (fun v => [.int v, .int (((nI 1034) + a1)), va_rf v1])) (rest := [.int (((nI 1034) + a1)), va_rf v1]) (kc' := 0) (ks' := 0) dX12_shows_16 e3 (fun v h n e => k_X12_value (d := d + 0) e) hb rfl wd1319 wd80 wd1318 wd44 wd1316 (by decide +kernel) rfl (by decide) rfl rfl (cs_le (cs_c (a := 1) rfl (cs_c (a := 1) (va_rf_cat _) cs_n)) (by decide)) (Nat.le_of_ble_eq_true rfl) (Nat.le_of_ble_eq_true rfl) rfl rfl (fun _ => rfl) (fun r2 h3 n4 e4 => ?_)
    clear e3
    refine X.if_le (tgt := 27) dX12_shows_19 (by decide) e4 (fun e5 => ?_) (fun e5 => ?_)
    · clear e4
      refine Ok.iconstV (v := (nI 0)) dX12_shows_27 (by decide +kernel) ?_
      exact Ok.weakL (k_X12_shows_28 (d := d) e5) ⟨rfl, ⟨rfl, trivial⟩⟩
    · clear e4
      exact Ok.weakL (k_X12_shows_22 (d := d) e5) ⟨rfl, ⟨rfl, trivial⟩⟩
noncomputable def F_X12_doubt_46 (G : Gx) (k5 : Hp → Nat → Nat → Int32 → Int64 → Int32 → Rz Int64) (h : Hp) (nx : Nat) (s0 : Int64) (s1 : Int64) (l0 : Nat) (l1 : Int32) (l4 : Int32) : Rz Int64 :=
nm ((s0 + s1)) (fun v1 =>
nm (l4 + (nI 1)) (fun v2 =>
(k5 h nx l0 l1 v1 v2)))
set_option maxRecDepth 100000 in
set_option maxHeartbeats 4000000 in
theorem k_X12_doubt_46 {G : Gx} {d : Nat} {v' : Int64} {h' : Hp} {n' : Nat} {k5 : Hp → Nat → Nat → Int32 → Int64 → Int32 → Rz Int64} (K5 : ∀ {h : Hp} {nx : Nat} {l0 : Nat} {l1 : Int32} {l2 : Int64} {l4 : Int32}, k5 h nx l0 l1 l2 l4 = some (v', h', n') → Ok G mX12_doubt (d + 0) (Same (some (.long v')) h' n') 5 [some (.ref l0), some (.int l1), some (.long l2), none, some (.int l4)] [] h nx 0 0) {h : Hp} {nx : Nat} {s0 : Int64} {s1 : Int64} {l0 : Nat} {l1 : Int32} {l4 : Int32} (e : F_X12_doubt_46 G k5 h nx s0 s1 l0 l1 l4 = some (v', h', n')) : Ok G mX12_doubt (d + 0) (Same (some (.long v')) h' n') 46 [some (.ref l0), some (.int l1), none, none, some (.int l4)] [.long s1, .long s0] h nx 0 0 := by
  unfold F_X12_doubt_46 at e
  refine Ok.ladd dX12_doubt_46 ?_
  refine X.lstore_n dX12_doubt_47 (by decide) e (L := fun v1 => [some (.ref l0), some (.int l1), some (.long v1), none, some (.int l4)]) (fun _ => rfl) (fun v1 e1 => ?_)
  clear e
  refine X.iinc dX12_doubt_48 rfl (by decide) (by decide +kernel) e1 (L := fun v2 => [some (.ref l0), some (.int l1), some (.long v1), none, some (.int v2)]) (fun _ => rfl) (fun v2 e2 => ?_)
  clear e1
  refine Ok.goto (tgt := 5) dX12_doubt_51 (by decide) ?_
  exact Ok.weakL (K5 e2) ⟨rfl, ⟨rfl, ⟨rfl, ⟨rfl, trivial⟩⟩⟩⟩
noncomputable def F_X12_doubt_5 (G : Gx) : Nat → Hp → Nat → Nat → Int32 → Int64 → Int32 → Rz Int64 := fun n => Nat.rec (motive := fun _ => Hp → Nat → Nat → Int32 → Int64 → Int32 → Rz Int64) (fun _ _ _ _ _ _ => none) (fun _ k5 => fun h nx l0 l1 l2 l4 =>
gfR h l0 [12] 1 (fun v1 =>
nn v1 (fun p2 =>
alI (g_c G 0) h p2 (nI 1) (fun v3 =>
if v3 ≤ l4 then
some (l2, h, nx)
else
if ((((l1 >>> (l4 &&& 31))) &&& (nI 1))) = (nI 1) then
gfR h l0 [12] 1 (fun v4 =>
nn v4 (fun p5 =>
alI (g_c G 0) h p5 (((nI 1034) + l4)) (fun v6 =>
(F_X12_doubt_46 G k5 h nx l2 ((((nI 1000000) - v6)).toInt64) l0 l1 l4))))
else
(F_X12_doubt_46 G k5 h nx l2 (0 : Int64) l0 l1 l4))))) n
theorem F_X12_doubt_5_0 {G : Gx} {h : Hp} {nx : Nat} {l0 : Nat} {l1 : Int32} {l2 : Int64} {l4 : Int32} : F_X12_doubt_5 G 0 h nx l0 l1 l2 l4 = none := rfl
theorem F_X12_doubt_5_s {G : Gx} {n : Nat} {h : Hp} {nx : Nat} {l0 : Nat} {l1 : Int32} {l2 : Int64} {l4 : Int32} : F_X12_doubt_5 G (n + 1) h nx l0 l1 l2 l4 = (
gfR h l0 [12] 1 (fun v1 =>
nn v1 (fun p2 =>
alI (g_c G 0) h p2 (nI 1) (fun v3 =>
if v3 ≤ l4 then
some (l2, h, nx)
else
if ((((l1 >>> (l4 &&& 31))) &&& (nI 1))) = (nI 1) then
gfR h l0 [12] 1 (fun v4 =>
nn v4 (fun p5 =>
alI (g_c G 0) h p5 (((nI 1034) + l4)) (fun v6 =>
(F_X12_doubt_46 G (F_X12_doubt_5 G n) h nx l2 ((((nI 1000000) - v6)).toInt64) l0 l1 l4))))
else
(F_X12_doubt_46 G (F_X12_doubt_5 G n) h nx l2 (0 : Int64) l0 l1 l4))))) := rfl
set_option maxRecDepth 100000 in
set_option maxHeartbeats 4000000 in
theorem k_X12_doubt_5 {G : Gx} {d : Nat} {v' : Int64} {h' : Hp} {n' : Nat} : ∀ (n : Nat) {h : Hp} {nx : Nat} {l0 : Nat} {l1 : Int32} {l2 : Int64} {l4 : Int32}, F_X12_doubt_5 G n h nx l0 l1 l2 l4 = some (v', h', n') → Ok G mX12_doubt (d + 0) (Same (some (.long v')) h' n') 5 [some (.ref l0), some (.int l1), some (.long l2), none, some (.int l4)] [] h nx 0 0 := by
  intro n
  induction n with
  | zero =>
    intro h nx l0 l1 l2 l4 e
    rw [F_X12_doubt_5_0] at e
    cases e
  | succ n K5 =>
    intro h nx l0 l1 l2 l4 e
    rw [F_X12_doubt_5_s] at e
    refine Ok.iload dX12_doubt_5 rfl ?_
    refine Ok.aload_n dX12_doubt_7 rfl ?_
    refine X.rgfR fl_RX12_9 dX12_doubt_8 e (fun v1 e1 => ?_)
    clear e
    refine Ok.iconstV (v := (nI 1)) dX12_doubt_11 (by decide +kernel) ?_
    refine X.rnn e1 (fun p2 q e2 => ?_)
    clear e1
    subst q
    refine X.iald dX12_doubt_12 e2 (fun v3 e3 => ?_)
    clear e2
    refine X.icmp_ge (tgt := 54) dX12_doubt_13 (by decide) e3 (fun e4 => ?_) (fun e4 => ?_)
    · clear e3
      refine Ok.lload_n dX12_doubt_54 rfl ?_
      exact X.lret dX12_doubt_55 rfl (Nat.le_of_ble_eq_true rfl) (Nat.le_of_ble_eq_true rfl) e4
    · clear e3
      refine Ok.lload_n dX12_doubt_16 rfl ?_
      refine Ok.iload_n dX12_doubt_17 rfl ?_
      refine Ok.iload dX12_doubt_18 rfl ?_
      refine Ok.ishr dX12_doubt_20 ?_
      refine Ok.iconstV (v := (nI 1)) dX12_doubt_21 (by decide +kernel) ?_
      refine Ok.iand dX12_doubt_22 ?_
      refine Ok.iconstV (v := (nI 1)) dX12_doubt_23 (by decide +kernel) ?_
      refine X.icmp_ne (tgt := 45) dX12_doubt_24 (by decide) e4 (fun e5 => ?_) (fun e5 => ?_)
      · clear e4
        refine XL.lconst (v := 0) dX12_doubt_45 (by decide +kernel) ?_
        exact Ok.weakL (k_X12_doubt_46 (d := d) K5 e5) ⟨rfl, ⟨rfl, ⟨rfl, trivial⟩⟩⟩
      · clear e4
        refine Ok.ldc (v := (nI 1000000)) dX12_doubt_27 wd1270 ?_
        refine Ok.aload_n dX12_doubt_29 rfl ?_
        refine X.rgfR fl_RX12_9 dX12_doubt_30 e5 (fun v4 e6 => ?_)
        clear e5
        refine Ok.sipushV (v := (nI 1034)) dX12_doubt_33 (by decide +kernel) ?_
        refine Ok.iload dX12_doubt_36 rfl ?_
        refine Ok.iadd dX12_doubt_38 ?_
        refine X.rnn e6 (fun p5 q e7 => ?_)
        clear e6
        subst q
        refine X.iald dX12_doubt_39 e7 (fun v6 e8 => ?_)
        clear e7
        refine Ok.isub dX12_doubt_40 ?_
        refine Ok.i2l dX12_doubt_41 ?_
        refine Ok.goto (tgt := 46) dX12_doubt_42 (by decide) ?_
        exact Ok.weakL (k_X12_doubt_46 (d := d) K5 e8) ⟨rfl, ⟨rfl, ⟨rfl, trivial⟩⟩⟩
noncomputable def F_X12_doubt (G : Gx) (h : Hp) (nx : Nat) (a0 : Nat) (a1 : Int32) : Rz Int64 :=
(F_X12_doubt_5 G fuelL h nx a0 a1 (0 : Int64) (nI 0))
set_option maxRecDepth 100000 in
set_option maxHeartbeats 4000000 in
theorem k_X12_doubt {G : Gx} {d : Nat} {h : Hp} {nx : Nat} {a0 : Nat} {a1 : Int32} {v' : Int64} {h' : Hp} {n' : Nat} (e : F_X12_doubt G h nx a0 a1 = some (v', h', n')) : Ct G mX12_doubt (d + 0) (Same (some (.long v')) h' n') [.ref a0, .int a1] h nx := by
  unfold F_X12_doubt at e
  refine Ct.of (ls := [some (.ref a0), some (.int a1), none, none, none]) (by decide +kernel) rfl (Nat.le_of_ble_eq_true rfl) rfl ?_
  refine XL.lconst (v := 0) dX12_doubt_0 (by decide +kernel) ?_
  refine XL.lstore_n dX12_doubt_1 (by decide) (L := [some (.ref a0), some (.int a1), some (.long (0 : Int64)), none, none]) rfl ?_
  refine Ok.iconstV (v := (nI 0)) dX12_doubt_2 (by decide +kernel) ?_
  refine XL.istore dX12_doubt_3 (by decide) (L := [some (.ref a0), some (.int a1), some (.long (0 : Int64)), none, some (.int (nI 0))]) rfl ?_
  exact Ok.weakL (k_X12_doubt_5 (d := d) fuelL e) ⟨rfl, ⟨rfl, ⟨rfl, ⟨rfl, trivial⟩⟩⟩⟩
noncomputable def F_X12_judged_51 (G : Gx) (h : Hp) (nx : Nat) : Rz Int32 :=
some ((-3 : Int32), h, nx)
set_option maxRecDepth 100000 in
set_option maxHeartbeats 4000000 in
theorem k_X12_judged_51 {G : Gx} {d : Nat} {v' : Int32} {h' : Hp} {n' : Nat} {h : Hp} {nx : Nat} (e : F_X12_judged_51 G h nx = some (v', h', n')) : Ok G mX12_judged (d + 73) (Same (some (.int v')) h' n') 51 [none, none, none, none, none, none, none] [] h nx 0 0 := by
  unfold F_X12_judged_51 at e
  refine Ok.bipushV (v := (-3 : Int32)) dX12_judged_51 (by decide +kernel) ?_
  exact X.iret dX12_judged_53 rfl (Nat.le_of_ble_eq_true rfl) (Nat.le_of_ble_eq_true rfl) e
noncomputable def F_X12_judged_263 (G : Gx) : Nat → Hp → Nat → Nat → Int32 → Int32 → Rz Int32 := fun n => Nat.rec (motive := fun _ => Hp → Nat → Nat → Int32 → Int32 → Rz Int32) (fun _ _ _ _ _ => none) (fun _ k263 => fun h nx l0 l3 l4 =>
if (nI 8) ≤ l4 then
some (l3, h, nx)
else
gfR h l0 [12] 1 (fun v1 =>
gfR h l0 [12] 22 (fun v2 =>
nn v2 (fun p3 =>
alI (g_c G 0) h p3 l4 (fun v4 =>
nn v1 (fun p5 =>
asI (g_c G 0) id h p5 (((nI 1034) + l4)) v4 (fun h6 =>
gfR h6 l0 [12] 1 (fun v7 =>
gfR h6 l0 [12] 23 (fun v8 =>
nn v8 (fun p9 =>
alI (g_c G 0) h6 p9 l4 (fun v10 =>
nn v7 (fun p11 =>
asI (g_c G 0) id h6 p11 (((nI 1042) + l4)) v10 (fun h12 =>
nm (l4 + (nI 1)) (fun v13 =>
(k263 h12 nx l0 l3 v13))))))))))))))) n
theorem F_X12_judged_263_0 {G : Gx} {h : Hp} {nx : Nat} {l0 : Nat} {l3 : Int32} {l4 : Int32} : F_X12_judged_263 G 0 h nx l0 l3 l4 = none := rfl
theorem F_X12_judged_263_s {G : Gx} {n : Nat} {h : Hp} {nx : Nat} {l0 : Nat} {l3 : Int32} {l4 : Int32} : F_X12_judged_263 G (n + 1) h nx l0 l3 l4 = (
if (nI 8) ≤ l4 then
some (l3, h, nx)
else
gfR h l0 [12] 1 (fun v1 =>
gfR h l0 [12] 22 (fun v2 =>
nn v2 (fun p3 =>
alI (g_c G 0) h p3 l4 (fun v4 =>
nn v1 (fun p5 =>
asI (g_c G 0) id h p5 (((nI 1034) + l4)) v4 (fun h6 =>
gfR h6 l0 [12] 1 (fun v7 =>
gfR h6 l0 [12] 23 (fun v8 =>
nn v8 (fun p9 =>
alI (g_c G 0) h6 p9 l4 (fun v10 =>
nn v7 (fun p11 =>
asI (g_c G 0) id h6 p11 (((nI 1042) + l4)) v10 (fun h12 =>
nm (l4 + (nI 1)) (fun v13 =>
((F_X12_judged_263 G n) h12 nx l0 l3 v13))))))))))))))) := rfl
set_option maxRecDepth 100000 in
set_option maxHeartbeats 4000000 in
theorem k_X12_judged_263 {G : Gx} {d : Nat} {v' : Int32} {h' : Hp} {n' : Nat} : ∀ (n : Nat) {h : Hp} {nx : Nat} {l0 : Nat} {l3 : Int32} {l4 : Int32}, F_X12_judged_263 G n h nx l0 l3 l4 = some (v', h', n') → Ok G mX12_judged (d + 73) (Same (some (.int v')) h' n') 263 [some (.ref l0), none, none, some (.int l3), some (.int l4), none, none] [] h nx 0 0 := by
  intro n
  induction n with
  | zero =>
    intro h nx l0 l3 l4 e
    rw [F_X12_judged_263_0] at e
    cases e
  | succ n K263 =>
    intro h nx l0 l3 l4 e
    rw [F_X12_judged_263_s] at e
    refine Ok.iload dX12_judged_263 rfl ?_
    refine Ok.bipushV (v := (nI 8)) dX12_judged_265 (by decide +kernel) ?_
    refine X.icmp_ge (tgt := 312) dX12_judged_267 (by decide) e (fun e1 => ?_) (fun e1 => ?_)
    · clear e
      refine Ok.iload_n dX12_judged_312 rfl ?_
      exact X.iret dX12_judged_313 rfl (Nat.le_of_ble_eq_true rfl) (Nat.le_of_ble_eq_true rfl) e1
    · clear e
      refine Ok.aload_n dX12_judged_270 rfl ?_
      refine X.rgfR fl_RX12_9 dX12_judged_271 e1 (fun v1 e2 => ?_)
      clear e1
      refine Ok.sipushV (v := (nI 1034)) dX12_judged_274 (by decide +kernel) ?_
      refine Ok.iload dX12_judged_277 rfl ?_
      refine Ok.iadd dX12_judged_279 ?_
      refine Ok.aload_n dX12_judged_280 rfl ?_
      refine X.rgfR fl_RX12_48 dX12_judged_281 e2 (fun v2 e3 => ?_)
      clear e2
      refine Ok.iload dX12_judged_284 rfl ?_
      refine X.rnn e3 (fun p3 q e4 => ?_)
      clear e3
      subst q
      refine X.iald dX12_judged_286 e4 (fun v4 e5 => ?_)
      clear e4
      refine X.rnn e5 (fun p5 q e6 => ?_)
      clear e5
      subst q
      refine X.iast dX12_judged_287 e6 (fun h6 e7 => ?_)
      clear e6
      refine Ok.aload_n dX12_judged_288 rfl ?_
      refine X.rgfR fl_RX12_9 dX12_judged_289 e7 (fun v7 e8 => ?_)
      clear e7
      refine Ok.sipushV (v := (nI 1042)) dX12_judged_292 (by decide +kernel) ?_
      refine Ok.iload dX12_judged_295 rfl ?_
      refine Ok.iadd dX12_judged_297 ?_
      refine Ok.aload_n dX12_judged_298 rfl ?_
      refine X.rgfR fl_RX12_51 dX12_judged_299 e8 (fun v8 e9 => ?_)
      clear e8
      refine Ok.iload dX12_judged_302 rfl ?_
      refine X.rnn e9 (fun p9 q e10 => ?_)
      clear e9
      subst q
      refine X.iald dX12_judged_304 e10 (fun v10 e11 => ?_)
      clear e10
      refine X.rnn e11 (fun p11 q e12 => ?_)
      clear e11
      subst q
      refine X.iast dX12_judged_305 e12 (fun h12 e13 => ?_)
      clear e12
      refine X.iinc dX12_judged_306 rfl (by decide) (by decide +kernel) e13 (L := fun v13 => [some (.ref l0), none, none, some (.int l3), some (.int v13), none, none]) (fun _ => rfl) (fun v13 e14 => ?_)
      clear e13
      refine Ok.goto (tgt := 263) dX12_judged_309 (by decide) ?_
      exact Ok.weakL (K263 e14) ⟨rfl, ⟨rfl, ⟨rfl, trivial⟩⟩⟩
noncomputable def F_X12_judged_260 (G : Gx) (h : Hp) (nx : Nat) (l0 : Nat) (l3 : Int32) : Rz Int32 :=
(F_X12_judged_263 G fuelL h nx l0 l3 (nI 0))
set_option maxRecDepth 100000 in
set_option maxHeartbeats 4000000 in
theorem k_X12_judged_260 {G : Gx} {d : Nat} {v' : Int32} {h' : Hp} {n' : Nat} {h : Hp} {nx : Nat} {l0 : Nat} {l3 : Int32} (e : F_X12_judged_260 G h nx l0 l3 = some (v', h', n')) : Ok G mX12_judged (d + 73) (Same (some (.int v')) h' n') 260 [some (.ref l0), none, none, some (.int l3), none, none, none] [] h nx 0 0 := by
  unfold F_X12_judged_260 at e
  refine Ok.iconstV (v := (nI 0)) dX12_judged_260 (by decide +kernel) ?_
  refine XL.istore dX12_judged_261 (by decide) (L := [some (.ref l0), none, none, some (.int l3), some (.int (nI 0)), none, none]) rfl ?_
  exact Ok.weakL (k_X12_judged_263 (d := d) fuelL e) ⟨rfl, ⟨rfl, ⟨rfl, trivial⟩⟩⟩
noncomputable def F_X12_judged_244 (G : Gx) (k106 : Hp → Nat → Nat → Int32 → Int32 → Int32 → Int32 → Rz Int32) (k194 : Hp → Nat → Nat → Int32 → Int32 → Int32 → Int32 → Int32 → Int32 → Rz Int32) (h : Hp) (nx : Nat) (l0 : Nat) (l1 : Int32) (l2 : Int32) (l3 : Int32) (l4 : Int32) (l5 : Int32) (l6 : Int32) : Rz Int32 :=
nm (l6 + (nI 1)) (fun v1 =>
(k194 h nx l0 l1 l2 l3 l4 l5 v1))
set_option maxRecDepth 100000 in
set_option maxHeartbeats 4000000 in
theorem k_X12_judged_244 {G : Gx} {d : Nat} {v' : Int32} {h' : Hp} {n' : Nat} {k106 : Hp → Nat → Nat → Int32 → Int32 → Int32 → Int32 → Rz Int32} (K106 : ∀ {h : Hp} {nx : Nat} {l0 : Nat} {l1 : Int32} {l2 : Int32} {l3 : Int32} {l4 : Int32}, k106 h nx l0 l1 l2 l3 l4 = some (v', h', n') → Ok G mX12_judged (d + 73) (Same (some (.int v')) h' n') 106 [some (.ref l0), some (.int l1), some (.int l2), some (.int l3), some (.int l4), none, none] [] h nx 0 0) {k194 : Hp → Nat → Nat → Int32 → Int32 → Int32 → Int32 → Int32 → Int32 → Rz Int32} (K194 : ∀ {h : Hp} {nx : Nat} {l0 : Nat} {l1 : Int32} {l2 : Int32} {l3 : Int32} {l4 : Int32} {l5 : Int32} {l6 : Int32}, k194 h nx l0 l1 l2 l3 l4 l5 l6 = some (v', h', n') → Ok G mX12_judged (d + 73) (Same (some (.int v')) h' n') 194 [some (.ref l0), some (.int l1), some (.int l2), some (.int l3), some (.int l4), some (.int l5), some (.int l6)] [] h nx 0 0) {h : Hp} {nx : Nat} {l0 : Nat} {l1 : Int32} {l2 : Int32} {l3 : Int32} {l4 : Int32} {l5 : Int32} {l6 : Int32} (e : F_X12_judged_244 G k106 k194 h nx l0 l1 l2 l3 l4 l5 l6 = some (v', h', n')) : Ok G mX12_judged (d + 73) (Same (some (.int v')) h' n') 244 [some (.ref l0), some (.int l1), some (.int l2), some (.int l3), some (.int l4), some (.int l5), some (.int l6)] [] h nx 0 0 := by
  unfold F_X12_judged_244 at e
  refine X.iinc dX12_judged_244 rfl (by decide) (by decide +kernel) e (L := fun v1 => [some (.ref l0), some (.int l1), some (.int l2), some (.int l3), some (.int l4), some (.int l5), some (.int v1)]) (fun _ => rfl) (fun v1 e1 => ?_)
  clear e
  refine Ok.goto (tgt := 194) dX12_judged_247 (by decide) ?_
  exact Ok.weakL (K194 e1) ⟨rfl, ⟨rfl, ⟨rfl, ⟨rfl, ⟨rfl, ⟨rfl, ⟨rfl, trivial⟩⟩⟩⟩⟩⟩⟩
noncomputable def F_X12_judged_241 (G : Gx) (k106 : Hp → Nat → Nat → Int32 → Int32 → Int32 → Int32 → Rz Int32) (k194 : Hp → Nat → Nat → Int32 → Int32 → Int32 → Int32 → Int32 → Int32 → Rz Int32) (h : Hp) (nx : Nat) (s0 : Nat) (s1 : Int32) (s2 : Int32) (l0 : Nat) (l1 : Int32) (l2 : Int32) (l3 : Int32) (l4 : Int32) (l5 : Int32) (l6 : Int32) : Rz Int32 :=
ck h s0 [12] (fun _ =>
cl (F_X12_shows G h nx s0 s1 s2) (fun _ h2 n3 =>
(F_X12_judged_244 G k106 k194 h2 n3 l0 l1 l2 l3 l4 l5 l6)))
set_option maxRecDepth 100000 in
set_option maxHeartbeats 4000000 in
theorem k_X12_judged_241 {G : Gx} {d : Nat} {v' : Int32} {h' : Hp} {n' : Nat} {k106 : Hp → Nat → Nat → Int32 → Int32 → Int32 → Int32 → Rz Int32} (K106 : ∀ {h : Hp} {nx : Nat} {l0 : Nat} {l1 : Int32} {l2 : Int32} {l3 : Int32} {l4 : Int32}, k106 h nx l0 l1 l2 l3 l4 = some (v', h', n') → Ok G mX12_judged (d + 73) (Same (some (.int v')) h' n') 106 [some (.ref l0), some (.int l1), some (.int l2), some (.int l3), some (.int l4), none, none] [] h nx 0 0) {k194 : Hp → Nat → Nat → Int32 → Int32 → Int32 → Int32 → Int32 → Int32 → Rz Int32} (K194 : ∀ {h : Hp} {nx : Nat} {l0 : Nat} {l1 : Int32} {l2 : Int32} {l3 : Int32} {l4 : Int32} {l5 : Int32} {l6 : Int32}, k194 h nx l0 l1 l2 l3 l4 l5 l6 = some (v', h', n') → Ok G mX12_judged (d + 73) (Same (some (.int v')) h' n') 194 [some (.ref l0), some (.int l1), some (.int l2), some (.int l3), some (.int l4), some (.int l5), some (.int l6)] [] h nx 0 0) {h : Hp} {nx : Nat} {s0 : Nat} {s1 : Int32} {s2 : Int32} {l0 : Nat} {l1 : Int32} {l2 : Int32} {l3 : Int32} {l4 : Int32} {l5 : Int32} {l6 : Int32} (e : F_X12_judged_241 G k106 k194 h nx s0 s1 s2 l0 l1 l2 l3 l4 l5 l6 = some (v', h', n')) : Ok G mX12_judged (d + 73) (Same (some (.int v')) h' n') 241 [some (.ref l0), some (.int l1), some (.int l2), some (.int l3), some (.int l4), some (.int l5), some (.int l6)] [.int s2, .int s1, .ref s0] h nx 0 0 := by
  unfold F_X12_judged_241 at e
  refine X.rck e (fun c fs hb hc e1 => ?_)
  clear e
  obtain rfl := List.mem_singleton.mp hc
  refine X.callV (My := mX12_shows) (n := 2) (As := [.int s1, .int s2]) (T := (fun v => none)) (stk' := (fun _ => [])) (rest := []) (kc' := 0) (ks' := 0) dX12_judged_241 e1 (fun v h n e => k_X12_shows (d := d + 71) e) hb rfl wd1446 wd80 wd1445 wd63 wd1443 (by decide +kernel) rfl (by decide) rfl rfl (Nat.le_of_ble_eq_true rfl) (Nat.le_of_ble_eq_true rfl) (Nat.le_of_ble_eq_true rfl) rfl rfl (fun _ => rfl) (fun _ h2 n3 e2 => ?_)
  clear e1
  exact Ok.weakL (k_X12_judged_244 (d := d) K106 K194 e2) ⟨rfl, ⟨rfl, ⟨rfl, ⟨rfl, ⟨rfl, ⟨rfl, ⟨rfl, trivial⟩⟩⟩⟩⟩⟩⟩
noncomputable def F_X12_judged_194 (G : Gx) (k106 : Hp → Nat → Nat → Int32 → Int32 → Int32 → Int32 → Rz Int32) : Nat → Hp → Nat → Nat → Int32 → Int32 → Int32 → Int32 → Int32 → Int32 → Rz Int32 := fun n => Nat.rec (motive := fun _ => Hp → Nat → Nat → Int32 → Int32 → Int32 → Int32 → Int32 → Int32 → Rz Int32) (fun _ _ _ _ _ _ _ _ _ => none) (fun _ k194 => fun h nx l0 l1 l2 l3 l4 l5 l6 =>
gfR h l0 [12] 1 (fun v1 =>
nn v1 (fun p2 =>
alI (g_c G 0) h p2 (nI 1) (fun v3 =>
if v3 ≤ l6 then
ck h l0 [12] (fun _ =>
cl (F_X12_over G h nx l0) (fun _ h5 n6 =>
nm (l4 + (nI 1)) (fun v7 =>
(k106 h5 n6 l0 l1 l2 l3 v7))))
else
if ((((l5 >>> (l6 &&& 31))) &&& (nI 1))) = (nI 1) then
gfR h l0 [12] 1 (fun v8 =>
nn v8 (fun p9 =>
alI (g_c G 0) h p9 (((nI 1034) + l6)) (fun v10 =>
if v10 < (nI 500000) then
(F_X12_judged_241 G k106 k194 h nx l0 l6 (nI 0) l0 l1 l2 l3 l4 l5 l6)
else
(F_X12_judged_241 G k106 k194 h nx l0 l6 (nI 1) l0 l1 l2 l3 l4 l5 l6))))
else
(F_X12_judged_244 G k106 k194 h nx l0 l1 l2 l3 l4 l5 l6))))) n
theorem F_X12_judged_194_0 {G : Gx} (k106 : Hp → Nat → Nat → Int32 → Int32 → Int32 → Int32 → Rz Int32) {h : Hp} {nx : Nat} {l0 : Nat} {l1 : Int32} {l2 : Int32} {l3 : Int32} {l4 : Int32} {l5 : Int32} {l6 : Int32} : F_X12_judged_194 G k106 0 h nx l0 l1 l2 l3 l4 l5 l6 = none := rfl
theorem F_X12_judged_194_s {G : Gx} (k106 : Hp → Nat → Nat → Int32 → Int32 → Int32 → Int32 → Rz Int32) {n : Nat} {h : Hp} {nx : Nat} {l0 : Nat} {l1 : Int32} {l2 : Int32} {l3 : Int32} {l4 : Int32} {l5 : Int32} {l6 : Int32} : F_X12_judged_194 G k106 (n + 1) h nx l0 l1 l2 l3 l4 l5 l6 = (
gfR h l0 [12] 1 (fun v1 =>
nn v1 (fun p2 =>
alI (g_c G 0) h p2 (nI 1) (fun v3 =>
if v3 ≤ l6 then
ck h l0 [12] (fun _ =>
cl (F_X12_over G h nx l0) (fun _ h5 n6 =>
nm (l4 + (nI 1)) (fun v7 =>
(k106 h5 n6 l0 l1 l2 l3 v7))))
else
if ((((l5 >>> (l6 &&& 31))) &&& (nI 1))) = (nI 1) then
gfR h l0 [12] 1 (fun v8 =>
nn v8 (fun p9 =>
alI (g_c G 0) h p9 (((nI 1034) + l6)) (fun v10 =>
if v10 < (nI 500000) then
(F_X12_judged_241 G k106 (F_X12_judged_194 G k106 n) h nx l0 l6 (nI 0) l0 l1 l2 l3 l4 l5 l6)
else
(F_X12_judged_241 G k106 (F_X12_judged_194 G k106 n) h nx l0 l6 (nI 1) l0 l1 l2 l3 l4 l5 l6))))
else
(F_X12_judged_244 G k106 (F_X12_judged_194 G k106 n) h nx l0 l1 l2 l3 l4 l5 l6))))) := rfl
set_option maxRecDepth 100000 in
set_option maxHeartbeats 4000000 in
theorem k_X12_judged_194 {G : Gx} {d : Nat} {v' : Int32} {h' : Hp} {n' : Nat} {k106 : Hp → Nat → Nat → Int32 → Int32 → Int32 → Int32 → Rz Int32} (K106 : ∀ {h : Hp} {nx : Nat} {l0 : Nat} {l1 : Int32} {l2 : Int32} {l3 : Int32} {l4 : Int32}, k106 h nx l0 l1 l2 l3 l4 = some (v', h', n') → Ok G mX12_judged (d + 73) (Same (some (.int v')) h' n') 106 [some (.ref l0), some (.int l1), some (.int l2), some (.int l3), some (.int l4), none, none] [] h nx 0 0) : ∀ (n : Nat) {h : Hp} {nx : Nat} {l0 : Nat} {l1 : Int32} {l2 : Int32} {l3 : Int32} {l4 : Int32} {l5 : Int32} {l6 : Int32}, F_X12_judged_194 G k106 n h nx l0 l1 l2 l3 l4 l5 l6 = some (v', h', n') → Ok G mX12_judged (d + 73) (Same (some (.int v')) h' n') 194 [some (.ref l0), some (.int l1), some (.int l2), some (.int l3), some (.int l4), some (.int l5), some (.int l6)] [] h nx 0 0 := by
  intro n
  induction n with
  | zero =>
    intro h nx l0 l1 l2 l3 l4 l5 l6 e
    rw [F_X12_judged_194_0] at e
    cases e
  | succ n K194 =>
    intro h nx l0 l1 l2 l3 l4 l5 l6 e
    rw [F_X12_judged_194_s] at e
    refine Ok.iload dX12_judged_194 rfl ?_
    refine Ok.aload_n dX12_judged_196 rfl ?_
    refine X.rgfR fl_RX12_9 dX12_judged_197 e (fun v1 e1 => ?_)
    clear e
    refine Ok.iconstV (v := (nI 1)) dX12_judged_200 (by decide +kernel) ?_
    refine X.rnn e1 (fun p2 q e2 => ?_)
    clear e1
    subst q
    refine X.iald dX12_judged_201 e2 (fun v3 e3 => ?_)
    clear e2
    refine X.icmp_ge (tgt := 250) dX12_judged_202 (by decide) e3 (fun e4 => ?_) (fun e4 => ?_)
    · clear e3
      refine Ok.aload_n dX12_judged_250 rfl ?_
      refine X.rck e4 (fun c fs hb hc e5 => ?_)
      clear e4
      obtain rfl := List.mem_singleton.mp hc
      refine X.callV (My := mX12_over) (n := 0) (As := []) (T := (fun v => none)) (stk' := (fun _ => [])) (rest := []) (kc' := 0) (ks' := 0) dX12_judged_251 e5 (fun v h n e => k_X12_over (d := d + 69) e) hb rfl wd1286 wd80 wd1285 wd39 wd1283 (by decide +kernel) rfl (by decide) rfl rfl (Nat.le_of_ble_eq_true rfl) (Nat.le_of_ble_eq_true rfl) (Nat.le_of_ble_eq_true rfl) rfl rfl (fun _ => rfl) (fun _ h5 n6 e6 => ?_)
      clear e5
      refine X.iinc dX12_judged_254 rfl (by decide) (by decide +kernel) e6 (L := fun v7 => [some (.ref l0), some (.int l1), some (.int l2), some (.int l3), some (.int v7), some (.int l5), some (.int l6)]) (fun _ => rfl) (fun v7 e7 => ?_)
      clear e6
      refine Ok.goto (tgt := 106) dX12_judged_257 (by decide) ?_
      exact Ok.weakL (K106 e7) ⟨rfl, ⟨rfl, ⟨rfl, ⟨rfl, ⟨rfl, trivial⟩⟩⟩⟩⟩
    · clear e3
      refine Ok.iload dX12_judged_205 rfl ?_
      refine Ok.iload dX12_judged_207 rfl ?_
      refine Ok.ishr dX12_judged_209 ?_
      refine Ok.iconstV (v := (nI 1)) dX12_judged_210 (by decide +kernel) ?_
      refine Ok.iand dX12_judged_211 ?_
      refine Ok.iconstV (v := (nI 1)) dX12_judged_212 (by decide +kernel) ?_
      refine X.icmp_ne (tgt := 244) dX12_judged_213 (by decide) e4 (fun e5 => ?_) (fun e5 => ?_)
      · clear e4
        exact Ok.weakL (k_X12_judged_244 (d := d) K106 K194 e5) ⟨rfl, ⟨rfl, ⟨rfl, ⟨rfl, ⟨rfl, ⟨rfl, ⟨rfl, trivial⟩⟩⟩⟩⟩⟩⟩
      · clear e4
        refine Ok.aload_n dX12_judged_216 rfl ?_
        refine Ok.iload dX12_judged_217 rfl ?_
        refine Ok.aload_n dX12_judged_219 rfl ?_
        refine X.rgfR fl_RX12_9 dX12_judged_220 e5 (fun v8 e6 => ?_)
        clear e5
        refine Ok.sipushV (v := (nI 1034)) dX12_judged_223 (by decide +kernel) ?_
        refine Ok.iload dX12_judged_226 rfl ?_
        refine Ok.iadd dX12_judged_228 ?_
        refine X.rnn e6 (fun p9 q e7 => ?_)
        clear e6
        subst q
        refine X.iald dX12_judged_229 e7 (fun v10 e8 => ?_)
        clear e7
        refine Ok.ldc_w (v := (nI 500000)) dX12_judged_230 wd1442 ?_
        refine X.icmp_lt (tgt := 240) dX12_judged_233 (by decide) e8 (fun e9 => ?_) (fun e9 => ?_)
        · clear e8
          refine Ok.iconstV (v := (nI 0)) dX12_judged_240 (by decide +kernel) ?_
          exact Ok.weakL (k_X12_judged_241 (d := d) K106 K194 e9) ⟨rfl, ⟨rfl, ⟨rfl, ⟨rfl, ⟨rfl, ⟨rfl, ⟨rfl, trivial⟩⟩⟩⟩⟩⟩⟩
        · clear e8
          refine Ok.iconstV (v := (nI 1)) dX12_judged_236 (by decide +kernel) ?_
          refine Ok.goto (tgt := 241) dX12_judged_237 (by decide) ?_
          exact Ok.weakL (k_X12_judged_241 (d := d) K106 K194 e9) ⟨rfl, ⟨rfl, ⟨rfl, ⟨rfl, ⟨rfl, ⟨rfl, ⟨rfl, trivial⟩⟩⟩⟩⟩⟩⟩
noncomputable def F_X12_judged_184 (G : Gx) (k106 : Hp → Nat → Nat → Int32 → Int32 → Int32 → Int32 → Rz Int32) (k137 : Hp → Nat → Nat → Int32 → Int32 → Int32 → Int32 → Int32 → Int32 → Rz Int32) (h : Hp) (nx : Nat) (s0 : Int32) (l0 : Nat) (l1 : Int32) (l2 : Int32) (l4 : Int32) (l5 : Int32) (l6 : Int32) : Rz Int32 :=
nm (l6 + (nI 1)) (fun v1 =>
(k137 h nx l0 l1 l2 s0 l4 l5 v1))
set_option maxRecDepth 100000 in
set_option maxHeartbeats 4000000 in
theorem k_X12_judged_184 {G : Gx} {d : Nat} {v' : Int32} {h' : Hp} {n' : Nat} {k106 : Hp → Nat → Nat → Int32 → Int32 → Int32 → Int32 → Rz Int32} (K106 : ∀ {h : Hp} {nx : Nat} {l0 : Nat} {l1 : Int32} {l2 : Int32} {l3 : Int32} {l4 : Int32}, k106 h nx l0 l1 l2 l3 l4 = some (v', h', n') → Ok G mX12_judged (d + 73) (Same (some (.int v')) h' n') 106 [some (.ref l0), some (.int l1), some (.int l2), some (.int l3), some (.int l4), none, none] [] h nx 0 0) {k137 : Hp → Nat → Nat → Int32 → Int32 → Int32 → Int32 → Int32 → Int32 → Rz Int32} (K137 : ∀ {h : Hp} {nx : Nat} {l0 : Nat} {l1 : Int32} {l2 : Int32} {l3 : Int32} {l4 : Int32} {l5 : Int32} {l6 : Int32}, k137 h nx l0 l1 l2 l3 l4 l5 l6 = some (v', h', n') → Ok G mX12_judged (d + 73) (Same (some (.int v')) h' n') 137 [some (.ref l0), some (.int l1), some (.int l2), some (.int l3), some (.int l4), some (.int l5), some (.int l6)] [] h nx 0 0) {h : Hp} {nx : Nat} {s0 : Int32} {l0 : Nat} {l1 : Int32} {l2 : Int32} {l4 : Int32} {l5 : Int32} {l6 : Int32} (e : F_X12_judged_184 G k106 k137 h nx s0 l0 l1 l2 l4 l5 l6 = some (v', h', n')) : Ok G mX12_judged (d + 73) (Same (some (.int v')) h' n') 184 [some (.ref l0), some (.int l1), some (.int l2), none, some (.int l4), some (.int l5), some (.int l6)] [.int s0] h nx 0 0 := by
  unfold F_X12_judged_184 at e
  refine XL.istore_n dX12_judged_184 (by decide) (L := [some (.ref l0), some (.int l1), some (.int l2), some (.int s0), some (.int l4), some (.int l5), some (.int l6)]) rfl ?_
  refine X.iinc dX12_judged_185 rfl (by decide) (by decide +kernel) e (L := fun v1 => [some (.ref l0), some (.int l1), some (.int l2), some (.int s0), some (.int l4), some (.int l5), some (.int v1)]) (fun _ => rfl) (fun v1 e1 => ?_)
  clear e
  refine Ok.goto (tgt := 137) dX12_judged_188 (by decide) ?_
  exact Ok.weakL (K137 e1) ⟨rfl, ⟨rfl, ⟨rfl, ⟨rfl, ⟨rfl, ⟨rfl, ⟨rfl, trivial⟩⟩⟩⟩⟩⟩⟩
noncomputable def F_X12_judged_183 (G : Gx) (k106 : Hp → Nat → Nat → Int32 → Int32 → Int32 → Int32 → Rz Int32) (k137 : Hp → Nat → Nat → Int32 → Int32 → Int32 → Int32 → Int32 → Int32 → Rz Int32) (h : Hp) (nx : Nat) (l0 : Nat) (l1 : Int32) (l2 : Int32) (l3 : Int32) (l4 : Int32) (l5 : Int32) (l6 : Int32) : Rz Int32 :=
(F_X12_judged_184 G k106 k137 h nx l3 l0 l1 l2 l4 l5 l6)
set_option maxRecDepth 100000 in
set_option maxHeartbeats 4000000 in
theorem k_X12_judged_183 {G : Gx} {d : Nat} {v' : Int32} {h' : Hp} {n' : Nat} {k106 : Hp → Nat → Nat → Int32 → Int32 → Int32 → Int32 → Rz Int32} (K106 : ∀ {h : Hp} {nx : Nat} {l0 : Nat} {l1 : Int32} {l2 : Int32} {l3 : Int32} {l4 : Int32}, k106 h nx l0 l1 l2 l3 l4 = some (v', h', n') → Ok G mX12_judged (d + 73) (Same (some (.int v')) h' n') 106 [some (.ref l0), some (.int l1), some (.int l2), some (.int l3), some (.int l4), none, none] [] h nx 0 0) {k137 : Hp → Nat → Nat → Int32 → Int32 → Int32 → Int32 → Int32 → Int32 → Rz Int32} (K137 : ∀ {h : Hp} {nx : Nat} {l0 : Nat} {l1 : Int32} {l2 : Int32} {l3 : Int32} {l4 : Int32} {l5 : Int32} {l6 : Int32}, k137 h nx l0 l1 l2 l3 l4 l5 l6 = some (v', h', n') → Ok G mX12_judged (d + 73) (Same (some (.int v')) h' n') 137 [some (.ref l0), some (.int l1), some (.int l2), some (.int l3), some (.int l4), some (.int l5), some (.int l6)] [] h nx 0 0) {h : Hp} {nx : Nat} {l0 : Nat} {l1 : Int32} {l2 : Int32} {l3 : Int32} {l4 : Int32} {l5 : Int32} {l6 : Int32} (e : F_X12_judged_183 G k106 k137 h nx l0 l1 l2 l3 l4 l5 l6 = some (v', h', n')) : Ok G mX12_judged (d + 73) (Same (some (.int v')) h' n') 183 [some (.ref l0), some (.int l1), some (.int l2), some (.int l3), some (.int l4), some (.int l5), some (.int l6)] [] h nx 0 0 := by
  unfold F_X12_judged_183 at e
  refine Ok.iload_n dX12_judged_183 rfl ?_
  exact Ok.weakL (k_X12_judged_184 (d := d) K106 K137 e) ⟨rfl, ⟨rfl, ⟨rfl, ⟨rfl, ⟨rfl, ⟨rfl, trivial⟩⟩⟩⟩⟩⟩
noncomputable def F_X12_judged_137 (G : Gx) (k106 : Hp → Nat → Nat → Int32 → Int32 → Int32 → Int32 → Rz Int32) : Nat → Hp → Nat → Nat → Int32 → Int32 → Int32 → Int32 → Int32 → Int32 → Rz Int32 := fun n => Nat.rec (motive := fun _ => Hp → Nat → Nat → Int32 → Int32 → Int32 → Int32 → Int32 → Int32 → Rz Int32) (fun _ _ _ _ _ _ _ _ _ => none) (fun _ k137 => fun h nx l0 l1 l2 l3 l4 l5 l6 =>
gfR h l0 [12] 1 (fun v1 =>
nn v1 (fun p2 =>
alI (g_c G 0) h p2 (nI 1) (fun v3 =>
if (((nI 1) <<< (v3 &&& 31))) ≤ l6 then
(F_X12_judged_194 G k106 fuelL h nx l0 l1 l2 l3 l4 l5 (nI 0))
else
cl (F_X12_count1 G h nx l6) (fun r4 h5 n6 =>
ck h5 l0 [12] (fun _ =>
cl (F_X12_looking G h5 n6 l0) (fun r7 h8 n9 =>
if r4 = r7 then
ck h8 l0 [12] (fun _ =>
cl (F_X12_doubt G h8 n9 l0 l6) (fun r10 h11 n12 =>
ck h11 l0 [12] (fun _ =>
cl (F_X12_doubt G h11 n12 l0 l5) (fun r13 h14 n15 =>
if ((lg_cmp r10 r13)) ≤ 0 then
(F_X12_judged_183 G k106 k137 h14 n15 l0 l1 l2 l3 l4 l5 l6)
else
(F_X12_judged_184 G k106 k137 h14 n15 l4 l0 l1 l2 l4 l5 l6)))))
else
(F_X12_judged_183 G k106 k137 h8 n9 l0 l1 l2 l3 l4 l5 l6)))))))) n
theorem F_X12_judged_137_0 {G : Gx} (k106 : Hp → Nat → Nat → Int32 → Int32 → Int32 → Int32 → Rz Int32) {h : Hp} {nx : Nat} {l0 : Nat} {l1 : Int32} {l2 : Int32} {l3 : Int32} {l4 : Int32} {l5 : Int32} {l6 : Int32} : F_X12_judged_137 G k106 0 h nx l0 l1 l2 l3 l4 l5 l6 = none := rfl
theorem F_X12_judged_137_s {G : Gx} (k106 : Hp → Nat → Nat → Int32 → Int32 → Int32 → Int32 → Rz Int32) {n : Nat} {h : Hp} {nx : Nat} {l0 : Nat} {l1 : Int32} {l2 : Int32} {l3 : Int32} {l4 : Int32} {l5 : Int32} {l6 : Int32} : F_X12_judged_137 G k106 (n + 1) h nx l0 l1 l2 l3 l4 l5 l6 = (
gfR h l0 [12] 1 (fun v1 =>
nn v1 (fun p2 =>
alI (g_c G 0) h p2 (nI 1) (fun v3 =>
if (((nI 1) <<< (v3 &&& 31))) ≤ l6 then
(F_X12_judged_194 G k106 fuelL h nx l0 l1 l2 l3 l4 l5 (nI 0))
else
cl (F_X12_count1 G h nx l6) (fun r4 h5 n6 =>
ck h5 l0 [12] (fun _ =>
cl (F_X12_looking G h5 n6 l0) (fun r7 h8 n9 =>
if r4 = r7 then
ck h8 l0 [12] (fun _ =>
cl (F_X12_doubt G h8 n9 l0 l6) (fun r10 h11 n12 =>
ck h11 l0 [12] (fun _ =>
cl (F_X12_doubt G h11 n12 l0 l5) (fun r13 h14 n15 =>
if ((lg_cmp r10 r13)) ≤ 0 then
(F_X12_judged_183 G k106 (F_X12_judged_137 G k106 n) h14 n15 l0 l1 l2 l3 l4 l5 l6)
else
(F_X12_judged_184 G k106 (F_X12_judged_137 G k106 n) h14 n15 l4 l0 l1 l2 l4 l5 l6)))))
else
(F_X12_judged_183 G k106 (F_X12_judged_137 G k106 n) h8 n9 l0 l1 l2 l3 l4 l5 l6)))))))) := rfl
set_option maxRecDepth 100000 in
set_option maxHeartbeats 4000000 in
theorem k_X12_judged_137 {G : Gx} {d : Nat} {v' : Int32} {h' : Hp} {n' : Nat} {k106 : Hp → Nat → Nat → Int32 → Int32 → Int32 → Int32 → Rz Int32} (K106 : ∀ {h : Hp} {nx : Nat} {l0 : Nat} {l1 : Int32} {l2 : Int32} {l3 : Int32} {l4 : Int32}, k106 h nx l0 l1 l2 l3 l4 = some (v', h', n') → Ok G mX12_judged (d + 73) (Same (some (.int v')) h' n') 106 [some (.ref l0), some (.int l1), some (.int l2), some (.int l3), some (.int l4), none, none] [] h nx 0 0) : ∀ (n : Nat) {h : Hp} {nx : Nat} {l0 : Nat} {l1 : Int32} {l2 : Int32} {l3 : Int32} {l4 : Int32} {l5 : Int32} {l6 : Int32}, F_X12_judged_137 G k106 n h nx l0 l1 l2 l3 l4 l5 l6 = some (v', h', n') → Ok G mX12_judged (d + 73) (Same (some (.int v')) h' n') 137 [some (.ref l0), some (.int l1), some (.int l2), some (.int l3), some (.int l4), some (.int l5), some (.int l6)] [] h nx 0 0 := by
  intro n
  induction n with
  | zero =>
    intro h nx l0 l1 l2 l3 l4 l5 l6 e
    rw [F_X12_judged_137_0] at e
    cases e
  | succ n K137 =>
    intro h nx l0 l1 l2 l3 l4 l5 l6 e
    rw [F_X12_judged_137_s] at e
    refine Ok.iload dX12_judged_137 rfl ?_
    refine Ok.iconstV (v := (nI 1)) dX12_judged_139 (by decide +kernel) ?_
    refine Ok.aload_n dX12_judged_140 rfl ?_
    refine X.rgfR fl_RX12_9 dX12_judged_141 e (fun v1 e1 => ?_)
    clear e
    refine Ok.iconstV (v := (nI 1)) dX12_judged_144 (by decide +kernel) ?_
    refine X.rnn e1 (fun p2 q e2 => ?_)
    clear e1
    subst q
    refine X.iald dX12_judged_145 e2 (fun v3 e3 => ?_)
    clear e2
    refine Ok.ishl dX12_judged_146 ?_
    refine X.icmp_ge (tgt := 191) dX12_judged_147 (by decide) e3 (fun e4 => ?_) (fun e4 => ?_)
    · clear e3
      refine Ok.iconstV (v := (nI 0)) dX12_judged_191 (by decide +kernel) ?_
      refine XL.istore dX12_judged_192 (by decide) (L := [some (.ref l0), some (.int l1), some (.int l2), some (.int l3), some (.int l4), some (.int l5), some (.int (nI 0))]) rfl ?_
      exact Ok.weakL (k_X12_judged_194 (d := d) K106 fuelL e4) ⟨rfl, ⟨rfl, ⟨rfl, ⟨rfl, ⟨rfl, ⟨rfl, ⟨rfl, trivial⟩⟩⟩⟩⟩⟩⟩
    · clear e3
      refine Ok.iload dX12_judged_150 rfl ?_
      refine X.callS (My := mX12_count1) (n := 1) (As := [.int l6]) (T := (fun v => (some (.int v)))) (stk' := (fun v => [.int v])) (rest := []) (kc' := 0) (ks' := 0) dX12_judged_152 e4 (fun v h n e => k_X12_count1 (d := d + 72) e) wd1387 wd80 wd1386 wd1385 (by decide +kernel) rfl (by decide) rfl rfl (Nat.le_of_ble_eq_true rfl) (Nat.le_of_ble_eq_true rfl) (Nat.le_of_ble_eq_true rfl) rfl rfl (fun _ => rfl) (fun r4 h5 n6 e5 => ?_)
      clear e4
      refine Ok.aload_n dX12_judged_155 rfl ?_
      refine X.rck e5 (fun c fs hb hc e6 => ?_)
      clear e5
      obtain rfl := List.mem_singleton.mp hc
      refine X.callV (My := mX12_looking) (n := 0) (As := []) (T := (fun v => (some (.int v)))) (stk' := (fun v => [.int v, .int r4])) (rest := [.int r4]) (kc' := 0) (ks' := 0) dX12_judged_156 e6 (fun v h n e => k_X12_looking (d := d + 72) e) hb rfl wd1376 wd80 wd1375 wd52 wd1373 (by decide +kernel) rfl (by decide) rfl rfl (Nat.le_of_ble_eq_true rfl) (Nat.le_of_ble_eq_true rfl) (Nat.le_of_ble_eq_true rfl) rfl rfl (fun _ => rfl) (fun r7 h8 n9 e7 => ?_)
      clear e6
      refine X.icmp_ne (tgt := 183) dX12_judged_159 (by decide) e7 (fun e8 => ?_) (fun e8 => ?_)
      · clear e7
        exact Ok.weakL (k_X12_judged_183 (d := d) K106 K137 e8) ⟨rfl, ⟨rfl, ⟨rfl, ⟨rfl, ⟨rfl, ⟨rfl, ⟨rfl, trivial⟩⟩⟩⟩⟩⟩⟩
      · clear e7
        refine Ok.aload_n dX12_judged_162 rfl ?_
        refine Ok.iload dX12_judged_163 rfl ?_
        refine X.rck e8 (fun c fs hb hc e9 => ?_)
        clear e8
        obtain rfl := List.mem_singleton.mp hc
        refine X.callV (My := mX12_doubt) (n := 1) (As := [.int l6]) (T := (fun v => (some (.long v)))) (stk' := (fun v => [.long v])) (rest := []) (kc' := 0) (ks' := 0) dX12_judged_165 e9 (fun v h n e => k_X12_doubt (d := d + 72) e) hb rfl wd1441 wd80 wd1440 wd62 wd1438 (by decide +kernel) rfl (by decide) rfl rfl (Nat.le_of_ble_eq_true rfl) (Nat.le_of_ble_eq_true rfl) (Nat.le_of_ble_eq_true rfl) rfl rfl (fun _ => rfl) (fun r10 h11 n12 e10 => ?_)
        clear e9
        refine Ok.aload_n dX12_judged_168 rfl ?_
        refine Ok.iload dX12_judged_169 rfl ?_
        refine X.rck e10 (fun c fs hb hc e11 => ?_)
        clear e10
        obtain rfl := List.mem_singleton.mp hc
        refine X.callV (My := mX12_doubt) (n := 1) (As := [.int l5]) (T := (fun v => (some (.long v)))) (stk' := (fun v => [.long v, .long r10])) (rest := [.long r10]) (kc' := 0) (ks' := 0) dX12_judged_171 e11 (fun v h n e => k_X12_doubt (d := d + 72) e) hb rfl wd1441 wd80 wd1440 wd62 wd1438 (by decide +kernel) rfl (by decide) rfl rfl (Nat.le_of_ble_eq_true rfl) (Nat.le_of_ble_eq_true rfl) (Nat.le_of_ble_eq_true rfl) rfl rfl (fun _ => rfl) (fun r13 h14 n15 e12 => ?_)
        clear e11
        refine Ok.lcmp dX12_judged_174 ?_
        refine X.if_le (tgt := 183) dX12_judged_175 (by decide) e12 (fun e13 => ?_) (fun e13 => ?_)
        · clear e12
          exact Ok.weakL (k_X12_judged_183 (d := d) K106 K137 e13) ⟨rfl, ⟨rfl, ⟨rfl, ⟨rfl, ⟨rfl, ⟨rfl, ⟨rfl, trivial⟩⟩⟩⟩⟩⟩⟩
        · clear e12
          refine Ok.iload dX12_judged_178 rfl ?_
          refine Ok.goto (tgt := 184) dX12_judged_180 (by decide) ?_
          exact Ok.weakL (k_X12_judged_184 (d := d) K106 K137 e13) ⟨rfl, ⟨rfl, ⟨rfl, ⟨rfl, ⟨rfl, ⟨rfl, trivial⟩⟩⟩⟩⟩⟩
noncomputable def F_X12_judged_106 (G : Gx) : Nat → Hp → Nat → Nat → Int32 → Int32 → Int32 → Int32 → Rz Int32 := fun n => Nat.rec (motive := fun _ => Hp → Nat → Nat → Int32 → Int32 → Int32 → Int32 → Rz Int32) (fun _ _ _ _ _ _ _ => none) (fun _ k106 => fun h nx l0 l1 l2 l3 l4 =>
if l2 ≤ l4 then
(F_X12_judged_260 G h nx l0 l3)
else
if l3 = (-5 : Int32) then
gfR h l0 [12] 1 (fun v1 =>
nn v1 (fun p2 =>
alI (g_c G 0) h p2 (nI 3) (fun v3 =>
ck h l0 [12] (fun _ =>
cl (F_X12_whomOn G h nx l0 l1 ((v3 + l4))) (fun r4 h5 n6 =>
(F_X12_judged_137 G k106 fuelL h5 n6 l0 l1 l2 l3 l4 r4 (nI 0)))))))
else
(F_X12_judged_260 G h nx l0 l3)) n
theorem F_X12_judged_106_0 {G : Gx} {h : Hp} {nx : Nat} {l0 : Nat} {l1 : Int32} {l2 : Int32} {l3 : Int32} {l4 : Int32} : F_X12_judged_106 G 0 h nx l0 l1 l2 l3 l4 = none := rfl
theorem F_X12_judged_106_s {G : Gx} {n : Nat} {h : Hp} {nx : Nat} {l0 : Nat} {l1 : Int32} {l2 : Int32} {l3 : Int32} {l4 : Int32} : F_X12_judged_106 G (n + 1) h nx l0 l1 l2 l3 l4 = (
if l2 ≤ l4 then
(F_X12_judged_260 G h nx l0 l3)
else
if l3 = (-5 : Int32) then
gfR h l0 [12] 1 (fun v1 =>
nn v1 (fun p2 =>
alI (g_c G 0) h p2 (nI 3) (fun v3 =>
ck h l0 [12] (fun _ =>
cl (F_X12_whomOn G h nx l0 l1 ((v3 + l4))) (fun r4 h5 n6 =>
(F_X12_judged_137 G (F_X12_judged_106 G n) fuelL h5 n6 l0 l1 l2 l3 l4 r4 (nI 0)))))))
else
(F_X12_judged_260 G h nx l0 l3)) := rfl
set_option maxRecDepth 100000 in
set_option maxHeartbeats 4000000 in
theorem k_X12_judged_106 {G : Gx} {d : Nat} {v' : Int32} {h' : Hp} {n' : Nat} : ∀ (n : Nat) {h : Hp} {nx : Nat} {l0 : Nat} {l1 : Int32} {l2 : Int32} {l3 : Int32} {l4 : Int32}, F_X12_judged_106 G n h nx l0 l1 l2 l3 l4 = some (v', h', n') → Ok G mX12_judged (d + 73) (Same (some (.int v')) h' n') 106 [some (.ref l0), some (.int l1), some (.int l2), some (.int l3), some (.int l4), none, none] [] h nx 0 0 := by
  intro n
  induction n with
  | zero =>
    intro h nx l0 l1 l2 l3 l4 e
    rw [F_X12_judged_106_0] at e
    cases e
  | succ n K106 =>
    intro h nx l0 l1 l2 l3 l4 e
    rw [F_X12_judged_106_s] at e
    refine Ok.iload dX12_judged_106 rfl ?_
    refine Ok.iload_n dX12_judged_108 rfl ?_
    refine X.icmp_ge (tgt := 260) dX12_judged_109 (by decide) e (fun e1 => ?_) (fun e1 => ?_)
    · clear e
      exact Ok.weakL (k_X12_judged_260 (d := d) e1) ⟨rfl, ⟨rfl, trivial⟩⟩
    · clear e
      refine Ok.iload_n dX12_judged_112 rfl ?_
      refine Ok.bipushV (v := (-5 : Int32)) dX12_judged_113 (by decide +kernel) ?_
      refine X.icmp_ne (tgt := 260) dX12_judged_115 (by decide) e1 (fun e2 => ?_) (fun e2 => ?_)
      · clear e1
        exact Ok.weakL (k_X12_judged_260 (d := d) e2) ⟨rfl, ⟨rfl, trivial⟩⟩
      · clear e1
        refine Ok.aload_n dX12_judged_118 rfl ?_
        refine Ok.iload_n dX12_judged_119 rfl ?_
        refine Ok.aload_n dX12_judged_120 rfl ?_
        refine X.rgfR fl_RX12_9 dX12_judged_121 e2 (fun v1 e3 => ?_)
        clear e2
        refine Ok.iconstV (v := (nI 3)) dX12_judged_124 (by decide +kernel) ?_
        refine X.rnn e3 (fun p2 q e4 => ?_)
        clear e3
        subst q
        refine X.iald dX12_judged_125 e4 (fun v3 e5 => ?_)
        clear e4
        refine Ok.iload dX12_judged_126 rfl ?_
        refine Ok.iadd dX12_judged_128 ?_
        refine X.rck e5 (fun c fs hb hc e6 => ?_)
        clear e5
        obtain rfl := List.mem_singleton.mp hc
        refine X.callV (My := mX12_whomOn) (n := 2) (As := [.int l1, .int ((v3 + l4))]) (T := (fun v => (some (.int v)))) (stk' := (fun v => [.int v])) (rest := []) (kc' := 0) (ks' := 0) dX12_judged_129 e6 (fun v h n e => k_X12_whomOn (d := d + 0) e) hb rfl wd1372 wd80 wd1371 wd51 wd1369 (by decide +kernel) rfl (by decide) rfl rfl (Nat.le_of_ble_eq_true rfl) (Nat.le_of_ble_eq_true rfl) (Nat.le_of_ble_eq_true rfl) rfl rfl (fun _ => rfl) (fun r4 h5 n6 e7 => ?_)
        clear e6
        refine XL.istore dX12_judged_132 (by decide) (L := [some (.ref l0), some (.int l1), some (.int l2), some (.int l3), some (.int l4), some (.int r4), none]) rfl ?_
        refine Ok.iconstV (v := (nI 0)) dX12_judged_134 (by decide +kernel) ?_
        refine XL.istore dX12_judged_135 (by decide) (L := [some (.ref l0), some (.int l1), some (.int l2), some (.int l3), some (.int l4), some (.int r4), some (.int (nI 0))]) rfl ?_
        exact Ok.weakL (k_X12_judged_137 (d := d) K106 fuelL e7) ⟨rfl, ⟨rfl, ⟨rfl, ⟨rfl, ⟨rfl, ⟨rfl, ⟨rfl, trivial⟩⟩⟩⟩⟩⟩⟩
noncomputable def F_X12_judged_56 (G : Gx) : Nat → Hp → Nat → Nat → Int32 → Int32 → Int32 → Rz Int32 := fun n => Nat.rec (motive := fun _ => Hp → Nat → Nat → Int32 → Int32 → Int32 → Rz Int32) (fun _ _ _ _ _ _ => none) (fun _ k56 => fun h nx l0 l1 l2 l3 =>
if (nI 8) ≤ l3 then
(F_X12_judged_106 G fuelL h nx l0 l1 l2 (-5 : Int32) (nI 0))
else
gfR h l0 [12] 22 (fun v1 =>
gfR h l0 [12] 1 (fun v2 =>
nn v2 (fun p3 =>
alI (g_c G 0) h p3 (((nI 1034) + l3)) (fun v4 =>
nn v1 (fun p5 =>
asI (g_c G 0) id h p5 l3 v4 (fun h6 =>
gfR h6 l0 [12] 23 (fun v7 =>
gfR h6 l0 [12] 1 (fun v8 =>
nn v8 (fun p9 =>
alI (g_c G 0) h6 p9 (((nI 1042) + l3)) (fun v10 =>
nn v7 (fun p11 =>
asI (g_c G 0) id h6 p11 l3 v10 (fun h12 =>
nm (l3 + (nI 1)) (fun v13 =>
(k56 h12 nx l0 l1 l2 v13))))))))))))))) n
theorem F_X12_judged_56_0 {G : Gx} {h : Hp} {nx : Nat} {l0 : Nat} {l1 : Int32} {l2 : Int32} {l3 : Int32} : F_X12_judged_56 G 0 h nx l0 l1 l2 l3 = none := rfl
theorem F_X12_judged_56_s {G : Gx} {n : Nat} {h : Hp} {nx : Nat} {l0 : Nat} {l1 : Int32} {l2 : Int32} {l3 : Int32} : F_X12_judged_56 G (n + 1) h nx l0 l1 l2 l3 = (
if (nI 8) ≤ l3 then
(F_X12_judged_106 G fuelL h nx l0 l1 l2 (-5 : Int32) (nI 0))
else
gfR h l0 [12] 22 (fun v1 =>
gfR h l0 [12] 1 (fun v2 =>
nn v2 (fun p3 =>
alI (g_c G 0) h p3 (((nI 1034) + l3)) (fun v4 =>
nn v1 (fun p5 =>
asI (g_c G 0) id h p5 l3 v4 (fun h6 =>
gfR h6 l0 [12] 23 (fun v7 =>
gfR h6 l0 [12] 1 (fun v8 =>
nn v8 (fun p9 =>
alI (g_c G 0) h6 p9 (((nI 1042) + l3)) (fun v10 =>
nn v7 (fun p11 =>
asI (g_c G 0) id h6 p11 l3 v10 (fun h12 =>
nm (l3 + (nI 1)) (fun v13 =>
((F_X12_judged_56 G n) h12 nx l0 l1 l2 v13))))))))))))))) := rfl
set_option maxRecDepth 100000 in
set_option maxHeartbeats 4000000 in
theorem k_X12_judged_56 {G : Gx} {d : Nat} {v' : Int32} {h' : Hp} {n' : Nat} : ∀ (n : Nat) {h : Hp} {nx : Nat} {l0 : Nat} {l1 : Int32} {l2 : Int32} {l3 : Int32}, F_X12_judged_56 G n h nx l0 l1 l2 l3 = some (v', h', n') → Ok G mX12_judged (d + 73) (Same (some (.int v')) h' n') 56 [some (.ref l0), some (.int l1), some (.int l2), some (.int l3), none, none, none] [] h nx 0 0 := by
  intro n
  induction n with
  | zero =>
    intro h nx l0 l1 l2 l3 e
    rw [F_X12_judged_56_0] at e
    cases e
  | succ n K56 =>
    intro h nx l0 l1 l2 l3 e
    rw [F_X12_judged_56_s] at e
    refine Ok.iload_n dX12_judged_56 rfl ?_
    refine Ok.bipushV (v := (nI 8)) dX12_judged_57 (by decide +kernel) ?_
    refine X.icmp_ge (tgt := 100) dX12_judged_59 (by decide) e (fun e1 => ?_) (fun e1 => ?_)
    · clear e
      refine Ok.bipushV (v := (-5 : Int32)) dX12_judged_100 (by decide +kernel) ?_
      refine XL.istore_n dX12_judged_102 (by decide) (L := [some (.ref l0), some (.int l1), some (.int l2), some (.int (-5 : Int32)), none, none, none]) rfl ?_
      refine Ok.iconstV (v := (nI 0)) dX12_judged_103 (by decide +kernel) ?_
      refine XL.istore dX12_judged_104 (by decide) (L := [some (.ref l0), some (.int l1), some (.int l2), some (.int (-5 : Int32)), some (.int (nI 0)), none, none]) rfl ?_
      exact Ok.weakL (k_X12_judged_106 (d := d) fuelL e1) ⟨rfl, ⟨rfl, ⟨rfl, ⟨rfl, ⟨rfl, trivial⟩⟩⟩⟩⟩
    · clear e
      refine Ok.aload_n dX12_judged_62 rfl ?_
      refine X.rgfR fl_RX12_48 dX12_judged_63 e1 (fun v1 e2 => ?_)
      clear e1
      refine Ok.iload_n dX12_judged_66 rfl ?_
      refine Ok.aload_n dX12_judged_67 rfl ?_
      refine X.rgfR fl_RX12_9 dX12_judged_68 e2 (fun v2 e3 => ?_)
      clear e2
      refine Ok.sipushV (v := (nI 1034)) dX12_judged_71 (by decide +kernel) ?_
      refine Ok.iload_n dX12_judged_74 rfl ?_
      refine Ok.iadd dX12_judged_75 ?_
      refine X.rnn e3 (fun p3 q e4 => ?_)
      clear e3
      subst q
      refine X.iald dX12_judged_76 e4 (fun v4 e5 => ?_)
      clear e4
      refine X.rnn e5 (fun p5 q e6 => ?_)
      clear e5
      subst q
      refine X.iast dX12_judged_77 e6 (fun h6 e7 => ?_)
      clear e6
      refine Ok.aload_n dX12_judged_78 rfl ?_
      refine X.rgfR fl_RX12_51 dX12_judged_79 e7 (fun v7 e8 => ?_)
      clear e7
      refine Ok.iload_n dX12_judged_82 rfl ?_
      refine Ok.aload_n dX12_judged_83 rfl ?_
      refine X.rgfR fl_RX12_9 dX12_judged_84 e8 (fun v8 e9 => ?_)
      clear e8
      refine Ok.sipushV (v := (nI 1042)) dX12_judged_87 (by decide +kernel) ?_
      refine Ok.iload_n dX12_judged_90 rfl ?_
      refine Ok.iadd dX12_judged_91 ?_
      refine X.rnn e9 (fun p9 q e10 => ?_)
      clear e9
      subst q
      refine X.iald dX12_judged_92 e10 (fun v10 e11 => ?_)
      clear e10
      refine X.rnn e11 (fun p11 q e12 => ?_)
      clear e11
      subst q
      refine X.iast dX12_judged_93 e12 (fun h12 e13 => ?_)
      clear e12
      refine X.iinc dX12_judged_94 rfl (by decide) (by decide +kernel) e13 (L := fun v13 => [some (.ref l0), some (.int l1), some (.int l2), some (.int v13), none, none, none]) (fun _ => rfl) (fun v13 e14 => ?_)
      clear e13
      refine Ok.goto (tgt := 56) dX12_judged_97 (by decide) ?_
      exact Ok.weakL (K56 e14) ⟨rfl, ⟨rfl, ⟨rfl, ⟨rfl, trivial⟩⟩⟩⟩
noncomputable def F_X12_judged (G : Gx) (h : Hp) (nx : Nat) (a0 : Nat) (a1 : Int32) (a2 : Int32) : Rz Int32 :=
ck h a0 [12] (fun _ =>
cl (F_X12_isPlan G h nx a0 a1) (fun r1 h2 n3 =>
if r1 = 0 then
some ((-1 : Int32), h2, n3)
else
cl (F_X12_in G h2 n3 a2 (nI 1) (nI 10)) (fun r4 h5 n6 =>
if r4 = 0 then
some ((-2 : Int32), h5, n6)
else
gfR h5 a0 [12] 1 (fun v7 =>
nn v7 (fun p8 =>
alI (g_c G 0) h5 p8 (((nI 1070) + a1)) (fun v9 =>
if v9 = (nI 6) then
gfR h5 a0 [12] 1 (fun v10 =>
nn v10 (fun p11 =>
alI (g_c G 0) h5 p11 (((nI 1094) + a1)) (fun v12 =>
if v12 = 0 then
(F_X12_judged_51 G h5 n6)
else
(F_X12_judged_56 G fuelL h5 n6 a0 a1 a2 (nI 0)))))
else
(F_X12_judged_51 G h5 n6)))))))
set_option maxRecDepth 100000 in
set_option maxHeartbeats 4000000 in
theorem k_X12_judged {G : Gx} {d : Nat} {h : Hp} {nx : Nat} {a0 : Nat} {a1 : Int32} {a2 : Int32} {v' : Int32} {h' : Hp} {n' : Nat} (e : F_X12_judged G h nx a0 a1 a2 = some (v', h', n')) : Ct G mX12_judged (d + 73) (Same (some (.int v')) h' n') [.ref a0, .int a1, .int a2] h nx := by
  unfold F_X12_judged at e
  refine Ct.of (ls := [some (.ref a0), some (.int a1), some (.int a2), none, none, none, none]) (by decide +kernel) rfl (Nat.le_of_ble_eq_true rfl) rfl ?_
  refine Ok.aload_n dX12_judged_0 rfl ?_
  refine Ok.iload_n dX12_judged_1 rfl ?_
  refine X.rck e (fun c fs hb hc e1 => ?_)
  clear e
  obtain rfl := List.mem_singleton.mp hc
  refine X.callV (My := mX12_isPlan) (n := 1) (As := [.int a1]) (T := (fun v => (some (.int v)))) (stk' := (fun v => [.int v])) (rest := []) (kc' := 0) (ks' := 0) dX12_judged_2 e1 (fun v h n e => k_X12_isPlan (d := d + 71) e) hb rfl wd1364 wd80 wd1363 wd50 wd1361 (by decide +kernel) rfl (by decide) rfl rfl (Nat.le_of_ble_eq_true rfl) (Nat.le_of_ble_eq_true rfl) (Nat.le_of_ble_eq_true rfl) rfl rfl (fun _ => rfl) (fun r1 h2 n3 e2 => ?_)
  clear e1
  refine X.if_ne (tgt := 10) dX12_judged_5 (by decide) e2 (fun e3 => ?_) (fun e3 => ?_)
  · clear e2
    refine Ok.iload_n dX12_judged_10 rfl ?_
    refine Ok.iconstV (v := (nI 1)) dX12_judged_11 (by decide +kernel) ?_
    refine Ok.bipushV (v := (nI 10)) dX12_judged_12 (by decide +kernel) ?_
    refine X.callS (My := mX12_in) (n := 3) (As := [.int a2, .int (nI 1), .int (nI 10)]) (T := (fun v => (some (.int v)))) (stk' := (fun v => [.int v])) (rest := []) (kc' := 0) (ks' := 0) dX12_judged_14 e3 (fun v h n e => k_X12_in (d := d + 72) e) wd1196 wd80 wd1195 wd1194 (by decide +kernel) rfl (by decide) rfl rfl (Nat.le_of_ble_eq_true rfl) (Nat.le_of_ble_eq_true rfl) (Nat.le_of_ble_eq_true rfl) rfl rfl (fun _ => rfl) (fun r4 h5 n6 e4 => ?_)
    clear e3
    refine X.if_ne (tgt := 23) dX12_judged_17 (by decide) e4 (fun e5 => ?_) (fun e5 => ?_)
    · clear e4
      refine Ok.aload_n dX12_judged_23 rfl ?_
      refine X.rgfR fl_RX12_9 dX12_judged_24 e5 (fun v7 e6 => ?_)
      clear e5
      refine Ok.sipushV (v := (nI 1070)) dX12_judged_27 (by decide +kernel) ?_
      refine Ok.iload_n dX12_judged_30 rfl ?_
      refine Ok.iadd dX12_judged_31 ?_
      refine X.rnn e6 (fun p8 q e7 => ?_)
      clear e6
      subst q
      refine X.iald dX12_judged_32 e7 (fun v9 e8 => ?_)
      clear e7
      refine Ok.bipushV (v := (nI 6)) dX12_judged_33 (by decide +kernel) ?_
      refine X.icmp_ne (tgt := 51) dX12_judged_35 (by decide) e8 (fun e9 => ?_) (fun e9 => ?_)
      · clear e8
        exact Ok.weakL (k_X12_judged_51 (d := d) e9) trivial
      · clear e8
        refine Ok.aload_n dX12_judged_38 rfl ?_
        refine X.rgfR fl_RX12_9 dX12_judged_39 e9 (fun v10 e10 => ?_)
        clear e9
        refine Ok.sipushV (v := (nI 1094)) dX12_judged_42 (by decide +kernel) ?_
        refine Ok.iload_n dX12_judged_45 rfl ?_
        refine Ok.iadd dX12_judged_46 ?_
        refine X.rnn e10 (fun p11 q e11 => ?_)
        clear e10
        subst q
        refine X.iald dX12_judged_47 e11 (fun v12 e12 => ?_)
        clear e11
        refine X.if_ne (tgt := 54) dX12_judged_48 (by decide) e12 (fun e13 => ?_) (fun e13 => ?_)
        · clear e12
          refine Ok.iconstV (v := (nI 0)) dX12_judged_54 (by decide +kernel) ?_
          refine XL.istore_n dX12_judged_55 (by decide) (L := [some (.ref a0), some (.int a1), some (.int a2), some (.int (nI 0)), none, none, none]) rfl ?_
          exact Ok.weakL (k_X12_judged_56 (d := d) fuelL e13) ⟨rfl, ⟨rfl, ⟨rfl, ⟨rfl, trivial⟩⟩⟩⟩
        · clear e12
          exact Ok.weakL (k_X12_judged_51 (d := d) e13) trivial
    · clear e4
      refine Ok.bipushV (v := (-2 : Int32)) dX12_judged_20 (by decide +kernel) ?_
      exact X.iret dX12_judged_22 rfl (Nat.le_of_ble_eq_true rfl) (Nat.le_of_ble_eq_true rfl) e5
  · clear e2
    refine Ok.iconstV (v := (-1 : Int32)) dX12_judged_8 (by decide +kernel) ?_
    exact X.iret dX12_judged_9 rfl (Nat.le_of_ble_eq_true rfl) (Nat.le_of_ble_eq_true rfl) e3
noncomputable def F_X12_lookNow_89 (G : Gx) (h : Hp) (nx : Nat) (s0 : Option Nat) (s1 : Int32) (s2 : Int32) (l0 : Nat) (l1 : Int32) (l3 : Int32) : Rz Int64 :=
nn s0 (fun p1 =>
asI (g_c G 0) id h p1 s1 s2 (fun h2 =>
ck h2 l0 [12] (fun _ =>
cl (F_X12_value G h2 nx l0 l1 (nI 2)) (fun r3 h4 n5 =>
some ((((-1000 : Int64) * (((r3 + l3)).toInt64))), h4, n5)))))
set_option maxRecDepth 100000 in
set_option maxHeartbeats 4000000 in
theorem k_X12_lookNow_89 {G : Gx} {d : Nat} {v' : Int64} {h' : Hp} {n' : Nat} {h : Hp} {nx : Nat} {s0 : Option Nat} {s1 : Int32} {s2 : Int32} {l0 : Nat} {l1 : Int32} {l3 : Int32} (e : F_X12_lookNow_89 G h nx s0 s1 s2 l0 l1 l3 = some (v', h', n')) : Ok G mX12_lookNow (d + 2) (Same (some (.long v')) h' n') 89 [some (.ref l0), some (.int l1), none, some (.int l3)] [.int s2, .int s1, va_rf s0] h nx 0 0 := by
  unfold F_X12_lookNow_89 at e
  refine X.rnn e (fun p1 q e1 => ?_)
  clear e
  subst q
  refine X.iast dX12_lookNow_89 e1 (fun h2 e2 => ?_)
  clear e1
  refine Ok.ldc2_w (v := -1000) dX12_lookNow_90 wd1433 ?_
  refine Ok.aload_n dX12_lookNow_93 rfl ?_
  refine Ok.iload_n dX12_lookNow_94 rfl ?_
  refine Ok.iconstV (v := (nI 2)) dX12_lookNow_95 (by decide +kernel) ?_
  refine X.rck e2 (fun c fs hb hc e3 => ?_)
  clear e2
  obtain rfl := List.mem_singleton.mp hc
  refine X.callV (My := mX12_value) (n := 2) (As := [.int l1, .int (nI 2)]) (T := (fun v => (some (.int v)))) (stk' := (fun v => [.int v, .long (-1000 : Int64)])) (rest := [.long (-1000 : Int64)]) (kc' := 0) (ks' := 0) dX12_lookNow_96 e3 (fun v h n e => k_X12_value (d := d + 1) e) hb rfl wd1319 wd80 wd1318 wd44 wd1316 (by decide +kernel) rfl (by decide) rfl rfl (Nat.le_of_ble_eq_true rfl) (Nat.le_of_ble_eq_true rfl) (Nat.le_of_ble_eq_true rfl) rfl rfl (fun _ => rfl) (fun r3 h4 n5 e4 => ?_)
  clear e3
  refine Ok.iload_n dX12_lookNow_99 rfl ?_
  refine Ok.iadd dX12_lookNow_100 ?_
  refine Ok.i2l dX12_lookNow_101 ?_
  refine Ok.lmul dX12_lookNow_102 ?_
  exact X.lret dX12_lookNow_103 rfl (Nat.le_of_ble_eq_true rfl) (Nat.le_of_ble_eq_true rfl) e4
noncomputable def F_X12_lookNow_84 (G : Gx) (h : Hp) (nx : Nat) (s0 : Option Nat) (s1 : Int32) (l0 : Nat) (l1 : Int32) (l3 : Int32) : Rz Int64 :=
(F_X12_lookNow_89 G h nx s0 s1 (nI 1) l0 l1 l3)
set_option maxRecDepth 100000 in
set_option maxHeartbeats 4000000 in
theorem k_X12_lookNow_84 {G : Gx} {d : Nat} {v' : Int64} {h' : Hp} {n' : Nat} {h : Hp} {nx : Nat} {s0 : Option Nat} {s1 : Int32} {l0 : Nat} {l1 : Int32} {l3 : Int32} (e : F_X12_lookNow_84 G h nx s0 s1 l0 l1 l3 = some (v', h', n')) : Ok G mX12_lookNow (d + 2) (Same (some (.long v')) h' n') 84 [some (.ref l0), some (.int l1), none, some (.int l3)] [.int s1, va_rf s0] h nx 0 0 := by
  unfold F_X12_lookNow_84 at e
  refine Ok.iconstV (v := (nI 1)) dX12_lookNow_84 (by decide +kernel) ?_
  refine Ok.goto (tgt := 89) dX12_lookNow_85 (by decide) ?_
  exact Ok.weakL (k_X12_lookNow_89 (d := d) e) ⟨rfl, ⟨rfl, ⟨rfl, trivial⟩⟩⟩
noncomputable def F_X12_lookNow_60 (G : Gx) (h : Hp) (nx : Nat) (s0 : Int32) (l0 : Nat) (l1 : Int32) (l2 : Int32) : Rz Int64 :=
ck h l0 [12] (fun _ =>
cl (F_X12_shows G h nx l0 l1 l2) (fun _ h2 n3 =>
gfR h2 l0 [12] 1 (fun v4 =>
if l2 = 0 then
if s0 ≤ 0 then
(F_X12_lookNow_89 G h2 n3 v4 (((nI 1026) + l1)) (nI 0) l0 l1 s0)
else
(F_X12_lookNow_84 G h2 n3 v4 (((nI 1026) + l1)) l0 l1 s0)
else
(F_X12_lookNow_84 G h2 n3 v4 (((nI 1026) + l1)) l0 l1 s0))))
set_option maxRecDepth 100000 in
set_option maxHeartbeats 4000000 in
theorem k_X12_lookNow_60 {G : Gx} {d : Nat} {v' : Int64} {h' : Hp} {n' : Nat} {h : Hp} {nx : Nat} {s0 : Int32} {l0 : Nat} {l1 : Int32} {l2 : Int32} (e : F_X12_lookNow_60 G h nx s0 l0 l1 l2 = some (v', h', n')) : Ok G mX12_lookNow (d + 2) (Same (some (.long v')) h' n') 60 [some (.ref l0), some (.int l1), some (.int l2), none] [.int s0] h nx 0 0 := by
  unfold F_X12_lookNow_60 at e
  refine XL.istore_n dX12_lookNow_60 (by decide) (L := [some (.ref l0), some (.int l1), some (.int l2), some (.int s0)]) rfl ?_
  refine Ok.aload_n dX12_lookNow_61 rfl ?_
  refine Ok.iload_n dX12_lookNow_62 rfl ?_
  refine Ok.iload_n dX12_lookNow_63 rfl ?_
  refine X.rck e (fun c fs hb hc e1 => ?_)
  clear e
  obtain rfl := List.mem_singleton.mp hc
  refine X.callV (My := mX12_shows) (n := 2) (As := [.int l1, .int l2]) (T := (fun v => none)) (stk' := (fun _ => [])) (rest := []) (kc' := 0) (ks' := 0) dX12_lookNow_64 e1 (fun v h n e => k_X12_shows (d := d + 0) e) hb rfl wd1446 wd80 wd1445 wd63 wd1443 (by decide +kernel) rfl (by decide) rfl rfl (Nat.le_of_ble_eq_true rfl) (Nat.le_of_ble_eq_true rfl) (Nat.le_of_ble_eq_true rfl) rfl rfl (fun _ => rfl) (fun _ h2 n3 e2 => ?_)
  clear e1
  refine Ok.aload_n dX12_lookNow_67 rfl ?_
  refine X.rgfR fl_RX12_9 dX12_lookNow_68 e2 (fun v4 e3 => ?_)
  clear e2
  refine Ok.sipushV (v := (nI 1026)) dX12_lookNow_71 (by decide +kernel) ?_
  refine Ok.iload_n dX12_lookNow_74 rfl ?_
  refine Ok.iadd dX12_lookNow_75 ?_
  refine Ok.iload_n dX12_lookNow_76 rfl ?_
  refine X.if_ne (tgt := 84) dX12_lookNow_77 (by decide) e3 (fun e4 => ?_) (fun e4 => ?_)
  · clear e3
    exact Ok.weakL (k_X12_lookNow_84 (d := d) e4) ⟨rfl, ⟨rfl, ⟨rfl, trivial⟩⟩⟩
  · clear e3
    refine Ok.iload_n dX12_lookNow_80 rfl ?_
    refine X.if_le (tgt := 88) dX12_lookNow_81 (by decide) e4 (fun e5 => ?_) (fun e5 => ?_)
    · clear e4
      refine Ok.iconstV (v := (nI 0)) dX12_lookNow_88 (by decide +kernel) ?_
      exact Ok.weakL (k_X12_lookNow_89 (d := d) e5) ⟨rfl, ⟨rfl, ⟨rfl, trivial⟩⟩⟩
    · clear e4
      exact Ok.weakL (k_X12_lookNow_84 (d := d) e5) ⟨rfl, ⟨rfl, ⟨rfl, trivial⟩⟩⟩
noncomputable def F_X12_lookNow_41 (G : Gx) (h : Hp) (nx : Nat) (s0 : Option Nat) (s1 : Int32) (l0 : Nat) (l1 : Int32) (l2 : Int32) : Rz Int64 :=
nn s0 (fun p1 =>
alI (g_c G 0) h p1 s1 (fun v2 =>
asI (g_c G 0) id h p1 s1 ((v2 + (nI 1))) (fun h3 =>
if l2 = 0 then
ck h3 l0 [12] (fun _ =>
cl (F_X12_value G h3 nx l0 l1 (nI 3)) (fun r4 h5 n6 =>
(F_X12_lookNow_60 G h5 n6 r4 l0 l1 l2)))
else
(F_X12_lookNow_60 G h3 nx (nI 0) l0 l1 l2))))
set_option maxRecDepth 100000 in
set_option maxHeartbeats 4000000 in
theorem k_X12_lookNow_41 {G : Gx} {d : Nat} {v' : Int64} {h' : Hp} {n' : Nat} {h : Hp} {nx : Nat} {s0 : Option Nat} {s1 : Int32} {l0 : Nat} {l1 : Int32} {l2 : Int32} (e : F_X12_lookNow_41 G h nx s0 s1 l0 l1 l2 = some (v', h', n')) : Ok G mX12_lookNow (d + 2) (Same (some (.long v')) h' n') 41 [some (.ref l0), some (.int l1), some (.int l2), none] [.int s1, va_rf s0] h nx 0 0 := by
  unfold F_X12_lookNow_41 at e
  refine Ok.dup2 dX12_lookNow_41 rfl (va_rf_cat _) ?_
  refine X.rnn e (fun p1 q e1 => ?_)
  clear e
  subst q
  refine X.iald dX12_lookNow_42 e1 (fun v2 e2 => ?_)
  clear e1
  refine Ok.iconstV (v := (nI 1)) dX12_lookNow_43 (by decide +kernel) ?_
  refine Ok.iadd dX12_lookNow_44 ?_
  refine X.iast dX12_lookNow_45 e2 (fun h3 e3 => ?_)
  clear e2
  refine Ok.iload_n dX12_lookNow_46 rfl ?_
  refine X.if_eq (tgt := 54) dX12_lookNow_47 (by decide) e3 (fun e4 => ?_) (fun e4 => ?_)
  · clear e3
    refine Ok.aload_n dX12_lookNow_54 rfl ?_
    refine Ok.iload_n dX12_lookNow_55 rfl ?_
    refine Ok.iconstV (v := (nI 3)) dX12_lookNow_56 (by decide +kernel) ?_
    refine X.rck e4 (fun c fs hb hc e5 => ?_)
    clear e4
    obtain rfl := List.mem_singleton.mp hc
    refine X.callV (My := mX12_value) (n := 2) (As := [.int l1, .int (nI 3)]) (T := (fun v => (some (.int v)))) (stk' := (fun v => [.int v])) (rest := []) (kc' := 0) (ks' := 0) dX12_lookNow_57 e5 (fun v h n e => k_X12_value (d := d + 1) e) hb rfl wd1319 wd80 wd1318 wd44 wd1316 (by decide +kernel) rfl (by decide) rfl rfl (Nat.le_of_ble_eq_true rfl) (Nat.le_of_ble_eq_true rfl) (Nat.le_of_ble_eq_true rfl) rfl rfl (fun _ => rfl) (fun r4 h5 n6 e6 => ?_)
    clear e5
    exact Ok.weakL (k_X12_lookNow_60 (d := d) e6) ⟨rfl, ⟨rfl, ⟨rfl, trivial⟩⟩⟩
  · clear e3
    refine Ok.iconstV (v := (nI 0)) dX12_lookNow_50 (by decide +kernel) ?_
    refine Ok.goto (tgt := 60) dX12_lookNow_51 (by decide) ?_
    exact Ok.weakL (k_X12_lookNow_60 (d := d) e4) ⟨rfl, ⟨rfl, ⟨rfl, trivial⟩⟩⟩
noncomputable def F_X12_lookNow_19 (G : Gx) (h : Hp) (nx : Nat) (s0 : Int32) (l0 : Nat) (l1 : Int32) : Rz Int64 :=
gfR h l0 [12] 1 (fun v1 =>
if s0 = 0 then
(F_X12_lookNow_41 G h nx v1 (((nI 1058) + l1)) l0 l1 s0)
else
(F_X12_lookNow_41 G h nx v1 (((nI 1050) + l1)) l0 l1 s0))
set_option maxRecDepth 100000 in
set_option maxHeartbeats 4000000 in
theorem k_X12_lookNow_19 {G : Gx} {d : Nat} {v' : Int64} {h' : Hp} {n' : Nat} {h : Hp} {nx : Nat} {s0 : Int32} {l0 : Nat} {l1 : Int32} (e : F_X12_lookNow_19 G h nx s0 l0 l1 = some (v', h', n')) : Ok G mX12_lookNow (d + 2) (Same (some (.long v')) h' n') 19 [some (.ref l0), some (.int l1), none, none] [.int s0] h nx 0 0 := by
  unfold F_X12_lookNow_19 at e
  refine XL.istore_n dX12_lookNow_19 (by decide) (L := [some (.ref l0), some (.int l1), some (.int s0), none]) rfl ?_
  refine Ok.aload_n dX12_lookNow_20 rfl ?_
  refine X.rgfR fl_RX12_9 dX12_lookNow_21 e (fun v1 e1 => ?_)
  clear e
  refine Ok.iload_n dX12_lookNow_24 rfl ?_
  refine X.if_eq (tgt := 36) dX12_lookNow_25 (by decide) e1 (fun e2 => ?_) (fun e2 => ?_)
  · clear e1
    refine Ok.sipushV (v := (nI 1058)) dX12_lookNow_36 (by decide +kernel) ?_
    refine Ok.iload_n dX12_lookNow_39 rfl ?_
    refine Ok.iadd dX12_lookNow_40 ?_
    exact Ok.weakL (k_X12_lookNow_41 (d := d) e2) ⟨rfl, ⟨rfl, ⟨rfl, trivial⟩⟩⟩
  · clear e1
    refine Ok.sipushV (v := (nI 1050)) dX12_lookNow_28 (by decide +kernel) ?_
    refine Ok.iload_n dX12_lookNow_31 rfl ?_
    refine Ok.iadd dX12_lookNow_32 ?_
    refine Ok.goto (tgt := 41) dX12_lookNow_33 (by decide) ?_
    exact Ok.weakL (k_X12_lookNow_41 (d := d) e2) ⟨rfl, ⟨rfl, ⟨rfl, trivial⟩⟩⟩
noncomputable def F_X12_lookNow (G : Gx) (h : Hp) (nx : Nat) (a0 : Nat) (a1 : Int32) : Rz Int64 :=
gfR h a0 [12] 1 (fun v1 =>
nn v1 (fun p2 =>
alI (g_c G 0) h p2 (((nI 1026) + a1)) (fun v3 =>
if v3 = (nI 1) then
(F_X12_lookNow_19 G h nx (nI 1) a0 a1)
else
(F_X12_lookNow_19 G h nx (nI 0) a0 a1))))
set_option maxRecDepth 100000 in
set_option maxHeartbeats 4000000 in
theorem k_X12_lookNow {G : Gx} {d : Nat} {h : Hp} {nx : Nat} {a0 : Nat} {a1 : Int32} {v' : Int64} {h' : Hp} {n' : Nat} (e : F_X12_lookNow G h nx a0 a1 = some (v', h', n')) : Ct G mX12_lookNow (d + 2) (Same (some (.long v')) h' n') [.ref a0, .int a1] h nx := by
  unfold F_X12_lookNow at e
  refine Ct.of (ls := [some (.ref a0), some (.int a1), none, none]) (by decide +kernel) rfl (Nat.le_of_ble_eq_true rfl) rfl ?_
  refine Ok.aload_n dX12_lookNow_0 rfl ?_
  refine X.rgfR fl_RX12_9 dX12_lookNow_1 e (fun v1 e1 => ?_)
  clear e
  refine Ok.sipushV (v := (nI 1026)) dX12_lookNow_4 (by decide +kernel) ?_
  refine Ok.iload_n dX12_lookNow_7 rfl ?_
  refine Ok.iadd dX12_lookNow_8 ?_
  refine X.rnn e1 (fun p2 q e2 => ?_)
  clear e1
  subst q
  refine X.iald dX12_lookNow_9 e2 (fun v3 e3 => ?_)
  clear e2
  refine Ok.iconstV (v := (nI 1)) dX12_lookNow_10 (by decide +kernel) ?_
  refine X.icmp_ne (tgt := 18) dX12_lookNow_11 (by decide) e3 (fun e4 => ?_) (fun e4 => ?_)
  · clear e3
    refine Ok.iconstV (v := (nI 0)) dX12_lookNow_18 (by decide +kernel) ?_
    exact Ok.weakL (k_X12_lookNow_19 (d := d) e4) ⟨rfl, ⟨rfl, trivial⟩⟩
  · clear e3
    refine Ok.iconstV (v := (nI 1)) dX12_lookNow_14 (by decide +kernel) ?_
    refine Ok.goto (tgt := 19) dX12_lookNow_15 (by decide) ?_
    exact Ok.weakL (k_X12_lookNow_19 (d := d) e4) ⟨rfl, ⟨rfl, trivial⟩⟩
noncomputable def F_X12_turns_121 (G : Gx) (h : Hp) (nx : Nat) (s0 : Option Nat) (s1 : Int32) (s2 : Int32) : Rz Unit :=
nn s0 (fun p1 =>
asI (g_c G 0) id h p1 s1 s2 (fun h2 =>
some ((), h2, nx)))
set_option maxRecDepth 100000 in
set_option maxHeartbeats 4000000 in
theorem k_X12_turns_121 {G : Gx} {d : Nat} {v' : Unit} {h' : Hp} {n' : Nat} {h : Hp} {nx : Nat} {s0 : Option Nat} {s1 : Int32} {s2 : Int32} (e : F_X12_turns_121 G h nx s0 s1 s2 = some (v', h', n')) : Ok G mX12_turns (d + 2) (Same none h' n') 121 [none, none, none, none, none, none] [.int s2, .int s1, va_rf s0] h nx 0 0 := by
  unfold F_X12_turns_121 at e
  refine X.rnn e (fun p1 q e1 => ?_)
  clear e
  subst q
  refine X.iast dX12_turns_121 e1 (fun h2 e2 => ?_)
  clear e1
  exact X.vret dX12_turns_122 rfl (Nat.le_of_ble_eq_true rfl) (Nat.le_of_ble_eq_true rfl) e2
noncomputable def F_X12_turns_98 (G : Gx) (h : Hp) (nx : Nat) (s0 : Int32) (l0 : Nat) (l1 : Int32) (l4 : Int32) : Rz Unit :=
gfR h l0 [12] 1 (fun v1 =>
if l4 = s0 then
(F_X12_turns_121 G h nx v1 (((nI 1026) + l1)) (nI 0))
else
(F_X12_turns_121 G h nx v1 (((nI 1026) + l1)) (nI 1)))
set_option maxRecDepth 100000 in
set_option maxHeartbeats 4000000 in
theorem k_X12_turns_98 {G : Gx} {d : Nat} {v' : Unit} {h' : Hp} {n' : Nat} {h : Hp} {nx : Nat} {s0 : Int32} {l0 : Nat} {l1 : Int32} {l4 : Int32} (e : F_X12_turns_98 G h nx s0 l0 l1 l4 = some (v', h', n')) : Ok G mX12_turns (d + 2) (Same none h' n') 98 [some (.ref l0), some (.int l1), none, none, some (.int l4), none] [.int s0] h nx 0 0 := by
  unfold F_X12_turns_98 at e
  refine XL.istore dX12_turns_98 (by decide) (L := [some (.ref l0), some (.int l1), none, none, some (.int l4), some (.int s0)]) rfl ?_
  refine Ok.aload_n dX12_turns_100 rfl ?_
  refine X.rgfR fl_RX12_9 dX12_turns_101 e (fun v1 e1 => ?_)
  clear e
  refine Ok.sipushV (v := (nI 1026)) dX12_turns_104 (by decide +kernel) ?_
  refine Ok.iload_n dX12_turns_107 rfl ?_
  refine Ok.iadd dX12_turns_108 ?_
  refine Ok.iload dX12_turns_109 rfl ?_
  refine Ok.iload dX12_turns_111 rfl ?_
  refine X.icmp_eq (tgt := 120) dX12_turns_113 (by decide) e1 (fun e2 => ?_) (fun e2 => ?_)
  · clear e1
    refine Ok.iconstV (v := (nI 0)) dX12_turns_120 (by decide +kernel) ?_
    exact Ok.weakL (k_X12_turns_121 (d := d) e2) trivial
  · clear e1
    refine Ok.iconstV (v := (nI 1)) dX12_turns_116 (by decide +kernel) ?_
    refine Ok.goto (tgt := 121) dX12_turns_117 (by decide) ?_
    exact Ok.weakL (k_X12_turns_121 (d := d) e2) trivial
noncomputable def F_X12_turns_90 (G : Gx) (h : Hp) (nx : Nat) (s0 : Int32) (s1 : Int32) (l0 : Nat) (l1 : Int32) (l4 : Int32) : Rz Unit :=
if s1 ≤ s0 then
(F_X12_turns_98 G h nx (nI 0) l0 l1 l4)
else
(F_X12_turns_98 G h nx (nI 1) l0 l1 l4)
set_option maxRecDepth 100000 in
set_option maxHeartbeats 4000000 in
theorem k_X12_turns_90 {G : Gx} {d : Nat} {v' : Unit} {h' : Hp} {n' : Nat} {h : Hp} {nx : Nat} {s0 : Int32} {s1 : Int32} {l0 : Nat} {l1 : Int32} {l4 : Int32} (e : F_X12_turns_90 G h nx s0 s1 l0 l1 l4 = some (v', h', n')) : Ok G mX12_turns (d + 2) (Same none h' n') 90 [some (.ref l0), some (.int l1), none, none, some (.int l4), none] [.int s1, .int s0] h nx 0 0 := by
  unfold F_X12_turns_90 at e
  refine X.icmp_ge (tgt := 97) dX12_turns_90 (by decide) e (fun e1 => ?_) (fun e1 => ?_)
  · clear e
    refine Ok.iconstV (v := (nI 0)) dX12_turns_97 (by decide +kernel) ?_
    exact Ok.weakL (k_X12_turns_98 (d := d) e1) ⟨rfl, ⟨rfl, ⟨rfl, trivial⟩⟩⟩
  · clear e
    refine Ok.iconstV (v := (nI 1)) dX12_turns_93 (by decide +kernel) ?_
    refine Ok.goto (tgt := 98) dX12_turns_94 (by decide) ?_
    exact Ok.weakL (k_X12_turns_98 (d := d) e1) ⟨rfl, ⟨rfl, ⟨rfl, trivial⟩⟩⟩
noncomputable def F_X12_turns_49 (G : Gx) (h : Hp) (nx : Nat) (s0 : Int32) (l0 : Nat) (l1 : Int32) (l3 : Int32) : Rz Unit :=
if s0 = 0 then
gfR h l0 [12] 1 (fun v1 =>
nn v1 (fun p2 =>
alI (g_c G 0) h p2 (((nI 1042) + l1)) (fun v3 =>
ck h l0 [12] (fun _ =>
cl (F_X12_healOf G h nx l0 l1 v3) (fun r4 h5 n6 =>
(F_X12_turns_90 G h5 n6 l3 r4 l0 l1 s0))))))
else
gfR h l0 [12] 1 (fun v7 =>
nn v7 (fun p8 =>
alI (g_c G 0) h p8 (((nI 1042) + l1)) (fun v9 =>
ck h l0 [12] (fun _ =>
cl (F_X12_illOf G h nx l0 l1 v9) (fun r10 h11 n12 =>
(F_X12_turns_90 G h11 n12 l3 r10 l0 l1 s0))))))
set_option maxRecDepth 100000 in
set_option maxHeartbeats 4000000 in
theorem k_X12_turns_49 {G : Gx} {d : Nat} {v' : Unit} {h' : Hp} {n' : Nat} {h : Hp} {nx : Nat} {s0 : Int32} {l0 : Nat} {l1 : Int32} {l3 : Int32} (e : F_X12_turns_49 G h nx s0 l0 l1 l3 = some (v', h', n')) : Ok G mX12_turns (d + 2) (Same none h' n') 49 [some (.ref l0), some (.int l1), none, some (.int l3), none, none] [.int s0] h nx 0 0 := by
  unfold F_X12_turns_49 at e
  refine XL.istore dX12_turns_49 (by decide) (L := [some (.ref l0), some (.int l1), none, some (.int l3), some (.int s0), none]) rfl ?_
  refine Ok.iload_n dX12_turns_51 rfl ?_
  refine Ok.iload dX12_turns_52 rfl ?_
  refine X.if_eq (tgt := 75) dX12_turns_54 (by decide) e (fun e1 => ?_) (fun e1 => ?_)
  · clear e
    refine Ok.aload_n dX12_turns_75 rfl ?_
    refine Ok.iload_n dX12_turns_76 rfl ?_
    refine Ok.aload_n dX12_turns_77 rfl ?_
    refine X.rgfR fl_RX12_9 dX12_turns_78 e1 (fun v1 e2 => ?_)
    clear e1
    refine Ok.sipushV (v := (nI 1042)) dX12_turns_81 (by decide +kernel) ?_
    refine Ok.iload_n dX12_turns_84 rfl ?_
    refine Ok.iadd dX12_turns_85 ?_
    refine X.rnn e2 (fun p2 q e3 => ?_)
    clear e2
    subst q
    refine X.iald dX12_turns_86 e3 (fun v3 e4 => ?_)
    clear e3
    refine X.rck e4 (fun c fs hb hc e5 => ?_)
    clear e4
    obtain rfl := List.mem_singleton.mp hc
    refine X.callV (My := mX12_healOf) (n := 2) (As := [.int l1, .int v3]) (T := (fun v => (some (.int v)))) (stk' := (fun v => [.int v, .int l3])) (rest := [.int l3]) (kc' := 0) (ks' := 0) dX12_turns_87 e5 (fun v h n e => k_X12_healOf (d := d + 0) e) hb rfl wd1299 wd80 wd1298 wd42 wd1296 (by decide +kernel) rfl (by decide) rfl rfl (Nat.le_of_ble_eq_true rfl) (Nat.le_of_ble_eq_true rfl) (Nat.le_of_ble_eq_true rfl) rfl rfl (fun _ => rfl) (fun r4 h5 n6 e6 => ?_)
    clear e5
    exact Ok.weakL (k_X12_turns_90 (d := d) e6) ⟨rfl, ⟨rfl, ⟨rfl, trivial⟩⟩⟩
  · clear e
    refine Ok.aload_n dX12_turns_57 rfl ?_
    refine Ok.iload_n dX12_turns_58 rfl ?_
    refine Ok.aload_n dX12_turns_59 rfl ?_
    refine X.rgfR fl_RX12_9 dX12_turns_60 e1 (fun v7 e2 => ?_)
    clear e1
    refine Ok.sipushV (v := (nI 1042)) dX12_turns_63 (by decide +kernel) ?_
    refine Ok.iload_n dX12_turns_66 rfl ?_
    refine Ok.iadd dX12_turns_67 ?_
    refine X.rnn e2 (fun p8 q e3 => ?_)
    clear e2
    subst q
    refine X.iald dX12_turns_68 e3 (fun v9 e4 => ?_)
    clear e3
    refine X.rck e4 (fun c fs hb hc e5 => ?_)
    clear e4
    obtain rfl := List.mem_singleton.mp hc
    refine X.callV (My := mX12_illOf) (n := 2) (As := [.int l1, .int v9]) (T := (fun v => (some (.int v)))) (stk' := (fun v => [.int v, .int l3])) (rest := [.int l3]) (kc' := 0) (ks' := 0) dX12_turns_69 e5 (fun v h n e => k_X12_illOf (d := d + 0) e) hb rfl wd1294 wd80 wd1293 wd41 wd1291 (by decide +kernel) rfl (by decide) rfl rfl (Nat.le_of_ble_eq_true rfl) (Nat.le_of_ble_eq_true rfl) (Nat.le_of_ble_eq_true rfl) rfl rfl (fun _ => rfl) (fun r10 h11 n12 e6 => ?_)
    clear e5
    refine Ok.goto (tgt := 90) dX12_turns_72 (by decide) ?_
    exact Ok.weakL (k_X12_turns_90 (d := d) e6) ⟨rfl, ⟨rfl, ⟨rfl, trivial⟩⟩⟩
noncomputable def F_X12_turns (G : Gx) (h : Hp) (nx : Nat) (a0 : Nat) (a1 : Int32) (a2 : Int32) : Rz Unit :=
gfR h a0 [12] 1 (fun v1 =>
nn v1 (fun p2 =>
alI (g_c G 0) h p2 (nI 3) (fun v3 =>
nm (((((((((((((nI 31) * a2)) + (((nI 17) * v3)))) + (((nI 7) * a1)))) + (nI 13))) * (nI 7))) - (((((((((((nI 31) * a2)) + (((nI 17) * v3)))) + (((nI 7) * a1)))) + (nI 13))) * (nI 7))) / (nI 1000) * (nI 1000))) (fun v4 =>
gfR h a0 [12] 1 (fun v5 =>
nn v5 (fun p6 =>
alI (g_c G 0) h p6 (((nI 1026) + a1)) (fun v7 =>
if v7 = (nI 1) then
(F_X12_turns_49 G h nx (nI 1) a0 a1 v4)
else
(F_X12_turns_49 G h nx (nI 0) a0 a1 v4))))))))
set_option maxRecDepth 100000 in
set_option maxHeartbeats 4000000 in
theorem k_X12_turns {G : Gx} {d : Nat} {h : Hp} {nx : Nat} {a0 : Nat} {a1 : Int32} {a2 : Int32} {v' : Unit} {h' : Hp} {n' : Nat} (e : F_X12_turns G h nx a0 a1 a2 = some (v', h', n')) : Ct G mX12_turns (d + 2) (Same none h' n') [.ref a0, .int a1, .int a2] h nx := by
  unfold F_X12_turns at e
  refine Ct.of (ls := [some (.ref a0), some (.int a1), some (.int a2), none, none, none]) (by decide +kernel) rfl (Nat.le_of_ble_eq_true rfl) rfl ?_
  refine Ok.bipushV (v := (nI 31)) dX12_turns_0 (by decide +kernel) ?_
  refine Ok.iload_n dX12_turns_2 rfl ?_
  refine Ok.imul dX12_turns_3 ?_
  refine Ok.bipushV (v := (nI 17)) dX12_turns_4 (by decide +kernel) ?_
  refine Ok.aload_n dX12_turns_6 rfl ?_
  refine X.rgfR fl_RX12_9 dX12_turns_7 e (fun v1 e1 => ?_)
  clear e
  refine Ok.iconstV (v := (nI 3)) dX12_turns_10 (by decide +kernel) ?_
  refine X.rnn e1 (fun p2 q e2 => ?_)
  clear e1
  subst q
  refine X.iald dX12_turns_11 e2 (fun v3 e3 => ?_)
  clear e2
  refine Ok.imul dX12_turns_12 ?_
  refine Ok.iadd dX12_turns_13 ?_
  refine Ok.bipushV (v := (nI 7)) dX12_turns_14 (by decide +kernel) ?_
  refine Ok.iload_n dX12_turns_16 rfl ?_
  refine Ok.imul dX12_turns_17 ?_
  refine Ok.iadd dX12_turns_18 ?_
  refine Ok.bipushV (v := (nI 13)) dX12_turns_19 (by decide +kernel) ?_
  refine Ok.iadd dX12_turns_21 ?_
  refine Ok.bipushV (v := (nI 7)) dX12_turns_22 (by decide +kernel) ?_
  refine Ok.imul dX12_turns_24 ?_
  refine Ok.sipushV (v := (nI 1000)) dX12_turns_25 (by decide +kernel) ?_
  refine Ok.irem dX12_turns_28 (by decide +kernel) ?_
  refine X.istore_n dX12_turns_29 (by decide) e3 (L := fun v4 => [some (.ref a0), some (.int a1), some (.int a2), some (.int v4), none, none]) (fun _ => rfl) (fun v4 e4 => ?_)
  clear e3
  refine Ok.aload_n dX12_turns_30 rfl ?_
  refine X.rgfR fl_RX12_9 dX12_turns_31 e4 (fun v5 e5 => ?_)
  clear e4
  refine Ok.sipushV (v := (nI 1026)) dX12_turns_34 (by decide +kernel) ?_
  refine Ok.iload_n dX12_turns_37 rfl ?_
  refine Ok.iadd dX12_turns_38 ?_
  refine X.rnn e5 (fun p6 q e6 => ?_)
  clear e5
  subst q
  refine X.iald dX12_turns_39 e6 (fun v7 e7 => ?_)
  clear e6
  refine Ok.iconstV (v := (nI 1)) dX12_turns_40 (by decide +kernel) ?_
  refine X.icmp_ne (tgt := 48) dX12_turns_41 (by decide) e7 (fun e8 => ?_) (fun e8 => ?_)
  · clear e7
    refine Ok.iconstV (v := (nI 0)) dX12_turns_48 (by decide +kernel) ?_
    exact Ok.weakL (k_X12_turns_49 (d := d) e8) ⟨rfl, ⟨rfl, ⟨rfl, trivial⟩⟩⟩
  · clear e7
    refine Ok.iconstV (v := (nI 1)) dX12_turns_44 (by decide +kernel) ?_
    refine Ok.goto (tgt := 49) dX12_turns_45 (by decide) ?_
    exact Ok.weakL (k_X12_turns_49 (d := d) e8) ⟨rfl, ⟨rfl, ⟨rfl, trivial⟩⟩⟩
noncomputable def F_X12_run_43 (G : Gx) (h : Hp) (nx : Nat) : Rz Int64 :=
some ((-9223372036854775808 : Int64), h, nx)
set_option maxRecDepth 100000 in
set_option maxHeartbeats 4000000 in
theorem k_X12_run_43 {G : Gx} {d : Nat} {v' : Int64} {h' : Hp} {n' : Nat} {h : Hp} {nx : Nat} (e : F_X12_run_43 G h nx = some (v', h', n')) : Ok G mX12_run (d + 73) (Same (some (.long v')) h' n') 43 [none, none, none, none, none, none, none, none, none] [] h nx 0 0 := by
  unfold F_X12_run_43 at e
  refine Ok.ldc2_w (v := -9223372036854775808) dX12_run_43 wd1311 ?_
  exact X.lret dX12_run_46 rfl (Nat.le_of_ble_eq_true rfl) (Nat.le_of_ble_eq_true rfl) e
noncomputable def F_X12_run_188 (G : Gx) (k53 : Hp → Nat → Nat → Int32 → Int32 → Int32 → Int64 → Int32 → Rz Int64) : Nat → Hp → Nat → Nat → Int32 → Int32 → Int32 → Int64 → Int32 → Int32 → Rz Int64 := fun n => Nat.rec (motive := fun _ => Hp → Nat → Nat → Int32 → Int32 → Int32 → Int64 → Int32 → Int32 → Rz Int64) (fun _ _ _ _ _ _ _ _ _ => none) (fun _ k188 => fun h nx l0 l1 l2 l3 l4 l6 l8 =>
gfR h l0 [12] 1 (fun v1 =>
nn v1 (fun p2 =>
alI (g_c G 0) h p2 (nI 1) (fun v3 =>
if v3 ≤ l8 then
ck h l0 [12] (fun _ =>
cl (F_X12_over G h nx l0) (fun _ h5 n6 =>
gfR h5 l0 [12] 1 (fun v7 =>
nn v7 (fun p8 =>
alI (g_c G 0) h5 p8 (nI 3) (fun v9 =>
asI (g_c G 0) id h5 p8 (nI 3) ((v9 + (nI 1))) (fun h10 =>
nm (l6 + (nI 1)) (fun v11 =>
(k53 h10 n6 l0 l1 l2 l3 l4 v11))))))))
else
ck h l0 [12] (fun _ =>
cl (F_X12_turns G h nx l0 l8 l3) (fun _ h13 n14 =>
nm (l8 + (nI 1)) (fun v15 =>
(k188 h13 n14 l0 l1 l2 l3 l4 l6 v15)))))))) n
theorem F_X12_run_188_0 {G : Gx} (k53 : Hp → Nat → Nat → Int32 → Int32 → Int32 → Int64 → Int32 → Rz Int64) {h : Hp} {nx : Nat} {l0 : Nat} {l1 : Int32} {l2 : Int32} {l3 : Int32} {l4 : Int64} {l6 : Int32} {l8 : Int32} : F_X12_run_188 G k53 0 h nx l0 l1 l2 l3 l4 l6 l8 = none := rfl
theorem F_X12_run_188_s {G : Gx} (k53 : Hp → Nat → Nat → Int32 → Int32 → Int32 → Int64 → Int32 → Rz Int64) {n : Nat} {h : Hp} {nx : Nat} {l0 : Nat} {l1 : Int32} {l2 : Int32} {l3 : Int32} {l4 : Int64} {l6 : Int32} {l8 : Int32} : F_X12_run_188 G k53 (n + 1) h nx l0 l1 l2 l3 l4 l6 l8 = (
gfR h l0 [12] 1 (fun v1 =>
nn v1 (fun p2 =>
alI (g_c G 0) h p2 (nI 1) (fun v3 =>
if v3 ≤ l8 then
ck h l0 [12] (fun _ =>
cl (F_X12_over G h nx l0) (fun _ h5 n6 =>
gfR h5 l0 [12] 1 (fun v7 =>
nn v7 (fun p8 =>
alI (g_c G 0) h5 p8 (nI 3) (fun v9 =>
asI (g_c G 0) id h5 p8 (nI 3) ((v9 + (nI 1))) (fun h10 =>
nm (l6 + (nI 1)) (fun v11 =>
(k53 h10 n6 l0 l1 l2 l3 l4 v11))))))))
else
ck h l0 [12] (fun _ =>
cl (F_X12_turns G h nx l0 l8 l3) (fun _ h13 n14 =>
nm (l8 + (nI 1)) (fun v15 =>
((F_X12_run_188 G k53 n) h13 n14 l0 l1 l2 l3 l4 l6 v15)))))))) := rfl
set_option maxRecDepth 100000 in
set_option maxHeartbeats 4000000 in
theorem k_X12_run_188 {G : Gx} {d : Nat} {v' : Int64} {h' : Hp} {n' : Nat} {k53 : Hp → Nat → Nat → Int32 → Int32 → Int32 → Int64 → Int32 → Rz Int64} (K53 : ∀ {h : Hp} {nx : Nat} {l0 : Nat} {l1 : Int32} {l2 : Int32} {l3 : Int32} {l4 : Int64} {l6 : Int32}, k53 h nx l0 l1 l2 l3 l4 l6 = some (v', h', n') → Ok G mX12_run (d + 73) (Same (some (.long v')) h' n') 53 [some (.ref l0), some (.int l1), some (.int l2), some (.int l3), some (.long l4), none, some (.int l6), none, none] [] h nx 0 0) : ∀ (n : Nat) {h : Hp} {nx : Nat} {l0 : Nat} {l1 : Int32} {l2 : Int32} {l3 : Int32} {l4 : Int64} {l6 : Int32} {l8 : Int32}, F_X12_run_188 G k53 n h nx l0 l1 l2 l3 l4 l6 l8 = some (v', h', n') → Ok G mX12_run (d + 73) (Same (some (.long v')) h' n') 188 [some (.ref l0), some (.int l1), some (.int l2), some (.int l3), some (.long l4), none, some (.int l6), none, some (.int l8)] [] h nx 0 0 := by
  intro n
  induction n with
  | zero =>
    intro h nx l0 l1 l2 l3 l4 l6 l8 e
    rw [F_X12_run_188_0] at e
    cases e
  | succ n K188 =>
    intro h nx l0 l1 l2 l3 l4 l6 l8 e
    rw [F_X12_run_188_s] at e
    refine Ok.iload dX12_run_188 rfl ?_
    refine Ok.aload_n dX12_run_190 rfl ?_
    refine X.rgfR fl_RX12_9 dX12_run_191 e (fun v1 e1 => ?_)
    clear e
    refine Ok.iconstV (v := (nI 1)) dX12_run_194 (by decide +kernel) ?_
    refine X.rnn e1 (fun p2 q e2 => ?_)
    clear e1
    subst q
    refine X.iald dX12_run_195 e2 (fun v3 e3 => ?_)
    clear e2
    refine X.icmp_ge (tgt := 212) dX12_run_196 (by decide) e3 (fun e4 => ?_) (fun e4 => ?_)
    · clear e3
      refine Ok.aload_n dX12_run_212 rfl ?_
      refine X.rck e4 (fun c fs hb hc e5 => ?_)
      clear e4
      obtain rfl := List.mem_singleton.mp hc
      refine X.callV (My := mX12_over) (n := 0) (As := []) (T := (fun v => none)) (stk' := (fun _ => [])) (rest := []) (kc' := 0) (ks' := 0) dX12_run_213 e5 (fun v h n e => k_X12_over (d := d + 69) e) hb rfl wd1286 wd80 wd1285 wd39 wd1283 (by decide +kernel) rfl (by decide) rfl rfl (Nat.le_of_ble_eq_true rfl) (Nat.le_of_ble_eq_true rfl) (Nat.le_of_ble_eq_true rfl) rfl rfl (fun _ => rfl) (fun _ h5 n6 e6 => ?_)
      clear e5
      refine Ok.aload_n dX12_run_216 rfl ?_
      refine X.rgfR fl_RX12_9 dX12_run_217 e6 (fun v7 e7 => ?_)
      clear e6
      refine Ok.iconstV (v := (nI 3)) dX12_run_220 (by decide +kernel) ?_
      refine Ok.dup2 dX12_run_221 rfl (va_rf_cat _) ?_
      refine X.rnn e7 (fun p8 q e8 => ?_)
      clear e7
      subst q
      refine X.iald dX12_run_222 e8 (fun v9 e9 => ?_)
      clear e8
      refine Ok.iconstV (v := (nI 1)) dX12_run_223 (by decide +kernel) ?_
      refine Ok.iadd dX12_run_224 ?_
      refine X.iast dX12_run_225 e9 (fun h10 e10 => ?_)
      clear e9
      refine X.iinc dX12_run_226 rfl (by decide) (by decide +kernel) e10 (L := fun v11 => [some (.ref l0), some (.int l1), some (.int l2), some (.int l3), some (.long l4), none, some (.int v11), none, some (.int l8)]) (fun _ => rfl) (fun v11 e11 => ?_)
      clear e10
      refine Ok.goto (tgt := 53) dX12_run_229 (by decide) ?_
      exact Ok.weakL (K53 e11) ⟨rfl, ⟨rfl, ⟨rfl, ⟨rfl, ⟨rfl, ⟨rfl, trivial⟩⟩⟩⟩⟩⟩
    · clear e3
      refine Ok.aload_n dX12_run_199 rfl ?_
      refine Ok.iload dX12_run_200 rfl ?_
      refine Ok.iload_n dX12_run_202 rfl ?_
      refine X.rck e4 (fun c fs hb hc e5 => ?_)
      clear e4
      obtain rfl := List.mem_singleton.mp hc
      refine X.callV (My := mX12_turns) (n := 2) (As := [.int l8, .int l3]) (T := (fun v => none)) (stk' := (fun _ => [])) (rest := []) (kc' := 0) (ks' := 0) dX12_run_203 e5 (fun v h n e => k_X12_turns (d := d + 70) e) hb rfl wd1458 wd80 wd1457 wd65 wd1455 (by decide +kernel) rfl (by decide) rfl rfl (Nat.le_of_ble_eq_true rfl) (Nat.le_of_ble_eq_true rfl) (Nat.le_of_ble_eq_true rfl) rfl rfl (fun _ => rfl) (fun _ h13 n14 e6 => ?_)
      clear e5
      refine X.iinc dX12_run_206 rfl (by decide) (by decide +kernel) e6 (L := fun v15 => [some (.ref l0), some (.int l1), some (.int l2), some (.int l3), some (.long l4), none, some (.int l6), none, some (.int v15)]) (fun _ => rfl) (fun v15 e7 => ?_)
      clear e6
      refine Ok.goto (tgt := 188) dX12_run_209 (by decide) ?_
      exact Ok.weakL (K188 e7) ⟨rfl, ⟨rfl, ⟨rfl, ⟨rfl, ⟨rfl, ⟨rfl, ⟨rfl, trivial⟩⟩⟩⟩⟩⟩⟩
noncomputable def F_X12_run_176 (G : Gx) (k53 : Hp → Nat → Nat → Int32 → Int32 → Int32 → Int64 → Int32 → Rz Int64) (k142 : Hp → Nat → Nat → Int32 → Int32 → Int32 → Int64 → Int32 → Int32 → Int32 → Rz Int64) (h : Hp) (nx : Nat) (s0 : Int64) (s1 : Int64) (l0 : Nat) (l1 : Int32) (l2 : Int32) (l3 : Int32) (l6 : Int32) (l7 : Int32) (l8 : Int32) : Rz Int64 :=
nm ((s0 + s1)) (fun v1 =>
nm (l8 + (nI 1)) (fun v2 =>
(k142 h nx l0 l1 l2 l3 v1 l6 l7 v2)))
set_option maxRecDepth 100000 in
set_option maxHeartbeats 4000000 in
theorem k_X12_run_176 {G : Gx} {d : Nat} {v' : Int64} {h' : Hp} {n' : Nat} {k53 : Hp → Nat → Nat → Int32 → Int32 → Int32 → Int64 → Int32 → Rz Int64} (K53 : ∀ {h : Hp} {nx : Nat} {l0 : Nat} {l1 : Int32} {l2 : Int32} {l3 : Int32} {l4 : Int64} {l6 : Int32}, k53 h nx l0 l1 l2 l3 l4 l6 = some (v', h', n') → Ok G mX12_run (d + 73) (Same (some (.long v')) h' n') 53 [some (.ref l0), some (.int l1), some (.int l2), some (.int l3), some (.long l4), none, some (.int l6), none, none] [] h nx 0 0) {k142 : Hp → Nat → Nat → Int32 → Int32 → Int32 → Int64 → Int32 → Int32 → Int32 → Rz Int64} (K142 : ∀ {h : Hp} {nx : Nat} {l0 : Nat} {l1 : Int32} {l2 : Int32} {l3 : Int32} {l4 : Int64} {l6 : Int32} {l7 : Int32} {l8 : Int32}, k142 h nx l0 l1 l2 l3 l4 l6 l7 l8 = some (v', h', n') → Ok G mX12_run (d + 73) (Same (some (.long v')) h' n') 142 [some (.ref l0), some (.int l1), some (.int l2), some (.int l3), some (.long l4), none, some (.int l6), some (.int l7), some (.int l8)] [] h nx 0 0) {h : Hp} {nx : Nat} {s0 : Int64} {s1 : Int64} {l0 : Nat} {l1 : Int32} {l2 : Int32} {l3 : Int32} {l6 : Int32} {l7 : Int32} {l8 : Int32} (e : F_X12_run_176 G k53 k142 h nx s0 s1 l0 l1 l2 l3 l6 l7 l8 = some (v', h', n')) : Ok G mX12_run (d + 73) (Same (some (.long v')) h' n') 176 [some (.ref l0), some (.int l1), some (.int l2), some (.int l3), none, none, some (.int l6), some (.int l7), some (.int l8)] [.long s1, .long s0] h nx 0 0 := by
  unfold F_X12_run_176 at e
  refine Ok.ladd dX12_run_176 ?_
  refine X.lstore dX12_run_177 (by decide) e (L := fun v1 => [some (.ref l0), some (.int l1), some (.int l2), some (.int l3), some (.long v1), none, some (.int l6), some (.int l7), some (.int l8)]) (fun _ => rfl) (fun v1 e1 => ?_)
  clear e
  refine X.iinc dX12_run_179 rfl (by decide) (by decide +kernel) e1 (L := fun v2 => [some (.ref l0), some (.int l1), some (.int l2), some (.int l3), some (.long v1), none, some (.int l6), some (.int l7), some (.int v2)]) (fun _ => rfl) (fun v2 e2 => ?_)
  clear e1
  refine Ok.goto (tgt := 142) dX12_run_182 (by decide) ?_
  exact Ok.weakL (K142 e2) ⟨rfl, ⟨rfl, ⟨rfl, ⟨rfl, ⟨rfl, ⟨rfl, ⟨rfl, ⟨rfl, trivial⟩⟩⟩⟩⟩⟩⟩⟩
noncomputable def F_X12_run_142 (G : Gx) (k53 : Hp → Nat → Nat → Int32 → Int32 → Int32 → Int64 → Int32 → Rz Int64) : Nat → Hp → Nat → Nat → Int32 → Int32 → Int32 → Int64 → Int32 → Int32 → Int32 → Rz Int64 := fun n => Nat.rec (motive := fun _ => Hp → Nat → Nat → Int32 → Int32 → Int32 → Int64 → Int32 → Int32 → Int32 → Rz Int64) (fun _ _ _ _ _ _ _ _ _ _ => none) (fun _ k142 => fun h nx l0 l1 l2 l3 l4 l6 l7 l8 =>
gfR h l0 [12] 1 (fun v1 =>
nn v1 (fun p2 =>
alI (g_c G 0) h p2 (nI 1) (fun v3 =>
if v3 ≤ l8 then
(F_X12_run_188 G k53 fuelL h nx l0 l1 l2 l3 l4 l6 (nI 0))
else
if ((((l7 >>> (l8 &&& 31))) &&& (nI 1))) = (nI 1) then
ck h l0 [12] (fun _ =>
cl (F_X12_lookNow G h nx l0 l8) (fun r4 h5 n6 =>
(F_X12_run_176 G k53 k142 h5 n6 l4 r4 l0 l1 l2 l3 l6 l7 l8)))
else
(F_X12_run_176 G k53 k142 h nx l4 (0 : Int64) l0 l1 l2 l3 l6 l7 l8))))) n
theorem F_X12_run_142_0 {G : Gx} (k53 : Hp → Nat → Nat → Int32 → Int32 → Int32 → Int64 → Int32 → Rz Int64) {h : Hp} {nx : Nat} {l0 : Nat} {l1 : Int32} {l2 : Int32} {l3 : Int32} {l4 : Int64} {l6 : Int32} {l7 : Int32} {l8 : Int32} : F_X12_run_142 G k53 0 h nx l0 l1 l2 l3 l4 l6 l7 l8 = none := rfl
theorem F_X12_run_142_s {G : Gx} (k53 : Hp → Nat → Nat → Int32 → Int32 → Int32 → Int64 → Int32 → Rz Int64) {n : Nat} {h : Hp} {nx : Nat} {l0 : Nat} {l1 : Int32} {l2 : Int32} {l3 : Int32} {l4 : Int64} {l6 : Int32} {l7 : Int32} {l8 : Int32} : F_X12_run_142 G k53 (n + 1) h nx l0 l1 l2 l3 l4 l6 l7 l8 = (
gfR h l0 [12] 1 (fun v1 =>
nn v1 (fun p2 =>
alI (g_c G 0) h p2 (nI 1) (fun v3 =>
if v3 ≤ l8 then
(F_X12_run_188 G k53 fuelL h nx l0 l1 l2 l3 l4 l6 (nI 0))
else
if ((((l7 >>> (l8 &&& 31))) &&& (nI 1))) = (nI 1) then
ck h l0 [12] (fun _ =>
cl (F_X12_lookNow G h nx l0 l8) (fun r4 h5 n6 =>
(F_X12_run_176 G k53 (F_X12_run_142 G k53 n) h5 n6 l4 r4 l0 l1 l2 l3 l6 l7 l8)))
else
(F_X12_run_176 G k53 (F_X12_run_142 G k53 n) h nx l4 (0 : Int64) l0 l1 l2 l3 l6 l7 l8))))) := rfl
set_option maxRecDepth 100000 in
set_option maxHeartbeats 4000000 in
theorem k_X12_run_142 {G : Gx} {d : Nat} {v' : Int64} {h' : Hp} {n' : Nat} {k53 : Hp → Nat → Nat → Int32 → Int32 → Int32 → Int64 → Int32 → Rz Int64} (K53 : ∀ {h : Hp} {nx : Nat} {l0 : Nat} {l1 : Int32} {l2 : Int32} {l3 : Int32} {l4 : Int64} {l6 : Int32}, k53 h nx l0 l1 l2 l3 l4 l6 = some (v', h', n') → Ok G mX12_run (d + 73) (Same (some (.long v')) h' n') 53 [some (.ref l0), some (.int l1), some (.int l2), some (.int l3), some (.long l4), none, some (.int l6), none, none] [] h nx 0 0) : ∀ (n : Nat) {h : Hp} {nx : Nat} {l0 : Nat} {l1 : Int32} {l2 : Int32} {l3 : Int32} {l4 : Int64} {l6 : Int32} {l7 : Int32} {l8 : Int32}, F_X12_run_142 G k53 n h nx l0 l1 l2 l3 l4 l6 l7 l8 = some (v', h', n') → Ok G mX12_run (d + 73) (Same (some (.long v')) h' n') 142 [some (.ref l0), some (.int l1), some (.int l2), some (.int l3), some (.long l4), none, some (.int l6), some (.int l7), some (.int l8)] [] h nx 0 0 := by
  intro n
  induction n with
  | zero =>
    intro h nx l0 l1 l2 l3 l4 l6 l7 l8 e
    rw [F_X12_run_142_0] at e
    cases e
  | succ n K142 =>
    intro h nx l0 l1 l2 l3 l4 l6 l7 l8 e
    rw [F_X12_run_142_s] at e
    refine Ok.iload dX12_run_142 rfl ?_
    refine Ok.aload_n dX12_run_144 rfl ?_
    refine X.rgfR fl_RX12_9 dX12_run_145 e (fun v1 e1 => ?_)
    clear e
    refine Ok.iconstV (v := (nI 1)) dX12_run_148 (by decide +kernel) ?_
    refine X.rnn e1 (fun p2 q e2 => ?_)
    clear e1
    subst q
    refine X.iald dX12_run_149 e2 (fun v3 e3 => ?_)
    clear e2
    refine X.icmp_ge (tgt := 185) dX12_run_150 (by decide) e3 (fun e4 => ?_) (fun e4 => ?_)
    · clear e3
      refine Ok.iconstV (v := (nI 0)) dX12_run_185 (by decide +kernel) ?_
      refine XL.istore dX12_run_186 (by decide) (L := [some (.ref l0), some (.int l1), some (.int l2), some (.int l3), some (.long l4), none, some (.int l6), some (.int l7), some (.int (nI 0))]) rfl ?_
      exact Ok.weakL (k_X12_run_188 (d := d) K53 fuelL e4) ⟨rfl, ⟨rfl, ⟨rfl, ⟨rfl, ⟨rfl, ⟨rfl, ⟨rfl, trivial⟩⟩⟩⟩⟩⟩⟩
    · clear e3
      refine Ok.lload dX12_run_153 rfl ?_
      refine Ok.iload dX12_run_155 rfl ?_
      refine Ok.iload dX12_run_157 rfl ?_
      refine Ok.ishr dX12_run_159 ?_
      refine Ok.iconstV (v := (nI 1)) dX12_run_160 (by decide +kernel) ?_
      refine Ok.iand dX12_run_161 ?_
      refine Ok.iconstV (v := (nI 1)) dX12_run_162 (by decide +kernel) ?_
      refine X.icmp_ne (tgt := 175) dX12_run_163 (by decide) e4 (fun e5 => ?_) (fun e5 => ?_)
      · clear e4
        refine XL.lconst (v := 0) dX12_run_175 (by decide +kernel) ?_
        exact Ok.weakL (k_X12_run_176 (d := d) K53 K142 e5) ⟨rfl, ⟨rfl, ⟨rfl, ⟨rfl, ⟨rfl, ⟨rfl, ⟨rfl, trivial⟩⟩⟩⟩⟩⟩⟩
      · clear e4
        refine Ok.aload_n dX12_run_166 rfl ?_
        refine Ok.iload dX12_run_167 rfl ?_
        refine X.rck e5 (fun c fs hb hc e6 => ?_)
        clear e5
        obtain rfl := List.mem_singleton.mp hc
        refine X.callV (My := mX12_lookNow) (n := 1) (As := [.int l8]) (T := (fun v => (some (.long v)))) (stk' := (fun v => [.long v, .long l4])) (rest := [.long l4]) (kc' := 0) (ks' := 0) dX12_run_169 e6 (fun v h n e => k_X12_lookNow (d := d + 70) e) hb rfl wd1454 wd80 wd1453 wd64 wd1451 (by decide +kernel) rfl (by decide) rfl rfl (Nat.le_of_ble_eq_true rfl) (Nat.le_of_ble_eq_true rfl) (Nat.le_of_ble_eq_true rfl) rfl rfl (fun _ => rfl) (fun r4 h5 n6 e7 => ?_)
        clear e6
        refine Ok.goto (tgt := 176) dX12_run_172 (by decide) ?_
        exact Ok.weakL (k_X12_run_176 (d := d) K53 K142 e7) ⟨rfl, ⟨rfl, ⟨rfl, ⟨rfl, ⟨rfl, ⟨rfl, ⟨rfl, trivial⟩⟩⟩⟩⟩⟩⟩
noncomputable def F_X12_run_130 (G : Gx) (k53 : Hp → Nat → Nat → Int32 → Int32 → Int32 → Int64 → Int32 → Rz Int64) (k75 : Hp → Nat → Nat → Int32 → Int32 → Int32 → Int64 → Int32 → Int32 → Int32 → Rz Int64) (h : Hp) (nx : Nat) (s0 : Int64) (s1 : Int64) (l0 : Nat) (l1 : Int32) (l2 : Int32) (l3 : Int32) (l6 : Int32) (l7 : Int32) (l8 : Int32) : Rz Int64 :=
nm ((s0 + s1)) (fun v1 =>
nm (l8 + (nI 1)) (fun v2 =>
(k75 h nx l0 l1 l2 l3 v1 l6 l7 v2)))
set_option maxRecDepth 100000 in
set_option maxHeartbeats 4000000 in
theorem k_X12_run_130 {G : Gx} {d : Nat} {v' : Int64} {h' : Hp} {n' : Nat} {k53 : Hp → Nat → Nat → Int32 → Int32 → Int32 → Int64 → Int32 → Rz Int64} (K53 : ∀ {h : Hp} {nx : Nat} {l0 : Nat} {l1 : Int32} {l2 : Int32} {l3 : Int32} {l4 : Int64} {l6 : Int32}, k53 h nx l0 l1 l2 l3 l4 l6 = some (v', h', n') → Ok G mX12_run (d + 73) (Same (some (.long v')) h' n') 53 [some (.ref l0), some (.int l1), some (.int l2), some (.int l3), some (.long l4), none, some (.int l6), none, none] [] h nx 0 0) {k75 : Hp → Nat → Nat → Int32 → Int32 → Int32 → Int64 → Int32 → Int32 → Int32 → Rz Int64} (K75 : ∀ {h : Hp} {nx : Nat} {l0 : Nat} {l1 : Int32} {l2 : Int32} {l3 : Int32} {l4 : Int64} {l6 : Int32} {l7 : Int32} {l8 : Int32}, k75 h nx l0 l1 l2 l3 l4 l6 l7 l8 = some (v', h', n') → Ok G mX12_run (d + 73) (Same (some (.long v')) h' n') 75 [some (.ref l0), some (.int l1), some (.int l2), some (.int l3), some (.long l4), none, some (.int l6), some (.int l7), some (.int l8)] [] h nx 0 0) {h : Hp} {nx : Nat} {s0 : Int64} {s1 : Int64} {l0 : Nat} {l1 : Int32} {l2 : Int32} {l3 : Int32} {l6 : Int32} {l7 : Int32} {l8 : Int32} (e : F_X12_run_130 G k53 k75 h nx s0 s1 l0 l1 l2 l3 l6 l7 l8 = some (v', h', n')) : Ok G mX12_run (d + 73) (Same (some (.long v')) h' n') 130 [some (.ref l0), some (.int l1), some (.int l2), some (.int l3), none, none, some (.int l6), some (.int l7), some (.int l8)] [.long s1, .long s0] h nx 0 0 := by
  unfold F_X12_run_130 at e
  refine Ok.ladd dX12_run_130 ?_
  refine X.lstore dX12_run_131 (by decide) e (L := fun v1 => [some (.ref l0), some (.int l1), some (.int l2), some (.int l3), some (.long v1), none, some (.int l6), some (.int l7), some (.int l8)]) (fun _ => rfl) (fun v1 e1 => ?_)
  clear e
  refine X.iinc dX12_run_133 rfl (by decide) (by decide +kernel) e1 (L := fun v2 => [some (.ref l0), some (.int l1), some (.int l2), some (.int l3), some (.long v1), none, some (.int l6), some (.int l7), some (.int v2)]) (fun _ => rfl) (fun v2 e2 => ?_)
  clear e1
  refine Ok.goto (tgt := 75) dX12_run_136 (by decide) ?_
  exact Ok.weakL (K75 e2) ⟨rfl, ⟨rfl, ⟨rfl, ⟨rfl, ⟨rfl, ⟨rfl, ⟨rfl, ⟨rfl, trivial⟩⟩⟩⟩⟩⟩⟩⟩
noncomputable def F_X12_run_75 (G : Gx) (k53 : Hp → Nat → Nat → Int32 → Int32 → Int32 → Int64 → Int32 → Rz Int64) : Nat → Hp → Nat → Nat → Int32 → Int32 → Int32 → Int64 → Int32 → Int32 → Int32 → Rz Int64 := fun n => Nat.rec (motive := fun _ => Hp → Nat → Nat → Int32 → Int32 → Int32 → Int64 → Int32 → Int32 → Int32 → Rz Int64) (fun _ _ _ _ _ _ _ _ _ _ => none) (fun _ k75 => fun h nx l0 l1 l2 l3 l4 l6 l7 l8 =>
gfR h l0 [12] 1 (fun v1 =>
nn v1 (fun p2 =>
alI (g_c G 0) h p2 (nI 1) (fun v3 =>
if v3 ≤ l8 then
(F_X12_run_142 G k53 fuelL h nx l0 l1 l2 l3 l4 l6 l7 (nI 0))
else
gfR h l0 [12] 1 (fun v4 =>
nn v4 (fun p5 =>
alI (g_c G 0) h p5 (((nI 1026) + l8)) (fun v6 =>
if v6 = (nI 1) then
ck h l0 [12] (fun _ =>
cl (F_X12_value G h nx l0 l8 (nI 0)) (fun r10 h11 n12 =>
(F_X12_run_130 G k53 k75 h11 n12 l4 (((1000 : Int64) * (r10.toInt64))) l0 l1 l2 l3 l6 l7 l8)))
else
ck h l0 [12] (fun _ =>
cl (F_X12_value G h nx l0 l8 (nI 1)) (fun r7 h8 n9 =>
(F_X12_run_130 G k53 k75 h8 n9 l4 (((-1000 : Int64) * (r7.toInt64))) l0 l1 l2 l3 l6 l7 l8)))))))))) n
theorem F_X12_run_75_0 {G : Gx} (k53 : Hp → Nat → Nat → Int32 → Int32 → Int32 → Int64 → Int32 → Rz Int64) {h : Hp} {nx : Nat} {l0 : Nat} {l1 : Int32} {l2 : Int32} {l3 : Int32} {l4 : Int64} {l6 : Int32} {l7 : Int32} {l8 : Int32} : F_X12_run_75 G k53 0 h nx l0 l1 l2 l3 l4 l6 l7 l8 = none := rfl
theorem F_X12_run_75_s {G : Gx} (k53 : Hp → Nat → Nat → Int32 → Int32 → Int32 → Int64 → Int32 → Rz Int64) {n : Nat} {h : Hp} {nx : Nat} {l0 : Nat} {l1 : Int32} {l2 : Int32} {l3 : Int32} {l4 : Int64} {l6 : Int32} {l7 : Int32} {l8 : Int32} : F_X12_run_75 G k53 (n + 1) h nx l0 l1 l2 l3 l4 l6 l7 l8 = (
gfR h l0 [12] 1 (fun v1 =>
nn v1 (fun p2 =>
alI (g_c G 0) h p2 (nI 1) (fun v3 =>
if v3 ≤ l8 then
(F_X12_run_142 G k53 fuelL h nx l0 l1 l2 l3 l4 l6 l7 (nI 0))
else
gfR h l0 [12] 1 (fun v4 =>
nn v4 (fun p5 =>
alI (g_c G 0) h p5 (((nI 1026) + l8)) (fun v6 =>
if v6 = (nI 1) then
ck h l0 [12] (fun _ =>
cl (F_X12_value G h nx l0 l8 (nI 0)) (fun r10 h11 n12 =>
(F_X12_run_130 G k53 (F_X12_run_75 G k53 n) h11 n12 l4 (((1000 : Int64) * (r10.toInt64))) l0 l1 l2 l3 l6 l7 l8)))
else
ck h l0 [12] (fun _ =>
cl (F_X12_value G h nx l0 l8 (nI 1)) (fun r7 h8 n9 =>
(F_X12_run_130 G k53 (F_X12_run_75 G k53 n) h8 n9 l4 (((-1000 : Int64) * (r7.toInt64))) l0 l1 l2 l3 l6 l7 l8)))))))))) := rfl
set_option maxRecDepth 100000 in
set_option maxHeartbeats 4000000 in
theorem k_X12_run_75 {G : Gx} {d : Nat} {v' : Int64} {h' : Hp} {n' : Nat} {k53 : Hp → Nat → Nat → Int32 → Int32 → Int32 → Int64 → Int32 → Rz Int64} (K53 : ∀ {h : Hp} {nx : Nat} {l0 : Nat} {l1 : Int32} {l2 : Int32} {l3 : Int32} {l4 : Int64} {l6 : Int32}, k53 h nx l0 l1 l2 l3 l4 l6 = some (v', h', n') → Ok G mX12_run (d + 73) (Same (some (.long v')) h' n') 53 [some (.ref l0), some (.int l1), some (.int l2), some (.int l3), some (.long l4), none, some (.int l6), none, none] [] h nx 0 0) : ∀ (n : Nat) {h : Hp} {nx : Nat} {l0 : Nat} {l1 : Int32} {l2 : Int32} {l3 : Int32} {l4 : Int64} {l6 : Int32} {l7 : Int32} {l8 : Int32}, F_X12_run_75 G k53 n h nx l0 l1 l2 l3 l4 l6 l7 l8 = some (v', h', n') → Ok G mX12_run (d + 73) (Same (some (.long v')) h' n') 75 [some (.ref l0), some (.int l1), some (.int l2), some (.int l3), some (.long l4), none, some (.int l6), some (.int l7), some (.int l8)] [] h nx 0 0 := by
  intro n
  induction n with
  | zero =>
    intro h nx l0 l1 l2 l3 l4 l6 l7 l8 e
    rw [F_X12_run_75_0] at e
    cases e
  | succ n K75 =>
    intro h nx l0 l1 l2 l3 l4 l6 l7 l8 e
    rw [F_X12_run_75_s] at e
    refine Ok.iload dX12_run_75 rfl ?_
    refine Ok.aload_n dX12_run_77 rfl ?_
    refine X.rgfR fl_RX12_9 dX12_run_78 e (fun v1 e1 => ?_)
    clear e
    refine Ok.iconstV (v := (nI 1)) dX12_run_81 (by decide +kernel) ?_
    refine X.rnn e1 (fun p2 q e2 => ?_)
    clear e1
    subst q
    refine X.iald dX12_run_82 e2 (fun v3 e3 => ?_)
    clear e2
    refine X.icmp_ge (tgt := 139) dX12_run_83 (by decide) e3 (fun e4 => ?_) (fun e4 => ?_)
    · clear e3
      refine Ok.iconstV (v := (nI 0)) dX12_run_139 (by decide +kernel) ?_
      refine XL.istore dX12_run_140 (by decide) (L := [some (.ref l0), some (.int l1), some (.int l2), some (.int l3), some (.long l4), none, some (.int l6), some (.int l7), some (.int (nI 0))]) rfl ?_
      exact Ok.weakL (k_X12_run_142 (d := d) K53 fuelL e4) ⟨rfl, ⟨rfl, ⟨rfl, ⟨rfl, ⟨rfl, ⟨rfl, ⟨rfl, ⟨rfl, trivial⟩⟩⟩⟩⟩⟩⟩⟩
    · clear e3
      refine Ok.lload dX12_run_86 rfl ?_
      refine Ok.aload_n dX12_run_88 rfl ?_
      refine X.rgfR fl_RX12_9 dX12_run_89 e4 (fun v4 e5 => ?_)
      clear e4
      refine Ok.sipushV (v := (nI 1026)) dX12_run_92 (by decide +kernel) ?_
      refine Ok.iload dX12_run_95 rfl ?_
      refine Ok.iadd dX12_run_97 ?_
      refine X.rnn e5 (fun p5 q e6 => ?_)
      clear e5
      subst q
      refine X.iald dX12_run_98 e6 (fun v6 e7 => ?_)
      clear e6
      refine Ok.iconstV (v := (nI 1)) dX12_run_99 (by decide +kernel) ?_
      refine X.icmp_ne (tgt := 118) dX12_run_100 (by decide) e7 (fun e8 => ?_) (fun e8 => ?_)
      · clear e7
        refine Ok.ldc2_w (v := -1000) dX12_run_118 wd1433 ?_
        refine Ok.aload_n dX12_run_121 rfl ?_
        refine Ok.iload dX12_run_122 rfl ?_
        refine Ok.iconstV (v := (nI 1)) dX12_run_124 (by decide +kernel) ?_
        refine X.rck e8 (fun c fs hb hc e9 => ?_)
        clear e8
        obtain rfl := List.mem_singleton.mp hc
        refine X.callV (My := mX12_value) (n := 2) (As := [.int l8, .int (nI 1)]) (T := (fun v => (some (.int v)))) (stk' := (fun v => [.int v, .long (-1000 : Int64), .long l4])) (rest := [.long (-1000 : Int64), .long l4]) (kc' := 0) (ks' := 0) dX12_run_125 e9 (fun v h n e => k_X12_value (d := d + 72) e) hb rfl wd1319 wd80 wd1318 wd44 wd1316 (by decide +kernel) rfl (by decide) rfl rfl (Nat.le_of_ble_eq_true rfl) (Nat.le_of_ble_eq_true rfl) (Nat.le_of_ble_eq_true rfl) rfl rfl (fun _ => rfl) (fun r7 h8 n9 e10 => ?_)
        clear e9
        refine Ok.i2l dX12_run_128 ?_
        refine Ok.lmul dX12_run_129 ?_
        exact Ok.weakL (k_X12_run_130 (d := d) K53 K75 e10) ⟨rfl, ⟨rfl, ⟨rfl, ⟨rfl, ⟨rfl, ⟨rfl, ⟨rfl, trivial⟩⟩⟩⟩⟩⟩⟩
      · clear e7
        refine Ok.ldc2_w (v := 1000) dX12_run_103 wd1295 ?_
        refine Ok.aload_n dX12_run_106 rfl ?_
        refine Ok.iload dX12_run_107 rfl ?_
        refine Ok.iconstV (v := (nI 0)) dX12_run_109 (by decide +kernel) ?_
        refine X.rck e8 (fun c fs hb hc e9 => ?_)
        clear e8
        obtain rfl := List.mem_singleton.mp hc
        refine X.callV (My := mX12_value) (n := 2) (As := [.int l8, .int (nI 0)]) (T := (fun v => (some (.int v)))) (stk' := (fun v => [.int v, .long (1000 : Int64), .long l4])) (rest := [.long (1000 : Int64), .long l4]) (kc' := 0) (ks' := 0) dX12_run_110 e9 (fun v h n e => k_X12_value (d := d + 72) e) hb rfl wd1319 wd80 wd1318 wd44 wd1316 (by decide +kernel) rfl (by decide) rfl rfl (Nat.le_of_ble_eq_true rfl) (Nat.le_of_ble_eq_true rfl) (Nat.le_of_ble_eq_true rfl) rfl rfl (fun _ => rfl) (fun r10 h11 n12 e10 => ?_)
        clear e9
        refine Ok.i2l dX12_run_113 ?_
        refine Ok.lmul dX12_run_114 ?_
        refine Ok.goto (tgt := 130) dX12_run_115 (by decide) ?_
        exact Ok.weakL (k_X12_run_130 (d := d) K53 K75 e10) ⟨rfl, ⟨rfl, ⟨rfl, ⟨rfl, ⟨rfl, ⟨rfl, ⟨rfl, trivial⟩⟩⟩⟩⟩⟩⟩
noncomputable def F_X12_run_53 (G : Gx) : Nat → Hp → Nat → Nat → Int32 → Int32 → Int32 → Int64 → Int32 → Rz Int64 := fun n => Nat.rec (motive := fun _ => Hp → Nat → Nat → Int32 → Int32 → Int32 → Int64 → Int32 → Rz Int64) (fun _ _ _ _ _ _ _ _ => none) (fun _ k53 => fun h nx l0 l1 l2 l3 l4 l6 =>
if l2 ≤ l6 then
some (l4, h, nx)
else
gfR h l0 [12] 1 (fun v1 =>
nn v1 (fun p2 =>
alI (g_c G 0) h p2 (nI 3) (fun v3 =>
ck h l0 [12] (fun _ =>
cl (F_X12_whomOn G h nx l0 l1 v3) (fun r4 h5 n6 =>
(F_X12_run_75 G k53 fuelL h5 n6 l0 l1 l2 l3 l4 l6 r4 (nI 0)))))))) n
theorem F_X12_run_53_0 {G : Gx} {h : Hp} {nx : Nat} {l0 : Nat} {l1 : Int32} {l2 : Int32} {l3 : Int32} {l4 : Int64} {l6 : Int32} : F_X12_run_53 G 0 h nx l0 l1 l2 l3 l4 l6 = none := rfl
theorem F_X12_run_53_s {G : Gx} {n : Nat} {h : Hp} {nx : Nat} {l0 : Nat} {l1 : Int32} {l2 : Int32} {l3 : Int32} {l4 : Int64} {l6 : Int32} : F_X12_run_53 G (n + 1) h nx l0 l1 l2 l3 l4 l6 = (
if l2 ≤ l6 then
some (l4, h, nx)
else
gfR h l0 [12] 1 (fun v1 =>
nn v1 (fun p2 =>
alI (g_c G 0) h p2 (nI 3) (fun v3 =>
ck h l0 [12] (fun _ =>
cl (F_X12_whomOn G h nx l0 l1 v3) (fun r4 h5 n6 =>
(F_X12_run_75 G (F_X12_run_53 G n) fuelL h5 n6 l0 l1 l2 l3 l4 l6 r4 (nI 0)))))))) := rfl
set_option maxRecDepth 100000 in
set_option maxHeartbeats 4000000 in
theorem k_X12_run_53 {G : Gx} {d : Nat} {v' : Int64} {h' : Hp} {n' : Nat} : ∀ (n : Nat) {h : Hp} {nx : Nat} {l0 : Nat} {l1 : Int32} {l2 : Int32} {l3 : Int32} {l4 : Int64} {l6 : Int32}, F_X12_run_53 G n h nx l0 l1 l2 l3 l4 l6 = some (v', h', n') → Ok G mX12_run (d + 73) (Same (some (.long v')) h' n') 53 [some (.ref l0), some (.int l1), some (.int l2), some (.int l3), some (.long l4), none, some (.int l6), none, none] [] h nx 0 0 := by
  intro n
  induction n with
  | zero =>
    intro h nx l0 l1 l2 l3 l4 l6 e
    rw [F_X12_run_53_0] at e
    cases e
  | succ n K53 =>
    intro h nx l0 l1 l2 l3 l4 l6 e
    rw [F_X12_run_53_s] at e
    refine Ok.iload dX12_run_53 rfl ?_
    refine Ok.iload_n dX12_run_55 rfl ?_
    refine X.icmp_ge (tgt := 232) dX12_run_56 (by decide) e (fun e1 => ?_) (fun e1 => ?_)
    · clear e
      refine Ok.lload dX12_run_232 rfl ?_
      exact X.lret dX12_run_234 rfl (Nat.le_of_ble_eq_true rfl) (Nat.le_of_ble_eq_true rfl) e1
    · clear e
      refine Ok.aload_n dX12_run_59 rfl ?_
      refine Ok.iload_n dX12_run_60 rfl ?_
      refine Ok.aload_n dX12_run_61 rfl ?_
      refine X.rgfR fl_RX12_9 dX12_run_62 e1 (fun v1 e2 => ?_)
      clear e1
      refine Ok.iconstV (v := (nI 3)) dX12_run_65 (by decide +kernel) ?_
      refine X.rnn e2 (fun p2 q e3 => ?_)
      clear e2
      subst q
      refine X.iald dX12_run_66 e3 (fun v3 e4 => ?_)
      clear e3
      refine X.rck e4 (fun c fs hb hc e5 => ?_)
      clear e4
      obtain rfl := List.mem_singleton.mp hc
      refine X.callV (My := mX12_whomOn) (n := 2) (As := [.int l1, .int v3]) (T := (fun v => (some (.int v)))) (stk' := (fun v => [.int v])) (rest := []) (kc' := 0) (ks' := 0) dX12_run_67 e5 (fun v h n e => k_X12_whomOn (d := d + 0) e) hb rfl wd1372 wd80 wd1371 wd51 wd1369 (by decide +kernel) rfl (by decide) rfl rfl (Nat.le_of_ble_eq_true rfl) (Nat.le_of_ble_eq_true rfl) (Nat.le_of_ble_eq_true rfl) rfl rfl (fun _ => rfl) (fun r4 h5 n6 e6 => ?_)
      clear e5
      refine XL.istore dX12_run_70 (by decide) (L := [some (.ref l0), some (.int l1), some (.int l2), some (.int l3), some (.long l4), none, some (.int l6), some (.int r4), none]) rfl ?_
      refine Ok.iconstV (v := (nI 0)) dX12_run_72 (by decide +kernel) ?_
      refine XL.istore dX12_run_73 (by decide) (L := [some (.ref l0), some (.int l1), some (.int l2), some (.int l3), some (.long l4), none, some (.int l6), some (.int r4), some (.int (nI 0))]) rfl ?_
      exact Ok.weakL (k_X12_run_75 (d := d) K53 fuelL e6) ⟨rfl, ⟨rfl, ⟨rfl, ⟨rfl, ⟨rfl, ⟨rfl, ⟨rfl, ⟨rfl, trivial⟩⟩⟩⟩⟩⟩⟩⟩
noncomputable def F_X12_run (G : Gx) (h : Hp) (nx : Nat) (a0 : Nat) (a1 : Int32) (a2 : Int32) (a3 : Int32) : Rz Int64 :=
ck h a0 [12] (fun _ =>
cl (F_X12_isPlan G h nx a0 a1) (fun r1 h2 n3 =>
if r1 = 0 then
(F_X12_run_43 G h2 n3)
else
cl (F_X12_in G h2 n3 a2 (nI 1) (nI 30)) (fun r4 h5 n6 =>
if r4 = 0 then
(F_X12_run_43 G h5 n6)
else
cl (F_X12_in G h5 n6 a3 (nI 0) (nI 999)) (fun r7 h8 n9 =>
if r7 = 0 then
(F_X12_run_43 G h8 n9)
else
gfR h8 a0 [12] 1 (fun v10 =>
nn v10 (fun p11 =>
alI (g_c G 0) h8 p11 (nI 3) (fun v12 =>
if ((v12 + a2)) ≤ (nI 999) then
(F_X12_run_53 G fuelL h8 n9 a0 a1 a2 a3 (0 : Int64) (nI 0))
else
(F_X12_run_43 G h8 n9))))))))
set_option maxRecDepth 100000 in
set_option maxHeartbeats 4000000 in
theorem k_X12_run {G : Gx} {d : Nat} {h : Hp} {nx : Nat} {a0 : Nat} {a1 : Int32} {a2 : Int32} {a3 : Int32} {v' : Int64} {h' : Hp} {n' : Nat} (e : F_X12_run G h nx a0 a1 a2 a3 = some (v', h', n')) : Ct G mX12_run (d + 73) (Same (some (.long v')) h' n') [.ref a0, .int a1, .int a2, .int a3] h nx := by
  unfold F_X12_run at e
  refine Ct.of (ls := [some (.ref a0), some (.int a1), some (.int a2), some (.int a3), none, none, none, none, none]) (by decide +kernel) rfl (Nat.le_of_ble_eq_true rfl) rfl ?_
  refine Ok.aload_n dX12_run_0 rfl ?_
  refine Ok.iload_n dX12_run_1 rfl ?_
  refine X.rck e (fun c fs hb hc e1 => ?_)
  clear e
  obtain rfl := List.mem_singleton.mp hc
  refine X.callV (My := mX12_isPlan) (n := 1) (As := [.int a1]) (T := (fun v => (some (.int v)))) (stk' := (fun v => [.int v])) (rest := []) (kc' := 0) (ks' := 0) dX12_run_2 e1 (fun v h n e => k_X12_isPlan (d := d + 71) e) hb rfl wd1364 wd80 wd1363 wd50 wd1361 (by decide +kernel) rfl (by decide) rfl rfl (Nat.le_of_ble_eq_true rfl) (Nat.le_of_ble_eq_true rfl) (Nat.le_of_ble_eq_true rfl) rfl rfl (fun _ => rfl) (fun r1 h2 n3 e2 => ?_)
  clear e1
  refine X.if_eq (tgt := 43) dX12_run_5 (by decide) e2 (fun e3 => ?_) (fun e3 => ?_)
  · clear e2
    exact Ok.weakL (k_X12_run_43 (d := d) e3) trivial
  · clear e2
    refine Ok.iload_n dX12_run_8 rfl ?_
    refine Ok.iconstV (v := (nI 1)) dX12_run_9 (by decide +kernel) ?_
    refine Ok.bipushV (v := (nI 30)) dX12_run_10 (by decide +kernel) ?_
    refine X.callS (My := mX12_in) (n := 3) (As := [.int a2, .int (nI 1), .int (nI 30)]) (T := (fun v => (some (.int v)))) (stk' := (fun v => [.int v])) (rest := []) (kc' := 0) (ks' := 0) dX12_run_12 e3 (fun v h n e => k_X12_in (d := d + 72) e) wd1196 wd80 wd1195 wd1194 (by decide +kernel) rfl (by decide) rfl rfl (Nat.le_of_ble_eq_true rfl) (Nat.le_of_ble_eq_true rfl) (Nat.le_of_ble_eq_true rfl) rfl rfl (fun _ => rfl) (fun r4 h5 n6 e4 => ?_)
    clear e3
    refine X.if_eq (tgt := 43) dX12_run_15 (by decide) e4 (fun e5 => ?_) (fun e5 => ?_)
    · clear e4
      exact Ok.weakL (k_X12_run_43 (d := d) e5) trivial
    · clear e4
      refine Ok.iload_n dX12_run_18 rfl ?_
      refine Ok.iconstV (v := (nI 0)) dX12_run_19 (by decide +kernel) ?_
      refine Ok.sipushV (v := (nI 999)) dX12_run_20 (by decide +kernel) ?_
      refine X.callS (My := mX12_in) (n := 3) (As := [.int a3, .int (nI 0), .int (nI 999)]) (T := (fun v => (some (.int v)))) (stk' := (fun v => [.int v])) (rest := []) (kc' := 0) (ks' := 0) dX12_run_23 e5 (fun v h n e => k_X12_in (d := d + 72) e) wd1196 wd80 wd1195 wd1194 (by decide +kernel) rfl (by decide) rfl rfl (Nat.le_of_ble_eq_true rfl) (Nat.le_of_ble_eq_true rfl) (Nat.le_of_ble_eq_true rfl) rfl rfl (fun _ => rfl) (fun r7 h8 n9 e6 => ?_)
      clear e5
      refine X.if_eq (tgt := 43) dX12_run_26 (by decide) e6 (fun e7 => ?_) (fun e7 => ?_)
      · clear e6
        exact Ok.weakL (k_X12_run_43 (d := d) e7) trivial
      · clear e6
        refine Ok.aload_n dX12_run_29 rfl ?_
        refine X.rgfR fl_RX12_9 dX12_run_30 e7 (fun v10 e8 => ?_)
        clear e7
        refine Ok.iconstV (v := (nI 3)) dX12_run_33 (by decide +kernel) ?_
        refine X.rnn e8 (fun p11 q e9 => ?_)
        clear e8
        subst q
        refine X.iald dX12_run_34 e9 (fun v12 e10 => ?_)
        clear e9
        refine Ok.iload_n dX12_run_35 rfl ?_
        refine Ok.iadd dX12_run_36 ?_
        refine Ok.sipushV (v := (nI 999)) dX12_run_37 (by decide +kernel) ?_
        refine X.icmp_le (tgt := 47) dX12_run_40 (by decide) e10 (fun e11 => ?_) (fun e11 => ?_)
        · clear e10
          refine XL.lconst (v := 0) dX12_run_47 (by decide +kernel) ?_
          refine XL.lstore dX12_run_48 (by decide) (L := [some (.ref a0), some (.int a1), some (.int a2), some (.int a3), some (.long (0 : Int64)), none, none, none, none]) rfl ?_
          refine Ok.iconstV (v := (nI 0)) dX12_run_50 (by decide +kernel) ?_
          refine XL.istore dX12_run_51 (by decide) (L := [some (.ref a0), some (.int a1), some (.int a2), some (.int a3), some (.long (0 : Int64)), none, some (.int (nI 0)), none, none]) rfl ?_
          exact Ok.weakL (k_X12_run_53 (d := d) fuelL e11) ⟨rfl, ⟨rfl, ⟨rfl, ⟨rfl, ⟨rfl, ⟨rfl, trivial⟩⟩⟩⟩⟩⟩
        · clear e10
          exact Ok.weakL (k_X12_run_43 (d := d) e11) trivial
noncomputable def F_X12_round_29 (G : Gx) (h : Hp) (nx : Nat) : Rz Int64 :=
some ((-9223372036854775808 : Int64), h, nx)
set_option maxRecDepth 100000 in
set_option maxHeartbeats 4000000 in
theorem k_X12_round_29 {G : Gx} {d : Nat} {v' : Int64} {h' : Hp} {n' : Nat} {h : Hp} {nx : Nat} (e : F_X12_round_29 G h nx = some (v', h', n')) : Ok G mX12_round (d + 139) (Same (some (.long v')) h' n') 29 [none, none, none, none, none, none, none, none, none, none, none] [] h nx 0 0 := by
  unfold F_X12_round_29 at e
  refine Ok.ldc2_w (v := -9223372036854775808) dX12_round_29 wd1311 ?_
  exact X.lret dX12_round_32 rfl (Nat.le_of_ble_eq_true rfl) (Nat.le_of_ble_eq_true rfl) e
noncomputable def F_X12_round_211 (G : Gx) (h : Hp) (nx : Nat) (s0 : Int64) : Rz Int64 :=
some (s0, h, nx)
set_option maxRecDepth 100000 in
set_option maxHeartbeats 4000000 in
theorem k_X12_round_211 {G : Gx} {d : Nat} {v' : Int64} {h' : Hp} {n' : Nat} {h : Hp} {nx : Nat} {s0 : Int64} (e : F_X12_round_211 G h nx s0 = some (v', h', n')) : Ok G mX12_round (d + 139) (Same (some (.long v')) h' n') 211 [none, none, none, none, none, none, none, none, none, none, none] [.long s0] h nx 0 0 := by
  unfold F_X12_round_211 at e
  exact X.lret dX12_round_211 rfl (Nat.le_of_ble_eq_true rfl) (Nat.le_of_ble_eq_true rfl) e
noncomputable def F_X12_round_183 (G : Gx) (k65 : Hp → Nat → Nat → Int32 → Int32 → Int32 → Int64 → Int32 → Rz Int64) (h : Hp) (nx : Nat) (l0 : Nat) (l1 : Int32) (l2 : Int32) (l3 : Int32) (l4 : Int64) (l6 : Int32) : Rz Int64 :=
nm (l6 + (nI 1)) (fun v1 =>
(k65 h nx l0 l1 l2 l3 l4 v1))
set_option maxRecDepth 100000 in
set_option maxHeartbeats 4000000 in
theorem k_X12_round_183 {G : Gx} {d : Nat} {v' : Int64} {h' : Hp} {n' : Nat} {k65 : Hp → Nat → Nat → Int32 → Int32 → Int32 → Int64 → Int32 → Rz Int64} (K65 : ∀ {h : Hp} {nx : Nat} {l0 : Nat} {l1 : Int32} {l2 : Int32} {l3 : Int32} {l4 : Int64} {l6 : Int32}, k65 h nx l0 l1 l2 l3 l4 l6 = some (v', h', n') → Ok G mX12_round (d + 139) (Same (some (.long v')) h' n') 65 [some (.ref l0), some (.int l1), some (.int l2), some (.int l3), some (.long l4), none, some (.int l6), none, none, none, none] [] h nx 0 0) {h : Hp} {nx : Nat} {l0 : Nat} {l1 : Int32} {l2 : Int32} {l3 : Int32} {l4 : Int64} {l6 : Int32} (e : F_X12_round_183 G k65 h nx l0 l1 l2 l3 l4 l6 = some (v', h', n')) : Ok G mX12_round (d + 139) (Same (some (.long v')) h' n') 183 [some (.ref l0), some (.int l1), some (.int l2), some (.int l3), some (.long l4), none, some (.int l6), none, none, none, none] [] h nx 0 0 := by
  unfold F_X12_round_183 at e
  refine X.iinc dX12_round_183 rfl (by decide) (by decide +kernel) e (L := fun v1 => [some (.ref l0), some (.int l1), some (.int l2), some (.int l3), some (.long l4), none, some (.int v1), none, none, none, none]) (fun _ => rfl) (fun v1 e1 => ?_)
  clear e
  refine Ok.goto (tgt := 65) dX12_round_186 (by decide) ?_
  exact Ok.weakL (K65 e1) ⟨rfl, ⟨rfl, ⟨rfl, ⟨rfl, ⟨rfl, ⟨rfl, trivial⟩⟩⟩⟩⟩⟩
noncomputable def F_X12_round_157 (G : Gx) (k65 : Hp → Nat → Nat → Int32 → Int32 → Int32 → Int64 → Int32 → Rz Int64) : Nat → Hp → Nat → Nat → Int32 → Int32 → Int32 → Int64 → Int32 → Int32 → Rz Int64 := fun n => Nat.rec (motive := fun _ => Hp → Nat → Nat → Int32 → Int32 → Int32 → Int64 → Int32 → Int32 → Rz Int64) (fun _ _ _ _ _ _ _ _ _ => none) (fun _ k157 => fun h nx l0 l1 l2 l3 l4 l6 l10 =>
if l1 ≤ l10 then
(F_X12_round_183 G k65 h nx l0 l1 l2 l3 l4 l6)
else
gfR h l0 [12] 28 (fun v1 =>
gfR h l0 [12] 24 (fun v2 =>
nn v2 (fun p3 =>
alI (g_c G 0) h p3 l10 (fun v4 =>
nn v1 (fun p5 =>
asI (g_c G 0) id h p5 l10 v4 (fun h6 =>
nm (l10 + (nI 1)) (fun v7 =>
(k157 h6 nx l0 l1 l2 l3 l4 l6 v7))))))))) n
theorem F_X12_round_157_0 {G : Gx} (k65 : Hp → Nat → Nat → Int32 → Int32 → Int32 → Int64 → Int32 → Rz Int64) {h : Hp} {nx : Nat} {l0 : Nat} {l1 : Int32} {l2 : Int32} {l3 : Int32} {l4 : Int64} {l6 : Int32} {l10 : Int32} : F_X12_round_157 G k65 0 h nx l0 l1 l2 l3 l4 l6 l10 = none := rfl
theorem F_X12_round_157_s {G : Gx} (k65 : Hp → Nat → Nat → Int32 → Int32 → Int32 → Int64 → Int32 → Rz Int64) {n : Nat} {h : Hp} {nx : Nat} {l0 : Nat} {l1 : Int32} {l2 : Int32} {l3 : Int32} {l4 : Int64} {l6 : Int32} {l10 : Int32} : F_X12_round_157 G k65 (n + 1) h nx l0 l1 l2 l3 l4 l6 l10 = (
if l1 ≤ l10 then
(F_X12_round_183 G k65 h nx l0 l1 l2 l3 l4 l6)
else
gfR h l0 [12] 28 (fun v1 =>
gfR h l0 [12] 24 (fun v2 =>
nn v2 (fun p3 =>
alI (g_c G 0) h p3 l10 (fun v4 =>
nn v1 (fun p5 =>
asI (g_c G 0) id h p5 l10 v4 (fun h6 =>
nm (l10 + (nI 1)) (fun v7 =>
((F_X12_round_157 G k65 n) h6 nx l0 l1 l2 l3 l4 l6 v7))))))))) := rfl
set_option maxRecDepth 100000 in
set_option maxHeartbeats 4000000 in
theorem k_X12_round_157 {G : Gx} {d : Nat} {v' : Int64} {h' : Hp} {n' : Nat} {k65 : Hp → Nat → Nat → Int32 → Int32 → Int32 → Int64 → Int32 → Rz Int64} (K65 : ∀ {h : Hp} {nx : Nat} {l0 : Nat} {l1 : Int32} {l2 : Int32} {l3 : Int32} {l4 : Int64} {l6 : Int32}, k65 h nx l0 l1 l2 l3 l4 l6 = some (v', h', n') → Ok G mX12_round (d + 139) (Same (some (.long v')) h' n') 65 [some (.ref l0), some (.int l1), some (.int l2), some (.int l3), some (.long l4), none, some (.int l6), none, none, none, none] [] h nx 0 0) : ∀ (n : Nat) {h : Hp} {nx : Nat} {l0 : Nat} {l1 : Int32} {l2 : Int32} {l3 : Int32} {l4 : Int64} {l6 : Int32} {l10 : Int32}, F_X12_round_157 G k65 n h nx l0 l1 l2 l3 l4 l6 l10 = some (v', h', n') → Ok G mX12_round (d + 139) (Same (some (.long v')) h' n') 157 [some (.ref l0), some (.int l1), some (.int l2), some (.int l3), some (.long l4), none, some (.int l6), none, none, none, some (.int l10)] [] h nx 0 0 := by
  intro n
  induction n with
  | zero =>
    intro h nx l0 l1 l2 l3 l4 l6 l10 e
    rw [F_X12_round_157_0] at e
    cases e
  | succ n K157 =>
    intro h nx l0 l1 l2 l3 l4 l6 l10 e
    rw [F_X12_round_157_s] at e
    refine Ok.iload dX12_round_157 rfl ?_
    refine Ok.iload_n dX12_round_159 rfl ?_
    refine X.icmp_ge (tgt := 183) dX12_round_160 (by decide) e (fun e1 => ?_) (fun e1 => ?_)
    · clear e
      exact Ok.weakL (k_X12_round_183 (d := d) K65 e1) ⟨rfl, ⟨rfl, ⟨rfl, ⟨rfl, ⟨rfl, ⟨rfl, trivial⟩⟩⟩⟩⟩⟩
    · clear e
      refine Ok.aload_n dX12_round_163 rfl ?_
      refine X.rgfR fl_RX12_60 dX12_round_164 e1 (fun v1 e2 => ?_)
      clear e1
      refine Ok.iload dX12_round_167 rfl ?_
      refine Ok.aload_n dX12_round_169 rfl ?_
      refine X.rgfR fl_RX12_54 dX12_round_170 e2 (fun v2 e3 => ?_)
      clear e2
      refine Ok.iload dX12_round_173 rfl ?_
      refine X.rnn e3 (fun p3 q e4 => ?_)
      clear e3
      subst q
      refine X.iald dX12_round_175 e4 (fun v4 e5 => ?_)
      clear e4
      refine X.rnn e5 (fun p5 q e6 => ?_)
      clear e5
      subst q
      refine X.iast dX12_round_176 e6 (fun h6 e7 => ?_)
      clear e6
      refine X.iinc dX12_round_177 rfl (by decide) (by decide +kernel) e7 (L := fun v7 => [some (.ref l0), some (.int l1), some (.int l2), some (.int l3), some (.long l4), none, some (.int l6), none, none, none, some (.int v7)]) (fun _ => rfl) (fun v7 e8 => ?_)
      clear e7
      refine Ok.goto (tgt := 157) dX12_round_180 (by decide) ?_
      exact Ok.weakL (K157 e8) ⟨rfl, ⟨rfl, ⟨rfl, ⟨rfl, ⟨rfl, ⟨rfl, ⟨rfl, trivial⟩⟩⟩⟩⟩⟩⟩
noncomputable def F_X12_round_150 (G : Gx) (k65 : Hp → Nat → Nat → Int32 → Int32 → Int32 → Int64 → Int32 → Rz Int64) (h : Hp) (nx : Nat) (l0 : Nat) (l1 : Int32) (l2 : Int32) (l3 : Int32) (l6 : Int32) (l8 : Int64) : Rz Int64 :=
(F_X12_round_157 G k65 fuelL h nx l0 l1 l2 l3 l8 l6 (nI 0))
set_option maxRecDepth 100000 in
set_option maxHeartbeats 4000000 in
theorem k_X12_round_150 {G : Gx} {d : Nat} {v' : Int64} {h' : Hp} {n' : Nat} {k65 : Hp → Nat → Nat → Int32 → Int32 → Int32 → Int64 → Int32 → Rz Int64} (K65 : ∀ {h : Hp} {nx : Nat} {l0 : Nat} {l1 : Int32} {l2 : Int32} {l3 : Int32} {l4 : Int64} {l6 : Int32}, k65 h nx l0 l1 l2 l3 l4 l6 = some (v', h', n') → Ok G mX12_round (d + 139) (Same (some (.long v')) h' n') 65 [some (.ref l0), some (.int l1), some (.int l2), some (.int l3), some (.long l4), none, some (.int l6), none, none, none, none] [] h nx 0 0) {h : Hp} {nx : Nat} {l0 : Nat} {l1 : Int32} {l2 : Int32} {l3 : Int32} {l6 : Int32} {l8 : Int64} (e : F_X12_round_150 G k65 h nx l0 l1 l2 l3 l6 l8 = some (v', h', n')) : Ok G mX12_round (d + 139) (Same (some (.long v')) h' n') 150 [some (.ref l0), some (.int l1), some (.int l2), some (.int l3), none, none, some (.int l6), none, some (.long l8), none, none] [] h nx 0 0 := by
  unfold F_X12_round_150 at e
  refine Ok.lload dX12_round_150 rfl ?_
  refine XL.lstore dX12_round_152 (by decide) (L := [some (.ref l0), some (.int l1), some (.int l2), some (.int l3), some (.long l8), none, some (.int l6), none, some (.long l8), none, none]) rfl ?_
  refine Ok.iconstV (v := (nI 0)) dX12_round_154 (by decide +kernel) ?_
  refine XL.istore dX12_round_155 (by decide) (L := [some (.ref l0), some (.int l1), some (.int l2), some (.int l3), some (.long l8), none, some (.int l6), none, some (.long l8), none, some (.int (nI 0))]) rfl ?_
  exact Ok.weakL (k_X12_round_157 (d := d) K65 fuelL e) ⟨rfl, ⟨rfl, ⟨rfl, ⟨rfl, ⟨rfl, ⟨rfl, ⟨rfl, trivial⟩⟩⟩⟩⟩⟩⟩
noncomputable def F_X12_round_80 (G : Gx) (k65 : Hp → Nat → Nat → Int32 → Int32 → Int32 → Int64 → Int32 → Rz Int64) : Nat → Hp → Nat → Nat → Int32 → Int32 → Int32 → Int64 → Int32 → Int32 → Int32 → Rz Int64 := fun n => Nat.rec (motive := fun _ => Hp → Nat → Nat → Int32 → Int32 → Int32 → Int64 → Int32 → Int32 → Int32 → Rz Int64) (fun _ _ _ _ _ _ _ _ _ _ => none) (fun _ k80 => fun h nx l0 l1 l2 l3 l4 l6 l7 l8 =>
if l8 < 0 then
pfV h l0 [12] 25 (.int l1) (fun h1 =>
gfR h1 l0 [12] 1 (fun v2 =>
nn v2 (fun p3 =>
alI (g_c G 0) h1 p3 (nI 3) (fun v4 =>
ck h1 l0 [12] (fun _ =>
cl (F_X12_meanFrom G 64 h1 nx l0 (-1 : Int32) v4 (nI 3)) (fun r5 h6 n7 =>
if l6 = 0 then
(F_X12_round_150 G k65 h6 n7 l0 l1 l2 l3 l6 r5)
else
if ((lg_cmp r5 l4)) ≤ 0 then
(F_X12_round_183 G k65 h6 n7 l0 l1 l2 l3 l4 l6)
else
(F_X12_round_150 G k65 h6 n7 l0 l1 l2 l3 l6 r5)))))))
else
gfR h l0 [12] 24 (fun v8 =>
gfR h l0 [12] 1 (fun v9 =>
nn v9 (fun p10 =>
alI (g_c G 0) h p10 (nI 1) (fun v11 =>
dzI v11 (
nn v8 (fun p12 =>
asI (g_c G 0) id h p12 l8 ((l7 - l7 / v11 * v11)) (fun h13 =>
gfR h13 l0 [12] 1 (fun v14 =>
nn v14 (fun p15 =>
alI (g_c G 0) h13 p15 (nI 1) (fun v16 =>
dzI v16 (
nm ((l7 / v16)) (fun v17 =>
nm (l8 + (-1 : Int32)) (fun v18 =>
(k80 h13 nx l0 l1 l2 l3 l4 l6 v17 v18))))))))))))))) n
theorem F_X12_round_80_0 {G : Gx} (k65 : Hp → Nat → Nat → Int32 → Int32 → Int32 → Int64 → Int32 → Rz Int64) {h : Hp} {nx : Nat} {l0 : Nat} {l1 : Int32} {l2 : Int32} {l3 : Int32} {l4 : Int64} {l6 : Int32} {l7 : Int32} {l8 : Int32} : F_X12_round_80 G k65 0 h nx l0 l1 l2 l3 l4 l6 l7 l8 = none := rfl
theorem F_X12_round_80_s {G : Gx} (k65 : Hp → Nat → Nat → Int32 → Int32 → Int32 → Int64 → Int32 → Rz Int64) {n : Nat} {h : Hp} {nx : Nat} {l0 : Nat} {l1 : Int32} {l2 : Int32} {l3 : Int32} {l4 : Int64} {l6 : Int32} {l7 : Int32} {l8 : Int32} : F_X12_round_80 G k65 (n + 1) h nx l0 l1 l2 l3 l4 l6 l7 l8 = (
if l8 < 0 then
pfV h l0 [12] 25 (.int l1) (fun h1 =>
gfR h1 l0 [12] 1 (fun v2 =>
nn v2 (fun p3 =>
alI (g_c G 0) h1 p3 (nI 3) (fun v4 =>
ck h1 l0 [12] (fun _ =>
cl (F_X12_meanFrom G 64 h1 nx l0 (-1 : Int32) v4 (nI 3)) (fun r5 h6 n7 =>
if l6 = 0 then
(F_X12_round_150 G k65 h6 n7 l0 l1 l2 l3 l6 r5)
else
if ((lg_cmp r5 l4)) ≤ 0 then
(F_X12_round_183 G k65 h6 n7 l0 l1 l2 l3 l4 l6)
else
(F_X12_round_150 G k65 h6 n7 l0 l1 l2 l3 l6 r5)))))))
else
gfR h l0 [12] 24 (fun v8 =>
gfR h l0 [12] 1 (fun v9 =>
nn v9 (fun p10 =>
alI (g_c G 0) h p10 (nI 1) (fun v11 =>
dzI v11 (
nn v8 (fun p12 =>
asI (g_c G 0) id h p12 l8 ((l7 - l7 / v11 * v11)) (fun h13 =>
gfR h13 l0 [12] 1 (fun v14 =>
nn v14 (fun p15 =>
alI (g_c G 0) h13 p15 (nI 1) (fun v16 =>
dzI v16 (
nm ((l7 / v16)) (fun v17 =>
nm (l8 + (-1 : Int32)) (fun v18 =>
((F_X12_round_80 G k65 n) h13 nx l0 l1 l2 l3 l4 l6 v17 v18))))))))))))))) := rfl
set_option maxRecDepth 100000 in
set_option maxHeartbeats 4000000 in
theorem k_X12_round_80 {G : Gx} {d : Nat} {v' : Int64} {h' : Hp} {n' : Nat} {k65 : Hp → Nat → Nat → Int32 → Int32 → Int32 → Int64 → Int32 → Rz Int64} (K65 : ∀ {h : Hp} {nx : Nat} {l0 : Nat} {l1 : Int32} {l2 : Int32} {l3 : Int32} {l4 : Int64} {l6 : Int32}, k65 h nx l0 l1 l2 l3 l4 l6 = some (v', h', n') → Ok G mX12_round (d + 139) (Same (some (.long v')) h' n') 65 [some (.ref l0), some (.int l1), some (.int l2), some (.int l3), some (.long l4), none, some (.int l6), none, none, none, none] [] h nx 0 0) : ∀ (n : Nat) {h : Hp} {nx : Nat} {l0 : Nat} {l1 : Int32} {l2 : Int32} {l3 : Int32} {l4 : Int64} {l6 : Int32} {l7 : Int32} {l8 : Int32}, F_X12_round_80 G k65 n h nx l0 l1 l2 l3 l4 l6 l7 l8 = some (v', h', n') → Ok G mX12_round (d + 139) (Same (some (.long v')) h' n') 80 [some (.ref l0), some (.int l1), some (.int l2), some (.int l3), some (.long l4), none, some (.int l6), some (.int l7), some (.int l8), none, none] [] h nx 0 0 := by
  intro n
  induction n with
  | zero =>
    intro h nx l0 l1 l2 l3 l4 l6 l7 l8 e
    rw [F_X12_round_80_0] at e
    cases e
  | succ n K80 =>
    intro h nx l0 l1 l2 l3 l4 l6 l7 l8 e
    rw [F_X12_round_80_s] at e
    refine Ok.iload dX12_round_80 rfl ?_
    refine X.if_lt (tgt := 118) dX12_round_82 (by decide) e (fun e1 => ?_) (fun e1 => ?_)
    · clear e
      refine Ok.aload_n dX12_round_118 rfl ?_
      refine Ok.iload_n dX12_round_119 rfl ?_
      refine X.rpfV (v := (.int l1)) fp_RX12_244 rfl rfl dX12_round_120 e1 (fun h1 e2 => ?_)
      clear e1
      refine Ok.aload_n dX12_round_123 rfl ?_
      refine Ok.iconstV (v := (-1 : Int32)) dX12_round_124 (by decide +kernel) ?_
      refine Ok.aload_n dX12_round_125 rfl ?_
      refine X.rgfR fl_RX12_9 dX12_round_126 e2 (fun v2 e3 => ?_)
      clear e2
      refine Ok.iconstV (v := (nI 3)) dX12_round_129 (by decide +kernel) ?_
      refine X.rnn e3 (fun p3 q e4 => ?_)
      clear e3
      subst q
      refine X.iald dX12_round_130 e4 (fun v4 e5 => ?_)
      clear e4
      refine Ok.iconstV (v := (nI 3)) dX12_round_131 (by decide +kernel) ?_
      refine X.rck e5 (fun c fs hb hc e6 => ?_)
      clear e5
      obtain rfl := List.mem_singleton.mp hc
      refine X.callV (My := mX12_meanFrom) (n := 3) (As := [.int (-1 : Int32), .int v4, .int (nI 3)]) (T := (fun v => (some (.long v)))) (stk' := (fun v => [.long v])) (rest := []) (kc' := 0) (ks' := 0) dX12_round_132 e6 (fun v h n e => k_X12_meanFrom 64 (d := d + 0) e) hb rfl wd1403 wd80 wd1402 wd57 wd1400 (by decide +kernel) rfl (by decide) rfl rfl (Nat.le_of_ble_eq_true rfl) (Nat.le_of_ble_eq_true rfl) (Nat.le_of_ble_eq_true rfl) rfl rfl (fun _ => rfl) (fun r5 h6 n7 e7 => ?_)
      clear e6
      refine XL.lstore dX12_round_135 (by decide) (L := [some (.ref l0), some (.int l1), some (.int l2), some (.int l3), some (.long l4), none, some (.int l6), some (.int l7), some (.long r5), none, none]) rfl ?_
      refine Ok.iload dX12_round_137 rfl ?_
      refine X.if_eq (tgt := 150) dX12_round_139 (by decide) e7 (fun e8 => ?_) (fun e8 => ?_)
      · clear e7
        exact Ok.weakL (k_X12_round_150 (d := d) K65 e8) ⟨rfl, ⟨rfl, ⟨rfl, ⟨rfl, ⟨rfl, ⟨rfl, trivial⟩⟩⟩⟩⟩⟩
      · clear e7
        refine Ok.lload dX12_round_142 rfl ?_
        refine Ok.lload dX12_round_144 rfl ?_
        refine Ok.lcmp dX12_round_146 ?_
        refine X.if_le (tgt := 183) dX12_round_147 (by decide) e8 (fun e9 => ?_) (fun e9 => ?_)
        · clear e8
          exact Ok.weakL (k_X12_round_183 (d := d) K65 e9) ⟨rfl, ⟨rfl, ⟨rfl, ⟨rfl, ⟨rfl, ⟨rfl, trivial⟩⟩⟩⟩⟩⟩
        · clear e8
          exact Ok.weakL (k_X12_round_150 (d := d) K65 e9) ⟨rfl, ⟨rfl, ⟨rfl, ⟨rfl, ⟨rfl, ⟨rfl, trivial⟩⟩⟩⟩⟩⟩
    · clear e
      refine Ok.aload_n dX12_round_85 rfl ?_
      refine X.rgfR fl_RX12_54 dX12_round_86 e1 (fun v8 e2 => ?_)
      clear e1
      refine Ok.iload dX12_round_89 rfl ?_
      refine Ok.iload dX12_round_91 rfl ?_
      refine Ok.aload_n dX12_round_93 rfl ?_
      refine X.rgfR fl_RX12_9 dX12_round_94 e2 (fun v9 e3 => ?_)
      clear e2
      refine Ok.iconstV (v := (nI 1)) dX12_round_97 (by decide +kernel) ?_
      refine X.rnn e3 (fun p10 q e4 => ?_)
      clear e3
      subst q
      refine X.iald dX12_round_98 e4 (fun v11 e5 => ?_)
      clear e4
      refine X.rdzI e5 (fun z e6 => ?_)
      clear e5
      refine Ok.irem dX12_round_99 z ?_
      refine X.rnn e6 (fun p12 q e7 => ?_)
      clear e6
      subst q
      refine X.iast dX12_round_100 e7 (fun h13 e8 => ?_)
      clear e7
      refine Ok.iload dX12_round_101 rfl ?_
      refine Ok.aload_n dX12_round_103 rfl ?_
      refine X.rgfR fl_RX12_9 dX12_round_104 e8 (fun v14 e9 => ?_)
      clear e8
      refine Ok.iconstV (v := (nI 1)) dX12_round_107 (by decide +kernel) ?_
      refine X.rnn e9 (fun p15 q e10 => ?_)
      clear e9
      subst q
      refine X.iald dX12_round_108 e10 (fun v16 e11 => ?_)
      clear e10
      refine X.rdzI e11 (fun z e12 => ?_)
      clear e11
      refine Ok.idiv dX12_round_109 z ?_
      refine X.istore dX12_round_110 (by decide) e12 (L := fun v17 => [some (.ref l0), some (.int l1), some (.int l2), some (.int l3), some (.long l4), none, some (.int l6), some (.int v17), some (.int l8), none, none]) (fun _ => rfl) (fun v17 e13 => ?_)
      clear e12
      refine X.iinc dX12_round_112 rfl (by decide) (by decide +kernel) e13 (L := fun v18 => [some (.ref l0), some (.int l1), some (.int l2), some (.int l3), some (.long l4), none, some (.int l6), some (.int v17), some (.int v18), none, none]) (fun _ => rfl) (fun v18 e14 => ?_)
      clear e13
      refine Ok.goto (tgt := 80) dX12_round_115 (by decide) ?_
      exact Ok.weakL (K80 e14) ⟨rfl, ⟨rfl, ⟨rfl, ⟨rfl, ⟨rfl, ⟨rfl, ⟨rfl, ⟨rfl, trivial⟩⟩⟩⟩⟩⟩⟩⟩
noncomputable def F_X12_round_65 (G : Gx) : Nat → Hp → Nat → Nat → Int32 → Int32 → Int32 → Int64 → Int32 → Rz Int64 := fun n => Nat.rec (motive := fun _ => Hp → Nat → Nat → Int32 → Int32 → Int32 → Int64 → Int32 → Rz Int64) (fun _ _ _ _ _ _ _ _ => none) (fun _ k65 => fun h nx l0 l1 l2 l3 l4 l6 =>
if l3 ≤ l6 then
pfV h l0 [12] 25 (.int (nI 0)) (fun h1 =>
if l2 = (-1 : Int32) then
(F_X12_round_211 G h1 nx l4)
else
gfR h1 l0 [12] 28 (fun v2 =>
nn v2 (fun p3 =>
alI (g_c G 0) h1 p3 l2 (fun v4 =>
(F_X12_round_211 G h1 nx (v4.toInt64))))))
else
nm ((l1 - (nI 1))) (fun v5 =>
(F_X12_round_80 G k65 fuelL h nx l0 l1 l2 l3 l4 l6 l6 v5))) n
theorem F_X12_round_65_0 {G : Gx} {h : Hp} {nx : Nat} {l0 : Nat} {l1 : Int32} {l2 : Int32} {l3 : Int32} {l4 : Int64} {l6 : Int32} : F_X12_round_65 G 0 h nx l0 l1 l2 l3 l4 l6 = none := rfl
theorem F_X12_round_65_s {G : Gx} {n : Nat} {h : Hp} {nx : Nat} {l0 : Nat} {l1 : Int32} {l2 : Int32} {l3 : Int32} {l4 : Int64} {l6 : Int32} : F_X12_round_65 G (n + 1) h nx l0 l1 l2 l3 l4 l6 = (
if l3 ≤ l6 then
pfV h l0 [12] 25 (.int (nI 0)) (fun h1 =>
if l2 = (-1 : Int32) then
(F_X12_round_211 G h1 nx l4)
else
gfR h1 l0 [12] 28 (fun v2 =>
nn v2 (fun p3 =>
alI (g_c G 0) h1 p3 l2 (fun v4 =>
(F_X12_round_211 G h1 nx (v4.toInt64))))))
else
nm ((l1 - (nI 1))) (fun v5 =>
(F_X12_round_80 G (F_X12_round_65 G n) fuelL h nx l0 l1 l2 l3 l4 l6 l6 v5))) := rfl
set_option maxRecDepth 100000 in
set_option maxHeartbeats 4000000 in
theorem k_X12_round_65 {G : Gx} {d : Nat} {v' : Int64} {h' : Hp} {n' : Nat} : ∀ (n : Nat) {h : Hp} {nx : Nat} {l0 : Nat} {l1 : Int32} {l2 : Int32} {l3 : Int32} {l4 : Int64} {l6 : Int32}, F_X12_round_65 G n h nx l0 l1 l2 l3 l4 l6 = some (v', h', n') → Ok G mX12_round (d + 139) (Same (some (.long v')) h' n') 65 [some (.ref l0), some (.int l1), some (.int l2), some (.int l3), some (.long l4), none, some (.int l6), none, none, none, none] [] h nx 0 0 := by
  intro n
  induction n with
  | zero =>
    intro h nx l0 l1 l2 l3 l4 l6 e
    rw [F_X12_round_65_0] at e
    cases e
  | succ n K65 =>
    intro h nx l0 l1 l2 l3 l4 l6 e
    rw [F_X12_round_65_s] at e
    refine Ok.iload dX12_round_65 rfl ?_
    refine Ok.iload_n dX12_round_67 rfl ?_
    refine X.icmp_ge (tgt := 189) dX12_round_68 (by decide) e (fun e1 => ?_) (fun e1 => ?_)
    · clear e
      refine Ok.aload_n dX12_round_189 rfl ?_
      refine Ok.iconstV (v := (nI 0)) dX12_round_190 (by decide +kernel) ?_
      refine X.rpfV (v := (.int (nI 0))) fp_RX12_244 rfl rfl dX12_round_191 e1 (fun h1 e2 => ?_)
      clear e1
      refine Ok.iload_n dX12_round_194 rfl ?_
      refine Ok.iconstV (v := (-1 : Int32)) dX12_round_195 (by decide +kernel) ?_
      refine X.icmp_ne (tgt := 204) dX12_round_196 (by decide) e2 (fun e3 => ?_) (fun e3 => ?_)
      · clear e2
        refine Ok.aload_n dX12_round_204 rfl ?_
        refine X.rgfR fl_RX12_60 dX12_round_205 e3 (fun v2 e4 => ?_)
        clear e3
        refine Ok.iload_n dX12_round_208 rfl ?_
        refine X.rnn e4 (fun p3 q e5 => ?_)
        clear e4
        subst q
        refine X.iald dX12_round_209 e5 (fun v4 e6 => ?_)
        clear e5
        refine Ok.i2l dX12_round_210 ?_
        exact Ok.weakL (k_X12_round_211 (d := d) e6) trivial
      · clear e2
        refine Ok.lload dX12_round_199 rfl ?_
        refine Ok.goto (tgt := 211) dX12_round_201 (by decide) ?_
        exact Ok.weakL (k_X12_round_211 (d := d) e3) trivial
    · clear e
      refine Ok.iload dX12_round_71 rfl ?_
      refine XL.istore dX12_round_73 (by decide) (L := [some (.ref l0), some (.int l1), some (.int l2), some (.int l3), some (.long l4), none, some (.int l6), some (.int l6), none, none, none]) rfl ?_
      refine Ok.iload_n dX12_round_75 rfl ?_
      refine Ok.iconstV (v := (nI 1)) dX12_round_76 (by decide +kernel) ?_
      refine Ok.isub dX12_round_77 ?_
      refine X.istore dX12_round_78 (by decide) e1 (L := fun v5 => [some (.ref l0), some (.int l1), some (.int l2), some (.int l3), some (.long l4), none, some (.int l6), some (.int l6), some (.int v5), none, none]) (fun _ => rfl) (fun v5 e2 => ?_)
      clear e1
      exact Ok.weakL (k_X12_round_80 (d := d) K65 fuelL e2) ⟨rfl, ⟨rfl, ⟨rfl, ⟨rfl, ⟨rfl, ⟨rfl, ⟨rfl, ⟨rfl, trivial⟩⟩⟩⟩⟩⟩⟩⟩
noncomputable def F_X12_round_38 (G : Gx) : Nat → Hp → Nat → Nat → Int32 → Int32 → Int32 → Int32 → Rz Int64 := fun n => Nat.rec (motive := fun _ => Hp → Nat → Nat → Int32 → Int32 → Int32 → Int32 → Rz Int64) (fun _ _ _ _ _ _ _ => none) (fun _ k38 => fun h nx l0 l1 l2 l3 l4 =>
if l1 ≤ l4 then
(F_X12_round_65 G fuelL h nx l0 l1 l2 l3 (0 : Int64) (nI 0))
else
gfR h l0 [12] 1 (fun v1 =>
nn v1 (fun p2 =>
alI (g_c G 0) h p2 (nI 1) (fun v3 =>
nm ((l3 * v3)) (fun v4 =>
nm (l4 + (nI 1)) (fun v5 =>
(k38 h nx l0 l1 l2 v4 v5))))))) n
theorem F_X12_round_38_0 {G : Gx} {h : Hp} {nx : Nat} {l0 : Nat} {l1 : Int32} {l2 : Int32} {l3 : Int32} {l4 : Int32} : F_X12_round_38 G 0 h nx l0 l1 l2 l3 l4 = none := rfl
theorem F_X12_round_38_s {G : Gx} {n : Nat} {h : Hp} {nx : Nat} {l0 : Nat} {l1 : Int32} {l2 : Int32} {l3 : Int32} {l4 : Int32} : F_X12_round_38 G (n + 1) h nx l0 l1 l2 l3 l4 = (
if l1 ≤ l4 then
(F_X12_round_65 G fuelL h nx l0 l1 l2 l3 (0 : Int64) (nI 0))
else
gfR h l0 [12] 1 (fun v1 =>
nn v1 (fun p2 =>
alI (g_c G 0) h p2 (nI 1) (fun v3 =>
nm ((l3 * v3)) (fun v4 =>
nm (l4 + (nI 1)) (fun v5 =>
((F_X12_round_38 G n) h nx l0 l1 l2 v4 v5))))))) := rfl
set_option maxRecDepth 100000 in
set_option maxHeartbeats 4000000 in
theorem k_X12_round_38 {G : Gx} {d : Nat} {v' : Int64} {h' : Hp} {n' : Nat} : ∀ (n : Nat) {h : Hp} {nx : Nat} {l0 : Nat} {l1 : Int32} {l2 : Int32} {l3 : Int32} {l4 : Int32}, F_X12_round_38 G n h nx l0 l1 l2 l3 l4 = some (v', h', n') → Ok G mX12_round (d + 139) (Same (some (.long v')) h' n') 38 [some (.ref l0), some (.int l1), some (.int l2), some (.int l3), some (.int l4), none, none, none, none, none, none] [] h nx 0 0 := by
  intro n
  induction n with
  | zero =>
    intro h nx l0 l1 l2 l3 l4 e
    rw [F_X12_round_38_0] at e
    cases e
  | succ n K38 =>
    intro h nx l0 l1 l2 l3 l4 e
    rw [F_X12_round_38_s] at e
    refine Ok.iload dX12_round_38 rfl ?_
    refine Ok.iload_n dX12_round_40 rfl ?_
    refine X.icmp_ge (tgt := 59) dX12_round_41 (by decide) e (fun e1 => ?_) (fun e1 => ?_)
    · clear e
      refine XL.lconst (v := 0) dX12_round_59 (by decide +kernel) ?_
      refine XL.lstore dX12_round_60 (by decide) (L := [some (.ref l0), some (.int l1), some (.int l2), some (.int l3), some (.long (0 : Int64)), none, none, none, none, none, none]) rfl ?_
      refine Ok.iconstV (v := (nI 0)) dX12_round_62 (by decide +kernel) ?_
      refine XL.istore dX12_round_63 (by decide) (L := [some (.ref l0), some (.int l1), some (.int l2), some (.int l3), some (.long (0 : Int64)), none, some (.int (nI 0)), none, none, none, none]) rfl ?_
      exact Ok.weakL (k_X12_round_65 (d := d) fuelL e1) ⟨rfl, ⟨rfl, ⟨rfl, ⟨rfl, ⟨rfl, ⟨rfl, trivial⟩⟩⟩⟩⟩⟩
    · clear e
      refine Ok.iload_n dX12_round_44 rfl ?_
      refine Ok.aload_n dX12_round_45 rfl ?_
      refine X.rgfR fl_RX12_9 dX12_round_46 e1 (fun v1 e2 => ?_)
      clear e1
      refine Ok.iconstV (v := (nI 1)) dX12_round_49 (by decide +kernel) ?_
      refine X.rnn e2 (fun p2 q e3 => ?_)
      clear e2
      subst q
      refine X.iald dX12_round_50 e3 (fun v3 e4 => ?_)
      clear e3
      refine Ok.imul dX12_round_51 ?_
      refine X.istore_n dX12_round_52 (by decide) e4 (L := fun v4 => [some (.ref l0), some (.int l1), some (.int l2), some (.int v4), some (.int l4), none, none, none, none, none, none]) (fun _ => rfl) (fun v4 e5 => ?_)
      clear e4
      refine X.iinc dX12_round_53 rfl (by decide) (by decide +kernel) e5 (L := fun v5 => [some (.ref l0), some (.int l1), some (.int l2), some (.int v4), some (.int v5), none, none, none, none, none, none]) (fun _ => rfl) (fun v5 e6 => ?_)
      clear e5
      refine Ok.goto (tgt := 38) dX12_round_56 (by decide) ?_
      exact Ok.weakL (K38 e6) ⟨rfl, ⟨rfl, ⟨rfl, ⟨rfl, ⟨rfl, trivial⟩⟩⟩⟩⟩
noncomputable def F_X12_round (G : Gx) (h : Hp) (nx : Nat) (a0 : Nat) (a1 : Int32) (a2 : Int32) : Rz Int64 :=
cl (F_X12_in G h nx a1 (nI 1) (nI 3)) (fun r1 h2 n3 =>
if r1 = 0 then
(F_X12_round_29 G h2 n3)
else
cl (F_X12_in G h2 n3 a2 (-1 : Int32) ((a1 - (nI 1)))) (fun r4 h5 n6 =>
if r4 = 0 then
(F_X12_round_29 G h5 n6)
else
gfR h5 a0 [12] 1 (fun v7 =>
nn v7 (fun p8 =>
alI (g_c G 0) h5 p8 (nI 1) (fun v9 =>
if v9 = 0 then
(F_X12_round_29 G h5 n6)
else
(F_X12_round_38 G fuelL h5 n6 a0 a1 a2 (nI 1) (nI 0)))))))
set_option maxRecDepth 100000 in
set_option maxHeartbeats 4000000 in
theorem k_X12_round {G : Gx} {d : Nat} {h : Hp} {nx : Nat} {a0 : Nat} {a1 : Int32} {a2 : Int32} {v' : Int64} {h' : Hp} {n' : Nat} (e : F_X12_round G h nx a0 a1 a2 = some (v', h', n')) : Ct G mX12_round (d + 139) (Same (some (.long v')) h' n') [.ref a0, .int a1, .int a2] h nx := by
  unfold F_X12_round at e
  refine Ct.of (ls := [some (.ref a0), some (.int a1), some (.int a2), none, none, none, none, none, none, none, none]) (by decide +kernel) rfl (Nat.le_of_ble_eq_true rfl) rfl ?_
  refine Ok.iload_n dX12_round_0 rfl ?_
  refine Ok.iconstV (v := (nI 1)) dX12_round_1 (by decide +kernel) ?_
  refine Ok.iconstV (v := (nI 3)) dX12_round_2 (by decide +kernel) ?_
  refine X.callS (My := mX12_in) (n := 3) (As := [.int a1, .int (nI 1), .int (nI 3)]) (T := (fun v => (some (.int v)))) (stk' := (fun v => [.int v])) (rest := []) (kc' := 0) (ks' := 0) dX12_round_3 e (fun v h n e => k_X12_in (d := d + 138) e) wd1196 wd80 wd1195 wd1194 (by decide +kernel) rfl (by decide) rfl rfl (Nat.le_of_ble_eq_true rfl) (Nat.le_of_ble_eq_true rfl) (Nat.le_of_ble_eq_true rfl) rfl rfl (fun _ => rfl) (fun r1 h2 n3 e1 => ?_)
  clear e
  refine X.if_eq (tgt := 29) dX12_round_6 (by decide) e1 (fun e2 => ?_) (fun e2 => ?_)
  · clear e1
    exact Ok.weakL (k_X12_round_29 (d := d) e2) trivial
  · clear e1
    refine Ok.iload_n dX12_round_9 rfl ?_
    refine Ok.iconstV (v := (-1 : Int32)) dX12_round_10 (by decide +kernel) ?_
    refine Ok.iload_n dX12_round_11 rfl ?_
    refine Ok.iconstV (v := (nI 1)) dX12_round_12 (by decide +kernel) ?_
    refine Ok.isub dX12_round_13 ?_
    refine X.callS (My := mX12_in) (n := 3) (As := [.int a2, .int (-1 : Int32), .int ((a1 - (nI 1)))]) (T := (fun v => (some (.int v)))) (stk' := (fun v => [.int v])) (rest := []) (kc' := 0) (ks' := 0) dX12_round_14 e2 (fun v h n e => k_X12_in (d := d + 138) e) wd1196 wd80 wd1195 wd1194 (by decide +kernel) rfl (by decide) rfl rfl (Nat.le_of_ble_eq_true rfl) (Nat.le_of_ble_eq_true rfl) (Nat.le_of_ble_eq_true rfl) rfl rfl (fun _ => rfl) (fun r4 h5 n6 e3 => ?_)
    clear e2
    refine X.if_eq (tgt := 29) dX12_round_17 (by decide) e3 (fun e4 => ?_) (fun e4 => ?_)
    · clear e3
      exact Ok.weakL (k_X12_round_29 (d := d) e4) trivial
    · clear e3
      refine Ok.aload_n dX12_round_20 rfl ?_
      refine X.rgfR fl_RX12_9 dX12_round_21 e4 (fun v7 e5 => ?_)
      clear e4
      refine Ok.iconstV (v := (nI 1)) dX12_round_24 (by decide +kernel) ?_
      refine X.rnn e5 (fun p8 q e6 => ?_)
      clear e5
      subst q
      refine X.iald dX12_round_25 e6 (fun v9 e7 => ?_)
      clear e6
      refine X.if_ne (tgt := 33) dX12_round_26 (by decide) e7 (fun e8 => ?_) (fun e8 => ?_)
      · clear e7
        refine Ok.iconstV (v := (nI 1)) dX12_round_33 (by decide +kernel) ?_
        refine XL.istore_n dX12_round_34 (by decide) (L := [some (.ref a0), some (.int a1), some (.int a2), some (.int (nI 1)), none, none, none, none, none, none, none]) rfl ?_
        refine Ok.iconstV (v := (nI 0)) dX12_round_35 (by decide +kernel) ?_
        refine XL.istore dX12_round_36 (by decide) (L := [some (.ref a0), some (.int a1), some (.int a2), some (.int (nI 1)), some (.int (nI 0)), none, none, none, none, none, none]) rfl ?_
        exact Ok.weakL (k_X12_round_38 (d := d) fuelL e8) ⟨rfl, ⟨rfl, ⟨rfl, ⟨rfl, ⟨rfl, trivial⟩⟩⟩⟩⟩
      · clear e7
        exact Ok.weakL (k_X12_round_29 (d := d) e8) trivial
