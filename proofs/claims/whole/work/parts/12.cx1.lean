noncomputable def F_X10_rows (G : Gx) (h : Hp) (nx : Nat) (a0 : Nat) (a1 : Int32) (a2 : Nat) : Rz Int32 :=
cl (F_X6_began G h nx a2 (nI 21)) (fun _ h2 n3 =>
ck h2 a0 [1, 10] (fun _ =>
cl (F_X6_rows G h2 n3 a0 a1 a2) (fun r4 h5 n6 =>
some (((r4 ^^^ (nI 5))), h5, n6))))
set_option maxRecDepth 100000 in
set_option maxHeartbeats 4000000 in
theorem k_X10_rows {G : Gx} {d : Nat} {h : Hp} {nx : Nat} {a0 : Nat} {a1 : Int32} {a2 : Nat} {v' : Int32} {h' : Hp} {n' : Nat} (e : F_X10_rows G h nx a0 a1 a2 = some (v', h', n')) : Ct G mX10_rows (d + 4) (Same (some (.int v')) h' n') [.ref a0, .int a1, .ref a2] h nx := by
  unfold F_X10_rows at e
  refine Ct.of (ls := [some (.ref a0), some (.int a1), some (.ref a2)]) (by decide +kernel) rfl (Nat.le_of_ble_eq_true rfl) rfl ?_
  refine Ok.aload_n dX10_rows_0 rfl ?_
  refine Ok.bipushV (v := (nI 21)) dX10_rows_1 (by decide +kernel) ?_
  refine X.callSI (x := ⟨"GateWatch$Turn", "began", "([II)V"⟩) (owner := RX6) (My := mX6_began) (n := 2) (As := [.ref a2, .int (nI 21)]) (T := (fun v => none)) (stk' := (fun _ => [])) (rest := []) (kc' := 0) (ks' := 0) dX10_rows_3 e (fun v h n e => k_X6_began (d := d + 3) e) wd986 wd89 wd985 wd1004 wd1005 rfl (by decide +kernel) rfl (by decide) rfl rfl (Nat.le_of_ble_eq_true rfl) (Nat.le_of_ble_eq_true rfl) (Nat.le_of_ble_eq_true rfl) rfl rfl (fun _ => rfl) (fun _ h2 n3 e1 => ?_)
  clear e
  refine Ok.aload_n dX10_rows_6 rfl ?_
  refine Ok.iload_n dX10_rows_7 rfl ?_
  refine Ok.aload_n dX10_rows_8 rfl ?_
  refine X.rck e1 (fun c fs hb hc e2 => ?_)
  clear e1
  obtain ⟨r0, hcl⟩ := vw_at hc (by decide)
  refine X.callSU (My := mX6_rows) (n := 2) (As := [.int a1, .ref a2]) (T := (fun v => (some (.int v)))) (stk' := (fun v => [.int v])) (rest := []) (kc' := 0) (ks' := 0) dX10_rows_9 e2 (fun v h n e => k_X6_rows (d := d + 0) e) hb hcl wd1019 wd89 wd998 wd1006 wd1000 wd661 (by decide) rfl (by decide) rfl rfl (Nat.le_of_ble_eq_true rfl) (Nat.le_of_ble_eq_true rfl) (Nat.le_of_ble_eq_true rfl) rfl rfl (fun _ => rfl) (fun r4 h5 n6 e3 => ?_)
  clear e2
  refine Ok.iconstV (v := (nI 5)) dX10_rows_12 (by decide +kernel) ?_
  refine Ok.ixor dX10_rows_13 ?_
  exact X.iret dX10_rows_14 rfl (Nat.le_of_ble_eq_true rfl) (Nat.le_of_ble_eq_true rfl) e3
noncomputable def F_X2_rows (G : Gx) (h : Hp) (nx : Nat) (a0 : Nat) (a1 : Int32) (a2 : Nat) : Rz Int32 :=
cl (F_X6_began G h nx a2 (nI 51)) (fun _ h2 n3 =>
ck h2 a0 [2] (fun _ =>
cl (F_X6_rows G h2 n3 a0 a1 a2) (fun r4 h5 n6 =>
gfI h5 a0 [2] 0 (fun v7 =>
some (((r4 ^^^ v7)), h5, n6)))))
set_option maxRecDepth 100000 in
set_option maxHeartbeats 4000000 in
theorem k_X2_rows {G : Gx} {d : Nat} {h : Hp} {nx : Nat} {a0 : Nat} {a1 : Int32} {a2 : Nat} {v' : Int32} {h' : Hp} {n' : Nat} (e : F_X2_rows G h nx a0 a1 a2 = some (v', h', n')) : Ct G mX2_rows (d + 4) (Same (some (.int v')) h' n') [.ref a0, .int a1, .ref a2] h nx := by
  unfold F_X2_rows at e
  refine Ct.of (ls := [some (.ref a0), some (.int a1), some (.ref a2)]) (by decide +kernel) rfl (Nat.le_of_ble_eq_true rfl) rfl ?_
  refine Ok.aload_n dX2_rows_0 rfl ?_
  refine Ok.bipushV (v := (nI 51)) dX2_rows_1 (by decide +kernel) ?_
  refine X.callSI (x := ⟨"GateWatch$Far", "began", "([II)V"⟩) (owner := RX6) (My := mX6_began) (n := 2) (As := [.ref a2, .int (nI 51)]) (T := (fun v => none)) (stk' := (fun _ => [])) (rest := []) (kc' := 0) (ks' := 0) dX2_rows_3 e (fun v h n e => k_X6_began (d := d + 3) e) wd986 wd89 wd985 wd1010 wd1011 rfl (by decide +kernel) rfl (by decide) rfl rfl (Nat.le_of_ble_eq_true rfl) (Nat.le_of_ble_eq_true rfl) (Nat.le_of_ble_eq_true rfl) rfl rfl (fun _ => rfl) (fun _ h2 n3 e1 => ?_)
  clear e
  refine Ok.aload_n dX2_rows_6 rfl ?_
  refine Ok.iload_n dX2_rows_7 rfl ?_
  refine Ok.aload_n dX2_rows_8 rfl ?_
  refine X.rck e1 (fun c fs hb hc e2 => ?_)
  clear e1
  obtain ⟨r0, hcl⟩ := vw_at hc (by decide)
  refine X.callSV (x := ⟨"GateWatch$Near", "rows", "(I[I)I"⟩) (owner := RX6) (My := mX6_rows) (n := 2) (As := [.int a1, .ref a2]) (T := (fun v => (some (.int v)))) (stk' := (fun v => [.int v])) (rest := []) (kc' := 0) (ks' := 0) dX2_rows_9 e2 (fun v h n e => k_X6_rows (d := d + 0) e) hb hcl wd1019 wd89 wd998 wd1012 wd1013 rfl wd688 wd670 (by decide) rfl (by decide) rfl rfl (Nat.le_of_ble_eq_true rfl) (Nat.le_of_ble_eq_true rfl) (Nat.le_of_ble_eq_true rfl) rfl rfl (fun _ => rfl) (fun r4 h5 n6 e3 => ?_)
  clear e2
  refine Ok.aload_n dX2_rows_12 rfl ?_
  refine X.rgfI fl_RX2_23 dX2_rows_13 e3 (fun v7 e4 => ?_)
  clear e3
  refine Ok.ixor dX2_rows_16 ?_
  exact X.iret dX2_rows_17 rfl (Nat.le_of_ble_eq_true rfl) (Nat.le_of_ble_eq_true rfl) e4
noncomputable def F_X6_ends (G : Gx) (h : Hp) (nx : Nat) (a0 : Nat) (a1 : Int32) (a2 : Nat) : Rz Int32 :=
cl (F_X6_began G h nx a2 (nI 3)) (fun _ h2 n3 =>
cl (ck h2 a0 [1, 2, 3, 4, 6, 8, 10] (fun c => match c with
| 1 => F_X10_rows G h2 n3 a0 a1 a2
| 2 => F_X2_rows G h2 n3 a0 a1 a2
| 3 => F_X6_rows G h2 n3 a0 a1 a2
| 4 => F_X6_rows G h2 n3 a0 a1 a2
| 6 => F_X6_rows G h2 n3 a0 a1 a2
| 8 => F_X6_rows G h2 n3 a0 a1 a2
| 10 => F_X10_rows G h2 n3 a0 a1 a2
| _ => none)) (fun r4 h5 n6 =>
some (((r4 * (nI 2))), h5, n6)))
set_option maxRecDepth 100000 in
set_option maxHeartbeats 4000000 in
theorem k_X6_ends {G : Gx} {d : Nat} {h : Hp} {nx : Nat} {a0 : Nat} {a1 : Int32} {a2 : Nat} {v' : Int32} {h' : Hp} {n' : Nat} (e : F_X6_ends G h nx a0 a1 a2 = some (v', h', n')) : Ct G mX6_ends (d + 5) (Same (some (.int v')) h' n') [.ref a0, .int a1, .ref a2] h nx := by
  unfold F_X6_ends at e
  refine Ct.of (ls := [some (.ref a0), some (.int a1), some (.ref a2)]) (by decide +kernel) rfl (Nat.le_of_ble_eq_true rfl) rfl ?_
  refine Ok.aload_n dX6_ends_0 rfl ?_
  refine Ok.iconstV (v := (nI 3)) dX6_ends_1 (by decide +kernel) ?_
  refine X.callS (My := mX6_began) (n := 2) (As := [.ref a2, .int (nI 3)]) (T := (fun v => none)) (stk' := (fun _ => [])) (rest := []) (kc' := 0) (ks' := 0) dX6_ends_2 e (fun v h n e => k_X6_began (d := d + 4) e) wd986 wd89 wd985 wd996 (by decide +kernel) rfl (by decide) rfl rfl (Nat.le_of_ble_eq_true rfl) (Nat.le_of_ble_eq_true rfl) (Nat.le_of_ble_eq_true rfl) rfl rfl (fun _ => rfl) (fun _ h2 n3 e1 => ?_)
  clear e
  refine Ok.aload_n dX6_ends_5 rfl ?_
  refine Ok.iload_n dX6_ends_6 rfl ?_
  refine Ok.aload_n dX6_ends_7 rfl ?_
  refine X.callC (n := 2) (As := [.int a1, .ref a2]) (T := (fun v => (some (.int v)))) (stk' := (fun v => [.int v])) (rest := []) dX6_ends_8 (Nat.le_of_ble_eq_true rfl) e1 (fun c hc => ?_) rfl rfl (Nat.le_of_ble_eq_true rfl) (Nat.le_of_ble_eq_true rfl) (fun _ => rfl) (fun r4 h5 n6 e2 => ?_)
  · simp only [List.mem_cons, List.not_mem_nil, or_false] at hc
    rcases hc with rfl | rfl | rfl | rfl | rfl | rfl | rfl
    · exact ⟨mX10_rows, vu_RX6_49_1, fun v h n e2 => k_X10_rows (d := d + 0) e2⟩
    · exact ⟨mX2_rows, vu_RX6_49_2, fun v h n e2 => k_X2_rows (d := d + 0) e2⟩
    · exact ⟨mX6_rows, vu_RX6_49_3, fun v h n e2 => k_X6_rows (d := d + 1) e2⟩
    · exact ⟨mX6_rows, vu_RX6_49_4, fun v h n e2 => k_X6_rows (d := d + 1) e2⟩
    · exact ⟨mX6_rows, vu_RX6_49_6, fun v h n e2 => k_X6_rows (d := d + 1) e2⟩
    · exact ⟨mX6_rows, vu_RX6_49_8, fun v h n e2 => k_X6_rows (d := d + 1) e2⟩
    · exact ⟨mX10_rows, vu_RX6_49_10, fun v h n e2 => k_X10_rows (d := d + 0) e2⟩
  clear e1
  refine Ok.iconstV (v := (nI 2)) dX6_ends_11 (by decide +kernel) ?_
  refine Ok.imul dX6_ends_12 ?_
  exact X.iret dX6_ends_13 rfl (Nat.le_of_ble_eq_true rfl) (Nat.le_of_ble_eq_true rfl) e2
noncomputable def F_X1_ends (G : Gx) (h : Hp) (nx : Nat) (a0 : Nat) (a1 : Int32) (a2 : Nat) : Rz Int32 :=
cl (F_X6_began G h nx a2 (nI 41)) (fun _ h2 n3 =>
ck h2 a0 [1] (fun _ =>
cl (F_X6_ends G h2 n3 a0 ((a1 + (nI 1))) a2) (fun r4 h5 n6 =>
ck h5 a0 [1] (fun _ =>
cl (F_X6_means G h5 n6 a0 (nI 2) a2) (fun r7 h8 n9 =>
some (((r4 + r7)), h8, n9))))))
set_option maxRecDepth 100000 in
set_option maxHeartbeats 4000000 in
theorem k_X1_ends {G : Gx} {d : Nat} {h : Hp} {nx : Nat} {a0 : Nat} {a1 : Int32} {a2 : Nat} {v' : Int32} {h' : Hp} {n' : Nat} (e : F_X1_ends G h nx a0 a1 a2 = some (v', h', n')) : Ct G mX1_ends (d + 6) (Same (some (.int v')) h' n') [.ref a0, .int a1, .ref a2] h nx := by
  unfold F_X1_ends at e
  refine Ct.of (ls := [some (.ref a0), some (.int a1), some (.ref a2)]) (by decide +kernel) rfl (Nat.le_of_ble_eq_true rfl) rfl ?_
  refine Ok.aload_n dX1_ends_0 rfl ?_
  refine Ok.bipushV (v := (nI 41)) dX1_ends_1 (by decide +kernel) ?_
  refine X.callSI (x := ⟨"GateWatch$Drawn", "began", "([II)V"⟩) (owner := RX6) (My := mX6_began) (n := 2) (As := [.ref a2, .int (nI 41)]) (T := (fun v => none)) (stk' := (fun _ => [])) (rest := []) (kc' := 0) (ks' := 0) dX1_ends_3 e (fun v h n e => k_X6_began (d := d + 5) e) wd986 wd89 wd985 wd1028 wd1029 rfl (by decide +kernel) rfl (by decide) rfl rfl (Nat.le_of_ble_eq_true rfl) (Nat.le_of_ble_eq_true rfl) (Nat.le_of_ble_eq_true rfl) rfl rfl (fun _ => rfl) (fun _ h2 n3 e1 => ?_)
  clear e
  refine Ok.aload_n dX1_ends_6 rfl ?_
  refine Ok.iload_n dX1_ends_7 rfl ?_
  refine Ok.iconstV (v := (nI 1)) dX1_ends_8 (by decide +kernel) ?_
  refine Ok.iadd dX1_ends_9 ?_
  refine Ok.aload_n dX1_ends_10 rfl ?_
  refine X.rck e1 (fun c fs hb hc e2 => ?_)
  clear e1
  obtain ⟨r0, hcl⟩ := vw_at hc (by decide)
  refine X.callSV (x := ⟨"GateWatch$Turn", "ends", "(I[I)I"⟩) (owner := RX6) (My := mX6_ends) (n := 2) (As := [.int ((a1 + (nI 1))), .ref a2]) (T := (fun v => (some (.int v)))) (stk' := (fun v => [.int v])) (rest := []) (kc' := 0) (ks' := 0) dX1_ends_11 e2 (fun v h n e => k_X6_ends (d := d + 0) e) hb hcl wd1047 wd89 wd1022 wd1030 wd1031 rfl wd679 wd661 (by decide) rfl (by decide) rfl rfl (Nat.le_of_ble_eq_true rfl) (Nat.le_of_ble_eq_true rfl) (Nat.le_of_ble_eq_true rfl) rfl rfl (fun _ => rfl) (fun r4 h5 n6 e3 => ?_)
  clear e2
  refine Ok.aload_n dX1_ends_14 rfl ?_
  refine Ok.iconstV (v := (nI 2)) dX1_ends_15 (by decide +kernel) ?_
  refine Ok.aload_n dX1_ends_16 rfl ?_
  refine X.rck e3 (fun c fs hb hc e4 => ?_)
  clear e3
  obtain rfl := List.mem_singleton.mp hc
  refine X.callU (x := ⟨"GateWatch$Drawn", "means", "(I[I)I"⟩) (owner := RX6) (My := mX6_means) (n := 2) (As := [.int (nI 2), .ref a2]) (T := (fun v => (some (.int v)))) (stk' := (fun v => [.int v, .int r4])) (rest := [.int r4]) (kc' := 0) (ks' := 0) dX1_ends_17 e4 (fun v h n e => k_X6_means (d := d + 4) e) hb rfl wd995 wd89 wd974 wd1036 wd1033 wd1034 wd974 wd995 (by decide +kernel) rfl (by decide) rfl rfl (Nat.le_of_ble_eq_true rfl) (Nat.le_of_ble_eq_true rfl) (Nat.le_of_ble_eq_true rfl) rfl rfl (fun _ => rfl) (fun r7 h8 n9 e5 => ?_)
  clear e4
  refine Ok.iadd dX1_ends_20 ?_
  exact X.iret dX1_ends_21 rfl (Nat.le_of_ble_eq_true rfl) (Nat.le_of_ble_eq_true rfl) e5
noncomputable def F_X3_init (G : Gx) (h : Hp) (nx : Nat) (a0 : Nat) (a1 : Int32) (a2 : Int32) : Rz Unit :=
cl (F_X6_init G h nx a0 a1 a2) (fun _ h2 n3 =>
some ((), h2, n3))
set_option maxRecDepth 100000 in
set_option maxHeartbeats 4000000 in
theorem k_X3_init {G : Gx} {d : Nat} {h : Hp} {nx : Nat} {a0 : Nat} {a1 : Int32} {a2 : Int32} {v' : Unit} {h' : Hp} {n' : Nat} (e : F_X3_init G h nx a0 a1 a2 = some (v', h', n')) : Ct G mX3_init (d + 1) (Same none h' n') [.ref a0, .int a1, .int a2] h nx := by
  unfold F_X3_init at e
  refine Ct.of (ls := [some (.ref a0), some (.int a1), some (.int a2)]) (by decide +kernel) rfl (Nat.le_of_ble_eq_true rfl) rfl ?_
  refine Ok.aload_n dX3_init_0 rfl ?_
  refine Ok.iload_n dX3_init_1 rfl ?_
  refine Ok.iload_n dX3_init_2 rfl ?_
  refine X.callI (My := mX6_init) (n := 2) (As := [.int a1, .int a2]) (T := (fun v => none)) (stk' := (fun _ => [])) (rest := []) (kc' := 0) (ks' := 0) dX3_init_3 e (fun v h n e => k_X6_init (d := d + 0) e) rfl wd631 wd89 wd630 rfl wd667 (by decide +kernel) rfl (by decide) rfl rfl (Nat.le_of_ble_eq_true rfl) (Nat.le_of_ble_eq_true rfl) (Nat.le_of_ble_eq_true rfl) rfl rfl (fun _ => rfl) (fun _ h2 n3 e1 => ?_)
  clear e
  exact X.vret dX3_init_6 rfl (Nat.le_of_ble_eq_true rfl) (Nat.le_of_ble_eq_true rfl) e1
noncomputable def F_X2_init (G : Gx) (h : Hp) (nx : Nat) (a0 : Nat) (a1 : Int32) (a2 : Int32) : Rz Unit :=
cl (F_X3_init G h nx a0 a1 a2) (fun _ h2 n3 =>
some ((), h2, n3))
set_option maxRecDepth 100000 in
set_option maxHeartbeats 4000000 in
theorem k_X2_init {G : Gx} {d : Nat} {h : Hp} {nx : Nat} {a0 : Nat} {a1 : Int32} {a2 : Int32} {v' : Unit} {h' : Hp} {n' : Nat} (e : F_X2_init G h nx a0 a1 a2 = some (v', h', n')) : Ct G mX2_init (d + 2) (Same none h' n') [.ref a0, .int a1, .int a2] h nx := by
  unfold F_X2_init at e
  refine Ct.of (ls := [some (.ref a0), some (.int a1), some (.int a2)]) (by decide +kernel) rfl (Nat.le_of_ble_eq_true rfl) rfl ?_
  refine Ok.aload_n dX2_init_0 rfl ?_
  refine Ok.iload_n dX2_init_1 rfl ?_
  refine Ok.iload_n dX2_init_2 rfl ?_
  refine X.callI (My := mX3_init) (n := 2) (As := [.int a1, .int a2]) (T := (fun v => none)) (stk' := (fun _ => [])) (rest := []) (kc' := 0) (ks' := 0) dX2_init_3 e (fun v h n e => k_X3_init (d := d + 0) e) rfl wd666 wd92 wd665 rfl wd685 (by decide +kernel) rfl (by decide) rfl rfl (Nat.le_of_ble_eq_true rfl) (Nat.le_of_ble_eq_true rfl) (Nat.le_of_ble_eq_true rfl) rfl rfl (fun _ => rfl) (fun _ h2 n3 e1 => ?_)
  clear e
  exact X.vret dX2_init_6 rfl (Nat.le_of_ble_eq_true rfl) (Nat.le_of_ble_eq_true rfl) e1
noncomputable def F_X2_worthOf (G : Gx) (h : Hp) (nx : Nat) (a0 : Nat) (a1 : Nat) (a2 : Int32) (a3 : Int32) : Rz Int32 :=
gfR h a1 [5] 2 (fun v1 =>
nn v1 (fun p2 =>
alR (g_c G 6) h p2 a2 (fun v3 =>
nn v3 (fun p4 =>
alI (g_c G 0) h p4 a3 (fun v5 =>
some (v5, h, nx))))))
set_option maxRecDepth 100000 in
set_option maxHeartbeats 4000000 in
theorem k_X2_worthOf {G : Gx} {d : Nat} {h : Hp} {nx : Nat} {a0 : Nat} {a1 : Nat} {a2 : Int32} {a3 : Int32} {v' : Int32} {h' : Hp} {n' : Nat} (e : F_X2_worthOf G h nx a0 a1 a2 a3 = some (v', h', n')) : Ct G mX2_worthOf (d + 0) (Same (some (.int v')) h' n') [.ref a0, .ref a1, .int a2, .int a3] h nx := by
  unfold F_X2_worthOf at e
  refine Ct.of (ls := [some (.ref a0), some (.ref a1), some (.int a2), some (.int a3)]) (by decide +kernel) rfl (Nat.le_of_ble_eq_true rfl) rfl ?_
  refine Ok.aload_n dX2_worthOf_0 rfl ?_
  refine X.rgfR fl_RX2_7 dX2_worthOf_1 e (fun v1 e1 => ?_)
  clear e
  refine Ok.iload_n dX2_worthOf_4 rfl ?_
  refine X.rnn e1 (fun p2 q e2 => ?_)
  clear e1
  subst q
  refine X.gald dX2_worthOf_5 e2 (fun v3 e3 => ?_)
  clear e2
  refine Ok.iload_n dX2_worthOf_6 rfl ?_
  refine X.rnn e3 (fun p4 q e4 => ?_)
  clear e3
  subst q
  refine X.iald dX2_worthOf_7 e4 (fun v5 e5 => ?_)
  clear e4
  exact X.iret dX2_worthOf_8 rfl (Nat.le_of_ble_eq_true rfl) (Nat.le_of_ble_eq_true rfl) e5
noncomputable def F_X3_worthOf (G : Gx) (h : Hp) (nx : Nat) (a0 : Nat) (a1 : Nat) (a2 : Int32) (a3 : Int32) : Rz Int32 :=
gfR h a1 [5] 1 (fun v1 =>
nn v1 (fun p2 =>
alR (g_c G 6) h p2 a2 (fun v3 =>
nn v3 (fun p4 =>
alI (g_c G 0) h p4 a3 (fun v5 =>
some ((((nI 1000000) - v5)), h, nx))))))
set_option maxRecDepth 100000 in
set_option maxHeartbeats 4000000 in
theorem k_X3_worthOf {G : Gx} {d : Nat} {h : Hp} {nx : Nat} {a0 : Nat} {a1 : Nat} {a2 : Int32} {a3 : Int32} {v' : Int32} {h' : Hp} {n' : Nat} (e : F_X3_worthOf G h nx a0 a1 a2 a3 = some (v', h', n')) : Ct G mX3_worthOf (d + 0) (Same (some (.int v')) h' n') [.ref a0, .ref a1, .int a2, .int a3] h nx := by
  unfold F_X3_worthOf at e
  refine Ct.of (ls := [some (.ref a0), some (.ref a1), some (.int a2), some (.int a3)]) (by decide +kernel) rfl (Nat.le_of_ble_eq_true rfl) rfl ?_
  refine Ok.ldc (v := (nI 1000000)) dX3_worthOf_0 wd794 ?_
  refine Ok.aload_n dX3_worthOf_2 rfl ?_
  refine X.rgfR fl_RX3_10 dX3_worthOf_3 e (fun v1 e1 => ?_)
  clear e
  refine Ok.iload_n dX3_worthOf_6 rfl ?_
  refine X.rnn e1 (fun p2 q e2 => ?_)
  clear e1
  subst q
  refine X.gald dX3_worthOf_7 e2 (fun v3 e3 => ?_)
  clear e2
  refine Ok.iload_n dX3_worthOf_8 rfl ?_
  refine X.rnn e3 (fun p4 q e4 => ?_)
  clear e3
  subst q
  refine X.iald dX3_worthOf_9 e4 (fun v5 e5 => ?_)
  clear e4
  refine Ok.isub dX3_worthOf_10 ?_
  exact X.iret dX3_worthOf_11 rfl (Nat.le_of_ble_eq_true rfl) (Nat.le_of_ble_eq_true rfl) e5
noncomputable def F_X3_ends (G : Gx) (h : Hp) (nx : Nat) (a0 : Nat) (a1 : Int32) (a2 : Nat) : Rz Int32 :=
cl (F_X6_began G h nx a2 (nI 31)) (fun _ h2 n3 =>
ck h2 a0 [2, 3] (fun _ =>
cl (F_X6_ends G h2 n3 a0 a1 a2) (fun r4 h5 n6 =>
some (((-r4)), h5, n6))))
set_option maxRecDepth 100000 in
set_option maxHeartbeats 4000000 in
theorem k_X3_ends {G : Gx} {d : Nat} {h : Hp} {nx : Nat} {a0 : Nat} {a1 : Int32} {a2 : Nat} {v' : Int32} {h' : Hp} {n' : Nat} (e : F_X3_ends G h nx a0 a1 a2 = some (v', h', n')) : Ct G mX3_ends (d + 6) (Same (some (.int v')) h' n') [.ref a0, .int a1, .ref a2] h nx := by
  unfold F_X3_ends at e
  refine Ct.of (ls := [some (.ref a0), some (.int a1), some (.ref a2)]) (by decide +kernel) rfl (Nat.le_of_ble_eq_true rfl) rfl ?_
  refine Ok.aload_n dX3_ends_0 rfl ?_
  refine Ok.bipushV (v := (nI 31)) dX3_ends_1 (by decide +kernel) ?_
  refine X.callSI (x := ⟨"GateWatch$Near", "began", "([II)V"⟩) (owner := RX6) (My := mX6_began) (n := 2) (As := [.ref a2, .int (nI 31)]) (T := (fun v => none)) (stk' := (fun _ => [])) (rest := []) (kc' := 0) (ks' := 0) dX3_ends_3 e (fun v h n e => k_X6_began (d := d + 5) e) wd986 wd89 wd985 wd1040 wd1041 rfl (by decide +kernel) rfl (by decide) rfl rfl (Nat.le_of_ble_eq_true rfl) (Nat.le_of_ble_eq_true rfl) (Nat.le_of_ble_eq_true rfl) rfl rfl (fun _ => rfl) (fun _ h2 n3 e1 => ?_)
  clear e
  refine Ok.aload_n dX3_ends_6 rfl ?_
  refine Ok.iload_n dX3_ends_7 rfl ?_
  refine Ok.aload_n dX3_ends_8 rfl ?_
  refine X.rck e1 (fun c fs hb hc e2 => ?_)
  clear e1
  obtain ⟨r0, hcl⟩ := vw_at hc (by decide)
  refine X.callSU (My := mX6_ends) (n := 2) (As := [.int a1, .ref a2]) (T := (fun v => (some (.int v)))) (stk' := (fun v => [.int v])) (rest := []) (kc' := 0) (ks' := 0) dX3_ends_9 e2 (fun v h n e => k_X6_ends (d := d + 0) e) hb hcl wd1047 wd89 wd1022 wd1042 wd1024 wd670 (by decide) rfl (by decide) rfl rfl (Nat.le_of_ble_eq_true rfl) (Nat.le_of_ble_eq_true rfl) (Nat.le_of_ble_eq_true rfl) rfl rfl (fun _ => rfl) (fun r4 h5 n6 e3 => ?_)
  clear e2
  refine Ok.ineg dX3_ends_12 ?_
  exact X.iret dX3_ends_13 rfl (Nat.le_of_ble_eq_true rfl) (Nat.le_of_ble_eq_true rfl) e3
noncomputable def F_X4_init (G : Gx) (h : Hp) (nx : Nat) (a0 : Nat) (a1 : Int32) (a2 : Int32) : Rz Unit :=
cl (F_X6_init G h nx a0 a1 a2) (fun _ h2 n3 =>
some ((), h2, n3))
set_option maxRecDepth 100000 in
set_option maxHeartbeats 4000000 in
theorem k_X4_init {G : Gx} {d : Nat} {h : Hp} {nx : Nat} {a0 : Nat} {a1 : Int32} {a2 : Int32} {v' : Unit} {h' : Hp} {n' : Nat} (e : F_X4_init G h nx a0 a1 a2 = some (v', h', n')) : Ct G mX4_init (d + 1) (Same none h' n') [.ref a0, .int a1, .int a2] h nx := by
  unfold F_X4_init at e
  refine Ct.of (ls := [some (.ref a0), some (.int a1), some (.int a2)]) (by decide +kernel) rfl (Nat.le_of_ble_eq_true rfl) rfl ?_
  refine Ok.aload_n dX4_init_0 rfl ?_
  refine Ok.iload_n dX4_init_1 rfl ?_
  refine Ok.iload_n dX4_init_2 rfl ?_
  refine X.callI (My := mX6_init) (n := 2) (As := [.int a1, .int a2]) (T := (fun v => none)) (stk' := (fun _ => [])) (rest := []) (kc' := 0) (ks' := 0) dX4_init_3 e (fun v h n e => k_X6_init (d := d + 0) e) rfl wd631 wd89 wd630 rfl wd629 (by decide +kernel) rfl (by decide) rfl rfl (Nat.le_of_ble_eq_true rfl) (Nat.le_of_ble_eq_true rfl) (Nat.le_of_ble_eq_true rfl) rfl rfl (fun _ => rfl) (fun _ h2 n3 e1 => ?_)
  clear e
  exact X.vret dX4_init_6 rfl (Nat.le_of_ble_eq_true rfl) (Nat.le_of_ble_eq_true rfl) e1
noncomputable def F_X4_daysAhead (G : Gx) (h : Hp) (nx : Nat) (a0 : Nat) : Rz Int32 :=
gfI h a0 [4] 1 (fun v1 =>
some ((((nI 1) + ((v1 - v1 / (nI 3) * (nI 3))))), h, nx))
set_option maxRecDepth 100000 in
set_option maxHeartbeats 4000000 in
theorem k_X4_daysAhead {G : Gx} {d : Nat} {h : Hp} {nx : Nat} {a0 : Nat} {v' : Int32} {h' : Hp} {n' : Nat} (e : F_X4_daysAhead G h nx a0 = some (v', h', n')) : Ct G mX4_daysAhead (d + 0) (Same (some (.int v')) h' n') [.ref a0] h nx := by
  unfold F_X4_daysAhead at e
  refine Ct.of (ls := [some (.ref a0)]) (by decide +kernel) rfl (Nat.le_of_ble_eq_true rfl) rfl ?_
  refine Ok.iconstV (v := (nI 1)) dX4_daysAhead_0 (by decide +kernel) ?_
  refine Ok.aload_n dX4_daysAhead_1 rfl ?_
  refine X.rgfI fl_RX4_7 dX4_daysAhead_2 e (fun v1 e1 => ?_)
  clear e
  refine Ok.iconstV (v := (nI 3)) dX4_daysAhead_5 (by decide +kernel) ?_
  refine Ok.irem dX4_daysAhead_6 (by decide +kernel) ?_
  refine Ok.iadd dX4_daysAhead_7 ?_
  exact X.iret dX4_daysAhead_8 rfl (Nat.le_of_ble_eq_true rfl) (Nat.le_of_ble_eq_true rfl) e1
noncomputable def F_X11_bothWays (G : Gx) (h : Hp) (nx : Nat) (a0 : Int32) (a1 : Int64) (a2 : Int64) : Rz Int64 :=
some ((((((((a0.toInt64) * a1)) + ((((((nI 1000000) - a0)).toInt64) * a2)))) / (1000000 : Int64))), h, nx)
set_option maxRecDepth 100000 in
set_option maxHeartbeats 4000000 in
theorem k_X11_bothWays {G : Gx} {d : Nat} {h : Hp} {nx : Nat} {a0 : Int32} {a1 : Int64} {a2 : Int64} {v' : Int64} {h' : Hp} {n' : Nat} (e : F_X11_bothWays G h nx a0 a1 a2 = some (v', h', n')) : Ct G mX11_bothWays (d + 0) (Same (some (.long v')) h' n') [.int a0, .long a1, .long a2] h nx := by
  unfold F_X11_bothWays at e
  refine Ct.of (ls := [some (.int a0), some (.long a1), none, some (.long a2), none]) (by decide +kernel) rfl (Nat.le_of_ble_eq_true rfl) rfl ?_
  refine Ok.iload_n dX11_bothWays_0 rfl ?_
  refine Ok.i2l dX11_bothWays_1 ?_
  refine Ok.lload_n dX11_bothWays_2 rfl ?_
  refine Ok.lmul dX11_bothWays_3 ?_
  refine Ok.ldc (v := (nI 1000000)) dX11_bothWays_4 wd545 ?_
  refine Ok.iload_n dX11_bothWays_6 rfl ?_
  refine Ok.isub dX11_bothWays_7 ?_
  refine Ok.i2l dX11_bothWays_8 ?_
  refine Ok.lload_n dX11_bothWays_9 rfl ?_
  refine Ok.lmul dX11_bothWays_10 ?_
  refine Ok.ladd dX11_bothWays_11 ?_
  refine Ok.ldc2_w (v := 1000000) dX11_bothWays_12 wd594 ?_
  refine Ok.ldiv dX11_bothWays_15 (by decide +kernel) ?_
  exact X.lret dX11_bothWays_16 rfl (Nat.le_of_ble_eq_true rfl) (Nat.le_of_ble_eq_true rfl) e
noncomputable def F_X5_weigh_178 (G : Gx) (k49 : Hp → Nat → Nat → Int32 → Int32 → Int32 → Option Nat → Int64 → Int32 → Int64 → Int32 → Rz Unit) (k165 : Hp → Nat → Nat → Int32 → Int32 → Int32 → Option Nat → Int64 → Int32 → Int64 → Int32 → Int64 → Int64 → Int32 → Rz Unit) : Nat → Hp → Nat → Nat → Int32 → Int32 → Int32 → Option Nat → Int64 → Int32 → Int64 → Int32 → Int64 → Int64 → Int32 → Int32 → Rz Unit := fun n => Nat.rec (motive := fun _ => Hp → Nat → Nat → Int32 → Int32 → Int32 → Option Nat → Int64 → Int32 → Int64 → Int32 → Int64 → Int64 → Int32 → Int32 → Rz Unit) (fun _ _ _ _ _ _ _ _ _ _ _ _ _ _ _ => none) (fun _ k178 => fun h nx l0 l1 l2 l4 l5 l6 l8 l9 l11 l12 l14 l17 l18 =>
if ((((l17 + l4)) - l11)) < l18 then
nm (l17 + (nI 11)) (fun v1 =>
(k165 h nx l0 l1 l2 l4 l5 l6 l8 l9 l11 l12 l14 v1))
else
gfR h l0 [5] 6 (fun v2 =>
nn v2 (fun p3 =>
alJ (g_c G 1) h p3 ((l18 + (nI 1))) (fun v4 =>
nm ((l6 + v4)) (fun v5 =>
gfR h l0 [5] 1 (fun v6 =>
nn v6 (fun p7 =>
alR (g_c G 6) h p7 l1 (fun v8 =>
nn v8 (fun p9 =>
alI (g_c G 0) h p9 l18 (fun v10 =>
cl (F_X11_bothWays G h nx v10 l12 l14) (fun r11 h12 n13 =>
nn l5 (fun p14 =>
ck h12 p14 [7] (fun _ =>
cl (F_X7_lookCost G h12 n13 p14) (fun r15 h16 n17 =>
nm ((r11 - r15)) (fun v18 =>
gfR h16 l0 [5] 6 (fun v19 =>
gfR h16 l0 [5] 3 (fun v20 =>
nn v20 (fun p21 =>
alR (g_c G 6) h16 p21 l1 (fun v22 =>
nn v22 (fun p23 =>
alI (g_c G 0) h16 p23 l18 (fun v24 =>
nn v19 (fun p25 =>
asJ (g_c G 1) h16 p25 l18 (((v24.toInt64) + (mxJ v5 v18))) (fun h26 =>
nm (l18 + (nI 1)) (fun v27 =>
(k178 h26 n17 l0 l1 l2 l4 (some p14) l6 l8 l9 l11 l12 l14 l17 v27))))))))))))))))))))))))) n
theorem F_X5_weigh_178_0 {G : Gx} (k49 : Hp → Nat → Nat → Int32 → Int32 → Int32 → Option Nat → Int64 → Int32 → Int64 → Int32 → Rz Unit) (k165 : Hp → Nat → Nat → Int32 → Int32 → Int32 → Option Nat → Int64 → Int32 → Int64 → Int32 → Int64 → Int64 → Int32 → Rz Unit) {h : Hp} {nx : Nat} {l0 : Nat} {l1 : Int32} {l2 : Int32} {l4 : Int32} {l5 : Option Nat} {l6 : Int64} {l8 : Int32} {l9 : Int64} {l11 : Int32} {l12 : Int64} {l14 : Int64} {l17 : Int32} {l18 : Int32} : F_X5_weigh_178 G k49 k165 0 h nx l0 l1 l2 l4 l5 l6 l8 l9 l11 l12 l14 l17 l18 = none := rfl
theorem F_X5_weigh_178_s {G : Gx} (k49 : Hp → Nat → Nat → Int32 → Int32 → Int32 → Option Nat → Int64 → Int32 → Int64 → Int32 → Rz Unit) (k165 : Hp → Nat → Nat → Int32 → Int32 → Int32 → Option Nat → Int64 → Int32 → Int64 → Int32 → Int64 → Int64 → Int32 → Rz Unit) {n : Nat} {h : Hp} {nx : Nat} {l0 : Nat} {l1 : Int32} {l2 : Int32} {l4 : Int32} {l5 : Option Nat} {l6 : Int64} {l8 : Int32} {l9 : Int64} {l11 : Int32} {l12 : Int64} {l14 : Int64} {l17 : Int32} {l18 : Int32} : F_X5_weigh_178 G k49 k165 (n + 1) h nx l0 l1 l2 l4 l5 l6 l8 l9 l11 l12 l14 l17 l18 = (
if ((((l17 + l4)) - l11)) < l18 then
nm (l17 + (nI 11)) (fun v1 =>
(k165 h nx l0 l1 l2 l4 l5 l6 l8 l9 l11 l12 l14 v1))
else
gfR h l0 [5] 6 (fun v2 =>
nn v2 (fun p3 =>
alJ (g_c G 1) h p3 ((l18 + (nI 1))) (fun v4 =>
nm ((l6 + v4)) (fun v5 =>
gfR h l0 [5] 1 (fun v6 =>
nn v6 (fun p7 =>
alR (g_c G 6) h p7 l1 (fun v8 =>
nn v8 (fun p9 =>
alI (g_c G 0) h p9 l18 (fun v10 =>
cl (F_X11_bothWays G h nx v10 l12 l14) (fun r11 h12 n13 =>
nn l5 (fun p14 =>
ck h12 p14 [7] (fun _ =>
cl (F_X7_lookCost G h12 n13 p14) (fun r15 h16 n17 =>
nm ((r11 - r15)) (fun v18 =>
gfR h16 l0 [5] 6 (fun v19 =>
gfR h16 l0 [5] 3 (fun v20 =>
nn v20 (fun p21 =>
alR (g_c G 6) h16 p21 l1 (fun v22 =>
nn v22 (fun p23 =>
alI (g_c G 0) h16 p23 l18 (fun v24 =>
nn v19 (fun p25 =>
asJ (g_c G 1) h16 p25 l18 (((v24.toInt64) + (mxJ v5 v18))) (fun h26 =>
nm (l18 + (nI 1)) (fun v27 =>
((F_X5_weigh_178 G k49 k165 n) h26 n17 l0 l1 l2 l4 (some p14) l6 l8 l9 l11 l12 l14 l17 v27))))))))))))))))))))))))) := rfl
set_option maxRecDepth 100000 in
set_option maxHeartbeats 4000000 in
theorem k_X5_weigh_178 {G : Gx} {d : Nat} {v' : Unit} {h' : Hp} {n' : Nat} {k49 : Hp → Nat → Nat → Int32 → Int32 → Int32 → Option Nat → Int64 → Int32 → Int64 → Int32 → Rz Unit} (K49 : ∀ {h : Hp} {nx : Nat} {l0 : Nat} {l1 : Int32} {l2 : Int32} {l4 : Int32} {l5 : Option Nat} {l6 : Int64} {l8 : Int32} {l9 : Int64} {l11 : Int32}, k49 h nx l0 l1 l2 l4 l5 l6 l8 l9 l11 = some (v', h', n') → Ok G mX5_weigh (d + 1) (Same none h' n') 49 [some (.ref l0), some (.int l1), some (.int l2), none, some (.int l4), some (va_rf l5), some (.long l6), none, some (.int l8), some (.long l9), none, some (.int l11), none, none, none, none, none, none, none, none, none, none, none] [] h nx 0 0) {k165 : Hp → Nat → Nat → Int32 → Int32 → Int32 → Option Nat → Int64 → Int32 → Int64 → Int32 → Int64 → Int64 → Int32 → Rz Unit} (K165 : ∀ {h : Hp} {nx : Nat} {l0 : Nat} {l1 : Int32} {l2 : Int32} {l4 : Int32} {l5 : Option Nat} {l6 : Int64} {l8 : Int32} {l9 : Int64} {l11 : Int32} {l12 : Int64} {l14 : Int64} {l17 : Int32}, k165 h nx l0 l1 l2 l4 l5 l6 l8 l9 l11 l12 l14 l17 = some (v', h', n') → Ok G mX5_weigh (d + 1) (Same none h' n') 165 [some (.ref l0), some (.int l1), some (.int l2), none, some (.int l4), some (va_rf l5), some (.long l6), none, some (.int l8), some (.long l9), none, some (.int l11), some (.long l12), none, some (.long l14), none, none, some (.int l17), none, none, none, none, none] [] h nx 0 0) : ∀ (n : Nat) {h : Hp} {nx : Nat} {l0 : Nat} {l1 : Int32} {l2 : Int32} {l4 : Int32} {l5 : Option Nat} {l6 : Int64} {l8 : Int32} {l9 : Int64} {l11 : Int32} {l12 : Int64} {l14 : Int64} {l17 : Int32} {l18 : Int32}, F_X5_weigh_178 G k49 k165 n h nx l0 l1 l2 l4 l5 l6 l8 l9 l11 l12 l14 l17 l18 = some (v', h', n') → Ok G mX5_weigh (d + 1) (Same none h' n') 178 [some (.ref l0), some (.int l1), some (.int l2), none, some (.int l4), some (va_rf l5), some (.long l6), none, some (.int l8), some (.long l9), none, some (.int l11), some (.long l12), none, some (.long l14), none, none, some (.int l17), some (.int l18), none, none, none, none] [] h nx 0 0 := by
  intro n
  induction n with
  | zero =>
    intro h nx l0 l1 l2 l4 l5 l6 l8 l9 l11 l12 l14 l17 l18 e
    rw [F_X5_weigh_178_0] at e
    cases e
  | succ n K178 =>
    intro h nx l0 l1 l2 l4 l5 l6 l8 l9 l11 l12 l14 l17 l18 e
    rw [F_X5_weigh_178_s] at e
    refine Ok.iload dX5_weigh_178 rfl ?_
    refine Ok.iload dX5_weigh_180 rfl ?_
    refine Ok.iload dX5_weigh_182 rfl ?_
    refine Ok.iadd dX5_weigh_184 ?_
    refine Ok.iload dX5_weigh_185 rfl ?_
    refine Ok.isub dX5_weigh_187 ?_
    refine X.icmp_gt (tgt := 260) dX5_weigh_188 (by decide) e (fun e1 => ?_) (fun e1 => ?_)
    · clear e
      refine X.iinc dX5_weigh_260 rfl (by decide) (by decide +kernel) e1 (L := fun v1 => [some (.ref l0), some (.int l1), some (.int l2), none, some (.int l4), some (va_rf l5), some (.long l6), none, some (.int l8), some (.long l9), none, some (.int l11), some (.long l12), none, some (.long l14), none, none, some (.int v1), some (.int l18), none, none, none, none]) (fun _ => rfl) (fun v1 e2 => ?_)
      clear e1
      refine Ok.goto (tgt := 165) dX5_weigh_263 (by decide) ?_
      exact Ok.weakL (K165 e2) ⟨rfl, ⟨rfl, ⟨rfl, ⟨rfl, ⟨rfl, ⟨rfl, ⟨rfl, ⟨rfl, ⟨rfl, ⟨rfl, ⟨rfl, ⟨rfl, trivial⟩⟩⟩⟩⟩⟩⟩⟩⟩⟩⟩⟩
    · clear e
      refine Ok.lload dX5_weigh_191 rfl ?_
      refine Ok.aload_n dX5_weigh_193 rfl ?_
      refine X.rgfR fl_RX5_29 dX5_weigh_194 e1 (fun v2 e2 => ?_)
      clear e1
      refine Ok.iload dX5_weigh_197 rfl ?_
      refine Ok.iconstV (v := (nI 1)) dX5_weigh_199 (by decide +kernel) ?_
      refine Ok.iadd dX5_weigh_200 ?_
      refine X.rnn e2 (fun p3 q e3 => ?_)
      clear e2
      subst q
      refine X.lald dX5_weigh_201 e3 (fun v4 e4 => ?_)
      clear e3
      refine Ok.ladd dX5_weigh_202 ?_
      refine X.lstore dX5_weigh_203 (by decide) e4 (L := fun v5 => [some (.ref l0), some (.int l1), some (.int l2), none, some (.int l4), some (va_rf l5), some (.long l6), none, some (.int l8), some (.long l9), none, some (.int l11), some (.long l12), none, some (.long l14), none, none, some (.int l17), some (.int l18), some (.long v5), none, none, none]) (fun _ => rfl) (fun v5 e5 => ?_)
      clear e4
      refine Ok.aload_n dX5_weigh_205 rfl ?_
      refine X.rgfR fl_RX5_11 dX5_weigh_206 e5 (fun v6 e6 => ?_)
      clear e5
      refine Ok.iload_n dX5_weigh_209 rfl ?_
      refine X.rnn e6 (fun p7 q e7 => ?_)
      clear e6
      subst q
      refine X.gald dX5_weigh_210 e7 (fun v8 e8 => ?_)
      clear e7
      refine Ok.iload dX5_weigh_211 rfl ?_
      refine X.rnn e8 (fun p9 q e9 => ?_)
      clear e8
      subst q
      refine X.iald dX5_weigh_213 e9 (fun v10 e10 => ?_)
      clear e9
      refine Ok.lload dX5_weigh_214 rfl ?_
      refine Ok.lload dX5_weigh_216 rfl ?_
      refine X.callSN (host := "GateWatch") (My := mX11_bothWays) (n := 3) (As := [.int v10, .long l12, .long l14]) (T := (fun v => (some (.long v)))) (stk' := (fun v => [.long v])) (rest := []) (kc' := 0) (ks' := 0) dX5_weigh_218 e10 (fun v h n e => k_X11_bothWays (d := d + 0) e) wd593 wd76 wd592 (by decide +kernel) (by decide +kernel) rfl (by decide) rfl rfl (Nat.le_of_ble_eq_true rfl) (Nat.le_of_ble_eq_true rfl) (Nat.le_of_ble_eq_true rfl) rfl rfl (fun _ => rfl) (fun r11 h12 n13 e11 => ?_)
      clear e10
      refine Ok.aloadQ dX5_weigh_221 rfl ?_
      refine X.rnn e11 (fun p14 q e12 => ?_)
      clear e11
      subst q
      refine X.rck e12 (fun c fs hb hc e13 => ?_)
      clear e12
      obtain rfl := List.mem_singleton.mp hc
      refine X.callV (My := mX7_lookCost) (n := 0) (As := []) (T := (fun v => (some (.long v)))) (stk' := (fun v => [.long v, .long r11])) (rest := [.long r11]) (kc' := 0) (ks' := 0) dX5_weigh_223 e13 (fun v h n e => k_X7_lookCost (d := d + 0) e) hb rfl wd590 wd81 wd588 wd589 wd587 (by decide +kernel) rfl (by decide) rfl rfl (Nat.le_of_ble_eq_true rfl) (Nat.le_of_ble_eq_true rfl) (Nat.le_of_ble_eq_true rfl) rfl rfl (fun _ => rfl) (fun r15 h16 n17 e14 => ?_)
      clear e13
      refine Ok.lsub dX5_weigh_226 ?_
      refine X.lstore dX5_weigh_227 (by decide) e14 (L := fun v18 => [some (.ref l0), some (.int l1), some (.int l2), none, some (.int l4), some (.ref p14), some (.long l6), none, some (.int l8), some (.long l9), none, some (.int l11), some (.long l12), none, some (.long l14), none, none, some (.int l17), some (.int l18), some (.long v5), none, some (.long v18), none]) (fun _ => rfl) (fun v18 e15 => ?_)
      clear e14
      refine Ok.aload_n dX5_weigh_229 rfl ?_
      refine X.rgfR fl_RX5_29 dX5_weigh_230 e15 (fun v19 e16 => ?_)
      clear e15
      refine Ok.iload dX5_weigh_233 rfl ?_
      refine Ok.aload_n dX5_weigh_235 rfl ?_
      refine X.rgfR fl_RX5_19 dX5_weigh_236 e16 (fun v20 e17 => ?_)
      clear e16
      refine Ok.iload_n dX5_weigh_239 rfl ?_
      refine X.rnn e17 (fun p21 q e18 => ?_)
      clear e17
      subst q
      refine X.gald dX5_weigh_240 e18 (fun v22 e19 => ?_)
      clear e18
      refine Ok.iload dX5_weigh_241 rfl ?_
      refine X.rnn e19 (fun p23 q e20 => ?_)
      clear e19
      subst q
      refine X.iald dX5_weigh_243 e20 (fun v24 e21 => ?_)
      clear e20
      refine Ok.i2l dX5_weigh_244 ?_
      refine Ok.lload dX5_weigh_245 rfl ?_
      refine Ok.lload dX5_weigh_247 rfl ?_
      refine Ok.mmaxJ dX5_weigh_249 wd595 wd596 wd83 wd597 (Nat.le_of_ble_eq_true rfl) (Nat.le_of_ble_eq_true rfl) (cs_le (cs_c (a := 2) rfl (cs_c (a := 1) rfl (cs_c (a := 1) (va_rf_cat _) cs_n))) (by decide)) ?_
      refine Ok.ladd dX5_weigh_252 ?_
      refine X.rnn e21 (fun p25 q e22 => ?_)
      clear e21
      subst q
      refine X.last dX5_weigh_253 e22 (fun h26 e23 => ?_)
      clear e22
      refine X.iinc dX5_weigh_254 rfl (by decide) (by decide +kernel) e23 (L := fun v27 => [some (.ref l0), some (.int l1), some (.int l2), none, some (.int l4), some (.ref p14), some (.long l6), none, some (.int l8), some (.long l9), none, some (.int l11), some (.long l12), none, some (.long l14), none, none, some (.int l17), some (.int v27), some (.long v5), none, some (.long v18), none]) (fun _ => rfl) (fun v27 e24 => ?_)
      clear e23
      refine Ok.goto (tgt := 178) dX5_weigh_257 (by decide) ?_
      exact Ok.weakL (K178 e24) ⟨rfl, ⟨rfl, ⟨rfl, ⟨rfl, ⟨rfl, ⟨rfl, ⟨rfl, ⟨rfl, ⟨rfl, ⟨rfl, ⟨rfl, ⟨rfl, ⟨rfl, trivial⟩⟩⟩⟩⟩⟩⟩⟩⟩⟩⟩⟩⟩
noncomputable def F_X5_weigh_165 (G : Gx) (k49 : Hp → Nat → Nat → Int32 → Int32 → Int32 → Option Nat → Int64 → Int32 → Int64 → Int32 → Rz Unit) : Nat → Hp → Nat → Nat → Int32 → Int32 → Int32 → Option Nat → Int64 → Int32 → Int64 → Int32 → Int64 → Int64 → Int32 → Rz Unit := fun n => Nat.rec (motive := fun _ => Hp → Nat → Nat → Int32 → Int32 → Int32 → Option Nat → Int64 → Int32 → Int64 → Int32 → Int64 → Int64 → Int32 → Rz Unit) (fun _ _ _ _ _ _ _ _ _ _ _ _ _ _ => none) (fun _ k165 => fun h nx l0 l1 l2 l4 l5 l6 l8 l9 l11 l12 l14 l17 =>
if l8 < l17 then
nm (l11 + (nI 1)) (fun v1 =>
(k49 h nx l0 l1 l2 l4 l5 l6 l8 l9 v1))
else
nm ((l17 + (nI 1))) (fun v2 =>
(F_X5_weigh_178 G k49 k165 fuelL h nx l0 l1 l2 l4 l5 l6 l8 l9 l11 l12 l14 l17 v2))) n
theorem F_X5_weigh_165_0 {G : Gx} (k49 : Hp → Nat → Nat → Int32 → Int32 → Int32 → Option Nat → Int64 → Int32 → Int64 → Int32 → Rz Unit) {h : Hp} {nx : Nat} {l0 : Nat} {l1 : Int32} {l2 : Int32} {l4 : Int32} {l5 : Option Nat} {l6 : Int64} {l8 : Int32} {l9 : Int64} {l11 : Int32} {l12 : Int64} {l14 : Int64} {l17 : Int32} : F_X5_weigh_165 G k49 0 h nx l0 l1 l2 l4 l5 l6 l8 l9 l11 l12 l14 l17 = none := rfl
theorem F_X5_weigh_165_s {G : Gx} (k49 : Hp → Nat → Nat → Int32 → Int32 → Int32 → Option Nat → Int64 → Int32 → Int64 → Int32 → Rz Unit) {n : Nat} {h : Hp} {nx : Nat} {l0 : Nat} {l1 : Int32} {l2 : Int32} {l4 : Int32} {l5 : Option Nat} {l6 : Int64} {l8 : Int32} {l9 : Int64} {l11 : Int32} {l12 : Int64} {l14 : Int64} {l17 : Int32} : F_X5_weigh_165 G k49 (n + 1) h nx l0 l1 l2 l4 l5 l6 l8 l9 l11 l12 l14 l17 = (
if l8 < l17 then
nm (l11 + (nI 1)) (fun v1 =>
(k49 h nx l0 l1 l2 l4 l5 l6 l8 l9 v1))
else
nm ((l17 + (nI 1))) (fun v2 =>
(F_X5_weigh_178 G k49 (F_X5_weigh_165 G k49 n) fuelL h nx l0 l1 l2 l4 l5 l6 l8 l9 l11 l12 l14 l17 v2))) := rfl
set_option maxRecDepth 100000 in
set_option maxHeartbeats 4000000 in
theorem k_X5_weigh_165 {G : Gx} {d : Nat} {v' : Unit} {h' : Hp} {n' : Nat} {k49 : Hp → Nat → Nat → Int32 → Int32 → Int32 → Option Nat → Int64 → Int32 → Int64 → Int32 → Rz Unit} (K49 : ∀ {h : Hp} {nx : Nat} {l0 : Nat} {l1 : Int32} {l2 : Int32} {l4 : Int32} {l5 : Option Nat} {l6 : Int64} {l8 : Int32} {l9 : Int64} {l11 : Int32}, k49 h nx l0 l1 l2 l4 l5 l6 l8 l9 l11 = some (v', h', n') → Ok G mX5_weigh (d + 1) (Same none h' n') 49 [some (.ref l0), some (.int l1), some (.int l2), none, some (.int l4), some (va_rf l5), some (.long l6), none, some (.int l8), some (.long l9), none, some (.int l11), none, none, none, none, none, none, none, none, none, none, none] [] h nx 0 0) : ∀ (n : Nat) {h : Hp} {nx : Nat} {l0 : Nat} {l1 : Int32} {l2 : Int32} {l4 : Int32} {l5 : Option Nat} {l6 : Int64} {l8 : Int32} {l9 : Int64} {l11 : Int32} {l12 : Int64} {l14 : Int64} {l17 : Int32}, F_X5_weigh_165 G k49 n h nx l0 l1 l2 l4 l5 l6 l8 l9 l11 l12 l14 l17 = some (v', h', n') → Ok G mX5_weigh (d + 1) (Same none h' n') 165 [some (.ref l0), some (.int l1), some (.int l2), none, some (.int l4), some (va_rf l5), some (.long l6), none, some (.int l8), some (.long l9), none, some (.int l11), some (.long l12), none, some (.long l14), none, none, some (.int l17), none, none, none, none, none] [] h nx 0 0 := by
  intro n
  induction n with
  | zero =>
    intro h nx l0 l1 l2 l4 l5 l6 l8 l9 l11 l12 l14 l17 e
    rw [F_X5_weigh_165_0] at e
    cases e
  | succ n K165 =>
    intro h nx l0 l1 l2 l4 l5 l6 l8 l9 l11 l12 l14 l17 e
    rw [F_X5_weigh_165_s] at e
    refine Ok.iload dX5_weigh_165 rfl ?_
    refine Ok.iload dX5_weigh_167 rfl ?_
    refine X.icmp_gt (tgt := 266) dX5_weigh_169 (by decide) e (fun e1 => ?_) (fun e1 => ?_)
    · clear e
      refine X.iinc dX5_weigh_266 rfl (by decide) (by decide +kernel) e1 (L := fun v1 => [some (.ref l0), some (.int l1), some (.int l2), none, some (.int l4), some (va_rf l5), some (.long l6), none, some (.int l8), some (.long l9), none, some (.int v1), some (.long l12), none, some (.long l14), none, none, some (.int l17), none, none, none, none, none]) (fun _ => rfl) (fun v1 e2 => ?_)
      clear e1
      refine Ok.goto (tgt := 49) dX5_weigh_269 (by decide) ?_
      exact Ok.weakL (K49 e2) ⟨rfl, ⟨rfl, ⟨rfl, ⟨rfl, ⟨rfl, ⟨rfl, ⟨rfl, ⟨rfl, ⟨rfl, trivial⟩⟩⟩⟩⟩⟩⟩⟩⟩
    · clear e
      refine Ok.iload dX5_weigh_172 rfl ?_
      refine Ok.iconstV (v := (nI 1)) dX5_weigh_174 (by decide +kernel) ?_
      refine Ok.iadd dX5_weigh_175 ?_
      refine X.istore dX5_weigh_176 (by decide) e1 (L := fun v2 => [some (.ref l0), some (.int l1), some (.int l2), none, some (.int l4), some (va_rf l5), some (.long l6), none, some (.int l8), some (.long l9), none, some (.int l11), some (.long l12), none, some (.long l14), none, none, some (.int l17), some (.int v2), none, none, none, none]) (fun _ => rfl) (fun v2 e2 => ?_)
      clear e1
      exact Ok.weakL (k_X5_weigh_178 (d := d) K49 K165 fuelL e2) ⟨rfl, ⟨rfl, ⟨rfl, ⟨rfl, ⟨rfl, ⟨rfl, ⟨rfl, ⟨rfl, ⟨rfl, ⟨rfl, ⟨rfl, ⟨rfl, ⟨rfl, trivial⟩⟩⟩⟩⟩⟩⟩⟩⟩⟩⟩⟩⟩
noncomputable def F_X5_weigh_49 (G : Gx) : Nat → Hp → Nat → Nat → Int32 → Int32 → Int32 → Option Nat → Int64 → Int32 → Int64 → Int32 → Rz Unit := fun n => Nat.rec (motive := fun _ => Hp → Nat → Nat → Int32 → Int32 → Int32 → Option Nat → Int64 → Int32 → Int64 → Int32 → Rz Unit) (fun _ _ _ _ _ _ _ _ _ _ _ => none) (fun _ k49 => fun h nx l0 l1 l2 l4 l5 l6 l8 l9 l11 =>
if l4 < l11 then
some ((), h, nx)
else
gfR h l0 [5] 6 (fun v1 =>
nn v1 (fun p2 =>
alJ (g_c G 1) h p2 (nI 12) (fun v3 =>
gfR h l0 [5] 6 (fun v4 =>
nn v4 (fun p5 =>
alJ (g_c G 1) h p5 ((l8 + (nI 1))) (fun v6 =>
nn l5 (fun p7 =>
ck h p7 [7] (fun _ =>
cl (F_X7_mendCost G h nx p7) (fun r8 h9 n10 =>
nm ((v6 - r8)) (fun v11 =>
nm ((((l2 + l4)) - l11)) (fun v12 =>
gfR h9 l0 [5] 3 (fun v13 =>
nn v13 (fun p14 =>
alR (g_c G 6) h9 p14 l1 (fun v15 =>
nn v15 (fun p16 =>
alI (g_c G 0) h9 p16 v12 (fun v17 =>
pfV h9 l0 [5] 7 (.long (((((v17.toInt64) + l6)) + l9))) (fun h18 =>
gfR h18 l0 [5] 3 (fun v19 =>
nn v19 (fun p20 =>
alR (g_c G 6) h18 p20 l1 (fun v21 =>
nn v21 (fun p22 =>
alI (g_c G 0) h18 p22 v12 (fun v23 =>
ck h18 p7 [7] (fun _ =>
cl (F_X7_lookCost G h18 n10 p7) (fun r24 h25 n26 =>
gfR h25 l0 [5] 1 (fun v27 =>
nn v27 (fun p28 =>
alR (g_c G 6) h25 p28 l1 (fun v29 =>
nn v29 (fun p30 =>
alI (g_c G 0) h25 p30 v12 (fun v31 =>
cl (F_X11_bothWays G h25 n26 v31 v3 v11) (fun r32 h33 n34 =>
pfV h33 l0 [5] 8 (.long (((((v23.toInt64) - r24)) + r32))) (fun h35 =>
gfJ h35 l0 [5] 7 (fun v36 =>
gfJ h35 l0 [5] 8 (fun v37 =>
nm (mxJ v36 v37) (fun v38 =>
(F_X5_weigh_165 G k49 fuelL h35 n34 l0 l1 l2 l4 (some p7) l6 l8 v38 l11 v3 v11 (nI 11))))))))))))))))))))))))))))))))))))) n
theorem F_X5_weigh_49_0 {G : Gx} {h : Hp} {nx : Nat} {l0 : Nat} {l1 : Int32} {l2 : Int32} {l4 : Int32} {l5 : Option Nat} {l6 : Int64} {l8 : Int32} {l9 : Int64} {l11 : Int32} : F_X5_weigh_49 G 0 h nx l0 l1 l2 l4 l5 l6 l8 l9 l11 = none := rfl
theorem F_X5_weigh_49_s {G : Gx} {n : Nat} {h : Hp} {nx : Nat} {l0 : Nat} {l1 : Int32} {l2 : Int32} {l4 : Int32} {l5 : Option Nat} {l6 : Int64} {l8 : Int32} {l9 : Int64} {l11 : Int32} : F_X5_weigh_49 G (n + 1) h nx l0 l1 l2 l4 l5 l6 l8 l9 l11 = (
if l4 < l11 then
some ((), h, nx)
else
gfR h l0 [5] 6 (fun v1 =>
nn v1 (fun p2 =>
alJ (g_c G 1) h p2 (nI 12) (fun v3 =>
gfR h l0 [5] 6 (fun v4 =>
nn v4 (fun p5 =>
alJ (g_c G 1) h p5 ((l8 + (nI 1))) (fun v6 =>
nn l5 (fun p7 =>
ck h p7 [7] (fun _ =>
cl (F_X7_mendCost G h nx p7) (fun r8 h9 n10 =>
nm ((v6 - r8)) (fun v11 =>
nm ((((l2 + l4)) - l11)) (fun v12 =>
gfR h9 l0 [5] 3 (fun v13 =>
nn v13 (fun p14 =>
alR (g_c G 6) h9 p14 l1 (fun v15 =>
nn v15 (fun p16 =>
alI (g_c G 0) h9 p16 v12 (fun v17 =>
pfV h9 l0 [5] 7 (.long (((((v17.toInt64) + l6)) + l9))) (fun h18 =>
gfR h18 l0 [5] 3 (fun v19 =>
nn v19 (fun p20 =>
alR (g_c G 6) h18 p20 l1 (fun v21 =>
nn v21 (fun p22 =>
alI (g_c G 0) h18 p22 v12 (fun v23 =>
ck h18 p7 [7] (fun _ =>
cl (F_X7_lookCost G h18 n10 p7) (fun r24 h25 n26 =>
gfR h25 l0 [5] 1 (fun v27 =>
nn v27 (fun p28 =>
alR (g_c G 6) h25 p28 l1 (fun v29 =>
nn v29 (fun p30 =>
alI (g_c G 0) h25 p30 v12 (fun v31 =>
cl (F_X11_bothWays G h25 n26 v31 v3 v11) (fun r32 h33 n34 =>
pfV h33 l0 [5] 8 (.long (((((v23.toInt64) - r24)) + r32))) (fun h35 =>
gfJ h35 l0 [5] 7 (fun v36 =>
gfJ h35 l0 [5] 8 (fun v37 =>
nm (mxJ v36 v37) (fun v38 =>
(F_X5_weigh_165 G (F_X5_weigh_49 G n) fuelL h35 n34 l0 l1 l2 l4 (some p7) l6 l8 v38 l11 v3 v11 (nI 11))))))))))))))))))))))))))))))))))))) := rfl
set_option maxRecDepth 100000 in
set_option maxHeartbeats 4000000 in
theorem k_X5_weigh_49 {G : Gx} {d : Nat} {v' : Unit} {h' : Hp} {n' : Nat} : ∀ (n : Nat) {h : Hp} {nx : Nat} {l0 : Nat} {l1 : Int32} {l2 : Int32} {l4 : Int32} {l5 : Option Nat} {l6 : Int64} {l8 : Int32} {l9 : Int64} {l11 : Int32}, F_X5_weigh_49 G n h nx l0 l1 l2 l4 l5 l6 l8 l9 l11 = some (v', h', n') → Ok G mX5_weigh (d + 1) (Same none h' n') 49 [some (.ref l0), some (.int l1), some (.int l2), none, some (.int l4), some (va_rf l5), some (.long l6), none, some (.int l8), some (.long l9), none, some (.int l11), none, none, none, none, none, none, none, none, none, none, none] [] h nx 0 0 := by
  intro n
  induction n with
  | zero =>
    intro h nx l0 l1 l2 l4 l5 l6 l8 l9 l11 e
    rw [F_X5_weigh_49_0] at e
    cases e
  | succ n K49 =>
    intro h nx l0 l1 l2 l4 l5 l6 l8 l9 l11 e
    rw [F_X5_weigh_49_s] at e
    refine Ok.iload dX5_weigh_49 rfl ?_
    refine Ok.iload dX5_weigh_51 rfl ?_
    refine X.icmp_gt (tgt := 272) dX5_weigh_53 (by decide) e (fun e1 => ?_) (fun e1 => ?_)
    · clear e
      exact X.vret dX5_weigh_272 rfl (Nat.le_of_ble_eq_true rfl) (Nat.le_of_ble_eq_true rfl) e1
    · clear e
      refine Ok.aload_n dX5_weigh_56 rfl ?_
      refine X.rgfR fl_RX5_29 dX5_weigh_57 e1 (fun v1 e2 => ?_)
      clear e1
      refine Ok.bipushV (v := (nI 12)) dX5_weigh_60 (by decide +kernel) ?_
      refine X.rnn e2 (fun p2 q e3 => ?_)
      clear e2
      subst q
      refine X.lald dX5_weigh_62 e3 (fun v3 e4 => ?_)
      clear e3
      refine XL.lstore dX5_weigh_63 (by decide) (L := [some (.ref l0), some (.int l1), some (.int l2), none, some (.int l4), some (va_rf l5), some (.long l6), none, some (.int l8), some (.long l9), none, some (.int l11), some (.long v3), none, none, none, none, none, none, none, none, none, none]) rfl ?_
      refine Ok.aload_n dX5_weigh_65 rfl ?_
      refine X.rgfR fl_RX5_29 dX5_weigh_66 e4 (fun v4 e5 => ?_)
      clear e4
      refine Ok.iload dX5_weigh_69 rfl ?_
      refine Ok.iconstV (v := (nI 1)) dX5_weigh_71 (by decide +kernel) ?_
      refine Ok.iadd dX5_weigh_72 ?_
      refine X.rnn e5 (fun p5 q e6 => ?_)
      clear e5
      subst q
      refine X.lald dX5_weigh_73 e6 (fun v6 e7 => ?_)
      clear e6
      refine Ok.aloadQ dX5_weigh_74 rfl ?_
      refine X.rnn e7 (fun p7 q e8 => ?_)
      clear e7
      subst q
      refine X.rck e8 (fun c fs hb hc e9 => ?_)
      clear e8
      obtain rfl := List.mem_singleton.mp hc
      refine X.callV (My := mX7_mendCost) (n := 0) (As := []) (T := (fun v => (some (.long v)))) (stk' := (fun v => [.long v, .long v6])) (rest := [.long v6]) (kc' := 0) (ks' := 0) dX5_weigh_76 e9 (fun v h n e => k_X7_mendCost (d := d + 0) e) hb rfl wd585 wd81 wd583 wd584 wd582 (by decide +kernel) rfl (by decide) rfl rfl (Nat.le_of_ble_eq_true rfl) (Nat.le_of_ble_eq_true rfl) (Nat.le_of_ble_eq_true rfl) rfl rfl (fun _ => rfl) (fun r8 h9 n10 e10 => ?_)
      clear e9
      refine Ok.lsub dX5_weigh_79 ?_
      refine X.lstore dX5_weigh_80 (by decide) e10 (L := fun v11 => [some (.ref l0), some (.int l1), some (.int l2), none, some (.int l4), some (.ref p7), some (.long l6), none, some (.int l8), some (.long l9), none, some (.int l11), some (.long v3), none, some (.long v11), none, none, none, none, none, none, none, none]) (fun _ => rfl) (fun v11 e11 => ?_)
      clear e10
      refine Ok.iload_n dX5_weigh_82 rfl ?_
      refine Ok.iload dX5_weigh_83 rfl ?_
      refine Ok.iadd dX5_weigh_85 ?_
      refine Ok.iload dX5_weigh_86 rfl ?_
      refine Ok.isub dX5_weigh_88 ?_
      refine X.istore dX5_weigh_89 (by decide) e11 (L := fun v12 => [some (.ref l0), some (.int l1), some (.int l2), none, some (.int l4), some (.ref p7), some (.long l6), none, some (.int l8), some (.long l9), none, some (.int l11), some (.long v3), none, some (.long v11), none, some (.int v12), none, none, none, none, none, none]) (fun _ => rfl) (fun v12 e12 => ?_)
      clear e11
      refine Ok.aload_n dX5_weigh_91 rfl ?_
      refine Ok.aload_n dX5_weigh_92 rfl ?_
      refine X.rgfR fl_RX5_19 dX5_weigh_93 e12 (fun v13 e13 => ?_)
      clear e12
      refine Ok.iload_n dX5_weigh_96 rfl ?_
      refine X.rnn e13 (fun p14 q e14 => ?_)
      clear e13
      subst q
      refine X.gald dX5_weigh_97 e14 (fun v15 e15 => ?_)
      clear e14
      refine Ok.iload dX5_weigh_98 rfl ?_
      refine X.rnn e15 (fun p16 q e16 => ?_)
      clear e15
      subst q
      refine X.iald dX5_weigh_100 e16 (fun v17 e17 => ?_)
      clear e16
      refine Ok.i2l dX5_weigh_101 ?_
      refine Ok.lload dX5_weigh_102 rfl ?_
      refine Ok.ladd dX5_weigh_104 ?_
      refine Ok.lload dX5_weigh_105 rfl ?_
      refine Ok.ladd dX5_weigh_107 ?_
      refine X.rpfV (v := (.long (((((v17.toInt64) + l6)) + l9)))) fp_RX5_33 rfl rfl dX5_weigh_108 e17 (fun h18 e18 => ?_)
      clear e17
      refine Ok.aload_n dX5_weigh_111 rfl ?_
      refine Ok.aload_n dX5_weigh_112 rfl ?_
      refine X.rgfR fl_RX5_19 dX5_weigh_113 e18 (fun v19 e19 => ?_)
      clear e18
      refine Ok.iload_n dX5_weigh_116 rfl ?_
      refine X.rnn e19 (fun p20 q e20 => ?_)
      clear e19
      subst q
      refine X.gald dX5_weigh_117 e20 (fun v21 e21 => ?_)
      clear e20
      refine Ok.iload dX5_weigh_118 rfl ?_
      refine X.rnn e21 (fun p22 q e22 => ?_)
      clear e21
      subst q
      refine X.iald dX5_weigh_120 e22 (fun v23 e23 => ?_)
      clear e22
      refine Ok.i2l dX5_weigh_121 ?_
      refine Ok.aload dX5_weigh_122 rfl ?_
      refine X.rck e23 (fun c fs hb hc e24 => ?_)
      clear e23
      obtain rfl := List.mem_singleton.mp hc
      refine X.callV (My := mX7_lookCost) (n := 0) (As := []) (T := (fun v => (some (.long v)))) (stk' := (fun v => [.long v, .long (v23.toInt64), .ref l0])) (rest := [.long (v23.toInt64), .ref l0]) (kc' := 0) (ks' := 0) dX5_weigh_124 e24 (fun v h n e => k_X7_lookCost (d := d + 0) e) hb rfl wd590 wd81 wd588 wd589 wd587 (by decide +kernel) rfl (by decide) rfl rfl (Nat.le_of_ble_eq_true rfl) (Nat.le_of_ble_eq_true rfl) (Nat.le_of_ble_eq_true rfl) rfl rfl (fun _ => rfl) (fun r24 h25 n26 e25 => ?_)
      clear e24
      refine Ok.lsub dX5_weigh_127 ?_
      refine Ok.aload_n dX5_weigh_128 rfl ?_
      refine X.rgfR fl_RX5_11 dX5_weigh_129 e25 (fun v27 e26 => ?_)
      clear e25
      refine Ok.iload_n dX5_weigh_132 rfl ?_
      refine X.rnn e26 (fun p28 q e27 => ?_)
      clear e26
      subst q
      refine X.gald dX5_weigh_133 e27 (fun v29 e28 => ?_)
      clear e27
      refine Ok.iload dX5_weigh_134 rfl ?_
      refine X.rnn e28 (fun p30 q e29 => ?_)
      clear e28
      subst q
      refine X.iald dX5_weigh_136 e29 (fun v31 e30 => ?_)
      clear e29
      refine Ok.lload dX5_weigh_137 rfl ?_
      refine Ok.lload dX5_weigh_139 rfl ?_
      refine X.callSN (host := "GateWatch") (My := mX11_bothWays) (n := 3) (As := [.int v31, .long v3, .long v11]) (T := (fun v => (some (.long v)))) (stk' := (fun v => [.long v, .long (((v23.toInt64) - r24)), .ref l0])) (rest := [.long (((v23.toInt64) - r24)), .ref l0]) (kc' := 0) (ks' := 0) dX5_weigh_141 e30 (fun v h n e => k_X11_bothWays (d := d + 0) e) wd593 wd76 wd592 (by decide +kernel) (by decide +kernel) rfl (by decide) rfl rfl (Nat.le_of_ble_eq_true rfl) (Nat.le_of_ble_eq_true rfl) (Nat.le_of_ble_eq_true rfl) rfl rfl (fun _ => rfl) (fun r32 h33 n34 e31 => ?_)
      clear e30
      refine Ok.ladd dX5_weigh_144 ?_
      refine X.rpfV (v := (.long (((((v23.toInt64) - r24)) + r32)))) fp_RX5_37 rfl rfl dX5_weigh_145 e31 (fun h35 e32 => ?_)
      clear e31
      refine Ok.aload_n dX5_weigh_148 rfl ?_
      refine X.rgfJ fl_RX5_33 dX5_weigh_149 e32 (fun v36 e33 => ?_)
      clear e32
      refine Ok.aload_n dX5_weigh_152 rfl ?_
      refine X.rgfJ fl_RX5_37 dX5_weigh_153 e33 (fun v37 e34 => ?_)
      clear e33
      refine Ok.mmaxJ dX5_weigh_156 wd595 wd596 wd83 wd597 (Nat.le_of_ble_eq_true rfl) (Nat.le_of_ble_eq_true rfl) (Nat.le_of_ble_eq_true rfl) ?_
      refine X.lstore dX5_weigh_159 (by decide) e34 (L := fun v38 => [some (.ref l0), some (.int l1), some (.int l2), none, some (.int l4), some (.ref p7), some (.long l6), none, some (.int l8), some (.long v38), none, some (.int l11), some (.long v3), none, some (.long v11), none, some (.int v12), none, none, none, none, none, none]) (fun _ => rfl) (fun v38 e35 => ?_)
      clear e34
      refine Ok.bipushV (v := (nI 11)) dX5_weigh_161 (by decide +kernel) ?_
      refine XL.istore dX5_weigh_163 (by decide) (L := [some (.ref l0), some (.int l1), some (.int l2), none, some (.int l4), some (.ref p7), some (.long l6), none, some (.int l8), some (.long v38), none, some (.int l11), some (.long v3), none, some (.long v11), none, some (.int v12), some (.int (nI 11)), none, none, none, none, none]) rfl ?_
      exact Ok.weakL (k_X5_weigh_165 (d := d) K49 fuelL e35) ⟨rfl, ⟨rfl, ⟨rfl, ⟨rfl, ⟨rfl, ⟨rfl, ⟨rfl, ⟨rfl, ⟨rfl, ⟨rfl, ⟨rfl, ⟨rfl, trivial⟩⟩⟩⟩⟩⟩⟩⟩⟩⟩⟩⟩
noncomputable def F_X5_weigh_33 (G : Gx) (h : Hp) (nx : Nat) (s0 : Int32) (l0 : Nat) (l1 : Int32) (l2 : Int32) (l4 : Int32) (l5 : Option Nat) (l6 : Int64) : Rz Unit :=
gfR h l0 [5] 6 (fun v1 =>
nn v1 (fun p2 =>
cl (F_J7_fill_d0a16 G h nx p2 (0 : Int64)) (fun _ h4 n5 =>
(F_X5_weigh_49 G fuelL h4 n5 l0 l1 l2 l4 l5 l6 s0 (0 : Int64) (nI 1)))))
set_option maxRecDepth 100000 in
set_option maxHeartbeats 4000000 in
theorem k_X5_weigh_33 {G : Gx} {d : Nat} {v' : Unit} {h' : Hp} {n' : Nat} {h : Hp} {nx : Nat} {s0 : Int32} {l0 : Nat} {l1 : Int32} {l2 : Int32} {l4 : Int32} {l5 : Option Nat} {l6 : Int64} (e : F_X5_weigh_33 G h nx s0 l0 l1 l2 l4 l5 l6 = some (v', h', n')) : Ok G mX5_weigh (d + 1) (Same none h' n') 33 [some (.ref l0), some (.int l1), some (.int l2), none, some (.int l4), some (va_rf l5), some (.long l6), none, none, none, none, none, none, none, none, none, none, none, none, none, none, none, none] [.int s0] h nx 0 0 := by
  unfold F_X5_weigh_33 at e
  refine XL.istore dX5_weigh_33 (by decide) (L := [some (.ref l0), some (.int l1), some (.int l2), none, some (.int l4), some (va_rf l5), some (.long l6), none, some (.int s0), none, none, none, none, none, none, none, none, none, none, none, none, none, none]) rfl ?_
  refine Ok.aload_n dX5_weigh_35 rfl ?_
  refine X.rgfR fl_RX5_29 dX5_weigh_36 e (fun v1 e1 => ?_)
  clear e
  refine XL.lconst (v := 0) dX5_weigh_39 (by decide +kernel) ?_
  refine X.rnn e1 (fun p2 q e2 => ?_)
  clear e1
  subst q
  refine X.callS (My := mJ7_fill_d0a16) (n := 2) (As := [.ref p2, .long (0 : Int64)]) (T := (fun v => none)) (stk' := (fun _ => [])) (rest := []) (kc' := 0) (ks' := 0) dX5_weigh_40 e2 (fun v h n e => k_J7_fill_d0a16 (d := d + 0) e) wd581 wd82 wd580 wd579 (by decide +kernel) rfl (by decide) rfl rfl (Nat.le_of_ble_eq_true rfl) (Nat.le_of_ble_eq_true rfl) (Nat.le_of_ble_eq_true rfl) rfl rfl (fun _ => rfl) (fun _ h4 n5 e3 => ?_)
  clear e2
  refine XL.lconst (v := 0) dX5_weigh_43 (by decide +kernel) ?_
  refine XL.lstore dX5_weigh_44 (by decide) (L := [some (.ref l0), some (.int l1), some (.int l2), none, some (.int l4), some (va_rf l5), some (.long l6), none, some (.int s0), some (.long (0 : Int64)), none, none, none, none, none, none, none, none, none, none, none, none, none]) rfl ?_
  refine Ok.iconstV (v := (nI 1)) dX5_weigh_46 (by decide +kernel) ?_
  refine XL.istore dX5_weigh_47 (by decide) (L := [some (.ref l0), some (.int l1), some (.int l2), none, some (.int l4), some (va_rf l5), some (.long l6), none, some (.int s0), some (.long (0 : Int64)), none, some (.int (nI 1)), none, none, none, none, none, none, none, none, none, none, none]) rfl ?_
  exact Ok.weakL (k_X5_weigh_49 (d := d) fuelL e3) ⟨rfl, ⟨rfl, ⟨rfl, ⟨rfl, ⟨rfl, ⟨rfl, ⟨rfl, ⟨rfl, ⟨rfl, trivial⟩⟩⟩⟩⟩⟩⟩⟩⟩
noncomputable def F_X5_weigh (G : Gx) (h : Hp) (nx : Nat) (a0 : Nat) (a1 : Int32) (a2 : Int32) (a3 : Int32) (a4 : Int32) : Rz Unit :=
gfR h a0 [5] 0 (fun v1 =>
nn v1 (fun p2 =>
ck h p2 [0] (fun _ =>
cl (F_X0_sortAt G h nx p2 a1) (fun r3 h4 n5 =>
nm (((a3.toInt64) * (1000 : Int64))) (fun v6 =>
nn r3 (fun p7 =>
ck h4 p7 [7] (fun _ =>
cl (F_X7_mends G h4 n5 p7) (fun r8 h9 n10 =>
if r8 = 0 then
(F_X5_weigh_33 G h9 n10 (nI 22) a0 a1 a2 a4 (some p7) v6)
else
(F_X5_weigh_33 G h9 n10 (nI 11) a0 a1 a2 a4 (some p7) v6)))))))))
set_option maxRecDepth 100000 in
set_option maxHeartbeats 4000000 in
theorem k_X5_weigh {G : Gx} {d : Nat} {h : Hp} {nx : Nat} {a0 : Nat} {a1 : Int32} {a2 : Int32} {a3 : Int32} {a4 : Int32} {v' : Unit} {h' : Hp} {n' : Nat} (e : F_X5_weigh G h nx a0 a1 a2 a3 a4 = some (v', h', n')) : Ct G mX5_weigh (d + 1) (Same none h' n') [.ref a0, .int a1, .int a2, .int a3, .int a4] h nx := by
  unfold F_X5_weigh at e
  refine Ct.of (ls := [some (.ref a0), some (.int a1), some (.int a2), some (.int a3), some (.int a4), none, none, none, none, none, none, none, none, none, none, none, none, none, none, none, none, none, none]) (by decide +kernel) rfl (Nat.le_of_ble_eq_true rfl) rfl ?_
  refine Ok.aload_n dX5_weigh_0 rfl ?_
  refine X.rgfR fl_RX5_40 dX5_weigh_1 e (fun v1 e1 => ?_)
  clear e
  refine Ok.iload_n dX5_weigh_4 rfl ?_
  refine X.rnn e1 (fun p2 q e2 => ?_)
  clear e1
  subst q
  refine X.rck e2 (fun c fs hb hc e3 => ?_)
  clear e2
  obtain rfl := List.mem_singleton.mp hc
  refine X.callV (My := mX0_sortAt) (n := 1) (As := [.int a1]) (T := (fun v => (some (va_rf v)))) (stk' := (fun v => [va_rf v])) (rest := []) (kc' := 0) (ks' := 0) dX5_weigh_5 e3 (fun v h n e => k_X0_sortAt (d := d + 0) e) hb rfl wd533 wd77 wd531 wd532 wd562 (by decide +kernel) rfl (by decide) rfl rfl (Nat.le_of_ble_eq_true rfl) (Nat.le_of_ble_eq_true rfl) (Nat.le_of_ble_eq_true rfl) rfl rfl (fun _ => rfl) (fun r3 h4 n5 e4 => ?_)
  clear e3
  refine XL.astoreQ (r := r3) dX5_weigh_8 (by decide) (L := [some (.ref a0), some (.int a1), some (.int a2), some (.int a3), some (.int a4), some (va_rf r3), none, none, none, none, none, none, none, none, none, none, none, none, none, none, none, none, none]) rfl ?_
  refine Ok.iload_n dX5_weigh_10 rfl ?_
  refine Ok.i2l dX5_weigh_11 ?_
  refine Ok.ldc2_w (v := 1000) dX5_weigh_12 wd574 ?_
  refine Ok.lmul dX5_weigh_15 ?_
  refine X.lstore dX5_weigh_16 (by decide) e4 (L := fun v6 => [some (.ref a0), some (.int a1), some (.int a2), some (.int a3), some (.int a4), some (va_rf r3), some (.long v6), none, none, none, none, none, none, none, none, none, none, none, none, none, none, none, none]) (fun _ => (by first | rfl | (simp only [lst1, lst2, unw_q]))) (fun v6 e5 => ?_)
  clear e4
  refine Ok.aloadQ dX5_weigh_18 rfl ?_
  refine X.rnn e5 (fun p7 q e6 => ?_)
  clear e5
  subst q
  refine X.rck e6 (fun c fs hb hc e7 => ?_)
  clear e6
  obtain rfl := List.mem_singleton.mp hc
  refine X.callV (My := mX7_mends) (n := 0) (As := []) (T := (fun v => (some (.int v)))) (stk' := (fun v => [.int v])) (rest := []) (kc' := 0) (ks' := 0) dX5_weigh_20 e7 (fun v h n e => k_X7_mends (d := d + 0) e) hb rfl wd578 wd81 wd576 wd577 wd575 (by decide +kernel) rfl (by decide) rfl rfl (Nat.le_of_ble_eq_true rfl) (Nat.le_of_ble_eq_true rfl) (Nat.le_of_ble_eq_true rfl) rfl rfl (fun _ => rfl) (fun r8 h9 n10 e8 => ?_)
  clear e7
  refine X.if_eq (tgt := 31) dX5_weigh_23 (by decide) e8 (fun e9 => ?_) (fun e9 => ?_)
  · clear e8
    refine Ok.bipushV (v := (nI 22)) dX5_weigh_31 (by decide +kernel) ?_
    exact Ok.weakL (k_X5_weigh_33 (d := d) e9) ⟨rfl, ⟨rfl, ⟨rfl, ⟨rfl, ⟨rfl, ⟨rfl, trivial⟩⟩⟩⟩⟩⟩
  · clear e8
    refine Ok.bipushV (v := (nI 11)) dX5_weigh_26 (by decide +kernel) ?_
    refine Ok.goto (tgt := 33) dX5_weigh_28 (by decide) ?_
    exact Ok.weakL (k_X5_weigh_33 (d := d) e9) ⟨rfl, ⟨rfl, ⟨rfl, ⟨rfl, ⟨rfl, ⟨rfl, trivial⟩⟩⟩⟩⟩⟩
noncomputable def F_X5_leastWage_87 (G : Gx) (h : Hp) (nx : Nat) (l0 : Nat) (l1 : Int32) (l2 : Int32) : Rz Int32 :=
gfR h l0 [5] 4 (fun v1 =>
nn v1 (fun p2 =>
alR (g_c G 6) h p2 l1 (fun v3 =>
nn v3 (fun p4 =>
alI (g_c G 0) h p4 l2 (fun v5 =>
some (v5, h, nx))))))
set_option maxRecDepth 100000 in
set_option maxHeartbeats 4000000 in
theorem k_X5_leastWage_87 {G : Gx} {d : Nat} {v' : Int32} {h' : Hp} {n' : Nat} {h : Hp} {nx : Nat} {l0 : Nat} {l1 : Int32} {l2 : Int32} (e : F_X5_leastWage_87 G h nx l0 l1 l2 = some (v', h', n')) : Ok G mX5_leastWage (d + 2) (Same (some (.int v')) h' n') 87 [some (.ref l0), some (.int l1), some (.int l2), none, none, none] [] h nx 0 0 := by
  unfold F_X5_leastWage_87 at e
  refine Ok.aload_n dX5_leastWage_87 rfl ?_
  refine X.rgfR fl_RX5_22 dX5_leastWage_88 e (fun v1 e1 => ?_)
  clear e
  refine Ok.iload_n dX5_leastWage_91 rfl ?_
  refine X.rnn e1 (fun p2 q e2 => ?_)
  clear e1
  subst q
  refine X.gald dX5_leastWage_92 e2 (fun v3 e3 => ?_)
  clear e2
  refine Ok.iload_n dX5_leastWage_93 rfl ?_
  refine X.rnn e3 (fun p4 q e4 => ?_)
  clear e3
  subst q
  refine X.iald dX5_leastWage_94 e4 (fun v5 e5 => ?_)
  clear e4
  exact X.iret dX5_leastWage_95 rfl (Nat.le_of_ble_eq_true rfl) (Nat.le_of_ble_eq_true rfl) e5
noncomputable def F_X5_leastWage_77 (G : Gx) (h : Hp) (nx : Nat) (l0 : Nat) (l1 : Int32) (l2 : Int32) (l4 : Int32) : Rz Int32 :=
gfR h l0 [5] 4 (fun v1 =>
nn v1 (fun p2 =>
alR (g_c G 6) h p2 l1 (fun v3 =>
nn v3 (fun p4 =>
asI (g_c G 0) id h p4 l2 l4 (fun h5 =>
(F_X5_leastWage_87 G h5 nx l0 l1 l2))))))
set_option maxRecDepth 100000 in
set_option maxHeartbeats 4000000 in
theorem k_X5_leastWage_77 {G : Gx} {d : Nat} {v' : Int32} {h' : Hp} {n' : Nat} {h : Hp} {nx : Nat} {l0 : Nat} {l1 : Int32} {l2 : Int32} {l4 : Int32} (e : F_X5_leastWage_77 G h nx l0 l1 l2 l4 = some (v', h', n')) : Ok G mX5_leastWage (d + 2) (Same (some (.int v')) h' n') 77 [some (.ref l0), some (.int l1), some (.int l2), none, some (.int l4), none] [] h nx 0 0 := by
  unfold F_X5_leastWage_77 at e
  refine Ok.aload_n dX5_leastWage_77 rfl ?_
  refine X.rgfR fl_RX5_22 dX5_leastWage_78 e (fun v1 e1 => ?_)
  clear e
  refine Ok.iload_n dX5_leastWage_81 rfl ?_
  refine X.rnn e1 (fun p2 q e2 => ?_)
  clear e1
  subst q
  refine X.gald dX5_leastWage_82 e2 (fun v3 e3 => ?_)
  clear e2
  refine Ok.iload_n dX5_leastWage_83 rfl ?_
  refine Ok.iload dX5_leastWage_84 rfl ?_
  refine X.rnn e3 (fun p4 q e4 => ?_)
  clear e3
  subst q
  refine X.iast dX5_leastWage_86 e4 (fun h5 e5 => ?_)
  clear e4
  exact Ok.weakL (k_X5_leastWage_87 (d := d) e5) ⟨rfl, ⟨rfl, ⟨rfl, trivial⟩⟩⟩
noncomputable def F_X5_leastWage_71 (G : Gx) (k18 : Hp → Nat → Nat → Int32 → Int32 → Int32 → Int32 → Int32 → Rz Int32) (h : Hp) (nx : Nat) (s0 : Int32) (s1 : Int32) (l0 : Nat) (l1 : Int32) (l2 : Int32) (l3 : Int32) (l5 : Int32) : Rz Int32 :=
nm ((s0 + s1)) (fun v1 =>
(k18 h nx l0 l1 l2 l3 v1 l5))
set_option maxRecDepth 100000 in
set_option maxHeartbeats 4000000 in
theorem k_X5_leastWage_71 {G : Gx} {d : Nat} {v' : Int32} {h' : Hp} {n' : Nat} {k18 : Hp → Nat → Nat → Int32 → Int32 → Int32 → Int32 → Int32 → Rz Int32} (K18 : ∀ {h : Hp} {nx : Nat} {l0 : Nat} {l1 : Int32} {l2 : Int32} {l3 : Int32} {l4 : Int32} {l5 : Int32}, k18 h nx l0 l1 l2 l3 l4 l5 = some (v', h', n') → Ok G mX5_leastWage (d + 2) (Same (some (.int v')) h' n') 18 [some (.ref l0), some (.int l1), some (.int l2), some (.int l3), some (.int l4), some (.int l5)] [] h nx 0 0) {h : Hp} {nx : Nat} {s0 : Int32} {s1 : Int32} {l0 : Nat} {l1 : Int32} {l2 : Int32} {l3 : Int32} {l5 : Int32} (e : F_X5_leastWage_71 G k18 h nx s0 s1 l0 l1 l2 l3 l5 = some (v', h', n')) : Ok G mX5_leastWage (d + 2) (Same (some (.int v')) h' n') 71 [some (.ref l0), some (.int l1), some (.int l2), some (.int l3), none, some (.int l5)] [.int s1, .int s0] h nx 0 0 := by
  unfold F_X5_leastWage_71 at e
  refine Ok.iadd dX5_leastWage_71 ?_
  refine X.istore dX5_leastWage_72 (by decide) e (L := fun v1 => [some (.ref l0), some (.int l1), some (.int l2), some (.int l3), some (.int v1), some (.int l5)]) (fun _ => rfl) (fun v1 e1 => ?_)
  clear e
  refine Ok.goto (tgt := 18) dX5_leastWage_74 (by decide) ?_
  exact Ok.weakL (K18 e1) ⟨rfl, ⟨rfl, ⟨rfl, ⟨rfl, ⟨rfl, ⟨rfl, trivial⟩⟩⟩⟩⟩⟩
noncomputable def F_X5_leastWage_57 (G : Gx) (k18 : Hp → Nat → Nat → Int32 → Int32 → Int32 → Int32 → Int32 → Rz Int32) (h : Hp) (nx : Nat) (s0 : Int32) (l0 : Nat) (l1 : Int32) (l2 : Int32) (l3 : Int32) (l4 : Int32) : Rz Int32 :=
if s0 = 0 then
(F_X5_leastWage_71 G k18 h nx l4 (nI 1) l0 l1 l2 l3 s0)
else
(F_X5_leastWage_71 G k18 h nx l4 (nI 0) l0 l1 l2 l3 s0)
set_option maxRecDepth 100000 in
set_option maxHeartbeats 4000000 in
theorem k_X5_leastWage_57 {G : Gx} {d : Nat} {v' : Int32} {h' : Hp} {n' : Nat} {k18 : Hp → Nat → Nat → Int32 → Int32 → Int32 → Int32 → Int32 → Rz Int32} (K18 : ∀ {h : Hp} {nx : Nat} {l0 : Nat} {l1 : Int32} {l2 : Int32} {l3 : Int32} {l4 : Int32} {l5 : Int32}, k18 h nx l0 l1 l2 l3 l4 l5 = some (v', h', n') → Ok G mX5_leastWage (d + 2) (Same (some (.int v')) h' n') 18 [some (.ref l0), some (.int l1), some (.int l2), some (.int l3), some (.int l4), some (.int l5)] [] h nx 0 0) {h : Hp} {nx : Nat} {s0 : Int32} {l0 : Nat} {l1 : Int32} {l2 : Int32} {l3 : Int32} {l4 : Int32} (e : F_X5_leastWage_57 G k18 h nx s0 l0 l1 l2 l3 l4 = some (v', h', n')) : Ok G mX5_leastWage (d + 2) (Same (some (.int v')) h' n') 57 [some (.ref l0), some (.int l1), some (.int l2), some (.int l3), some (.int l4), none] [.int s0] h nx 0 0 := by
  unfold F_X5_leastWage_57 at e
  refine XL.istore dX5_leastWage_57 (by decide) (L := [some (.ref l0), some (.int l1), some (.int l2), some (.int l3), some (.int l4), some (.int s0)]) rfl ?_
  refine Ok.iload dX5_leastWage_59 rfl ?_
  refine Ok.iload dX5_leastWage_61 rfl ?_
  refine X.if_eq (tgt := 70) dX5_leastWage_63 (by decide) e (fun e1 => ?_) (fun e1 => ?_)
  · clear e
    refine Ok.iconstV (v := (nI 1)) dX5_leastWage_70 (by decide +kernel) ?_
    exact Ok.weakL (k_X5_leastWage_71 (d := d) K18 e1) ⟨rfl, ⟨rfl, ⟨rfl, ⟨rfl, ⟨rfl, trivial⟩⟩⟩⟩⟩
  · clear e
    refine Ok.iconstV (v := (nI 0)) dX5_leastWage_66 (by decide +kernel) ?_
    refine Ok.goto (tgt := 71) dX5_leastWage_67 (by decide) ?_
    exact Ok.weakL (k_X5_leastWage_71 (d := d) K18 e1) ⟨rfl, ⟨rfl, ⟨rfl, ⟨rfl, ⟨rfl, trivial⟩⟩⟩⟩⟩
noncomputable def F_X5_leastWage_18 (G : Gx) : Nat → Hp → Nat → Nat → Int32 → Int32 → Int32 → Int32 → Int32 → Rz Int32 := fun n => Nat.rec (motive := fun _ => Hp → Nat → Nat → Int32 → Int32 → Int32 → Int32 → Int32 → Rz Int32) (fun _ _ _ _ _ _ _ _ => none) (fun _ k18 => fun h nx l0 l1 l2 l3 l4 l5 =>
if (nI 200) < l4 then
(F_X5_leastWage_77 G h nx l0 l1 l2 l4)
else
if l5 = 0 then
ck h l0 [5] (fun _ =>
cl (F_X5_weigh G h nx l0 l1 l2 l4 l3) (fun _ h2 n3 =>
gfJ h2 l0 [5] 7 (fun v4 =>
gfJ h2 l0 [5] 8 (fun v5 =>
if ((lg_cmp v4 v5)) < 0 then
(F_X5_leastWage_57 G k18 h2 n3 (nI 0) l0 l1 l2 l3 l4)
else
(F_X5_leastWage_57 G k18 h2 n3 (nI 1) l0 l1 l2 l3 l4)))))
else
(F_X5_leastWage_77 G h nx l0 l1 l2 l4)) n
theorem F_X5_leastWage_18_0 {G : Gx} {h : Hp} {nx : Nat} {l0 : Nat} {l1 : Int32} {l2 : Int32} {l3 : Int32} {l4 : Int32} {l5 : Int32} : F_X5_leastWage_18 G 0 h nx l0 l1 l2 l3 l4 l5 = none := rfl
theorem F_X5_leastWage_18_s {G : Gx} {n : Nat} {h : Hp} {nx : Nat} {l0 : Nat} {l1 : Int32} {l2 : Int32} {l3 : Int32} {l4 : Int32} {l5 : Int32} : F_X5_leastWage_18 G (n + 1) h nx l0 l1 l2 l3 l4 l5 = (
if (nI 200) < l4 then
(F_X5_leastWage_77 G h nx l0 l1 l2 l4)
else
if l5 = 0 then
ck h l0 [5] (fun _ =>
cl (F_X5_weigh G h nx l0 l1 l2 l4 l3) (fun _ h2 n3 =>
gfJ h2 l0 [5] 7 (fun v4 =>
gfJ h2 l0 [5] 8 (fun v5 =>
if ((lg_cmp v4 v5)) < 0 then
(F_X5_leastWage_57 G (F_X5_leastWage_18 G n) h2 n3 (nI 0) l0 l1 l2 l3 l4)
else
(F_X5_leastWage_57 G (F_X5_leastWage_18 G n) h2 n3 (nI 1) l0 l1 l2 l3 l4)))))
else
(F_X5_leastWage_77 G h nx l0 l1 l2 l4)) := rfl
set_option maxRecDepth 100000 in
set_option maxHeartbeats 4000000 in
theorem k_X5_leastWage_18 {G : Gx} {d : Nat} {v' : Int32} {h' : Hp} {n' : Nat} : ∀ (n : Nat) {h : Hp} {nx : Nat} {l0 : Nat} {l1 : Int32} {l2 : Int32} {l3 : Int32} {l4 : Int32} {l5 : Int32}, F_X5_leastWage_18 G n h nx l0 l1 l2 l3 l4 l5 = some (v', h', n') → Ok G mX5_leastWage (d + 2) (Same (some (.int v')) h' n') 18 [some (.ref l0), some (.int l1), some (.int l2), some (.int l3), some (.int l4), some (.int l5)] [] h nx 0 0 := by
  intro n
  induction n with
  | zero =>
    intro h nx l0 l1 l2 l3 l4 l5 e
    rw [F_X5_leastWage_18_0] at e
    cases e
  | succ n K18 =>
    intro h nx l0 l1 l2 l3 l4 l5 e
    rw [F_X5_leastWage_18_s] at e
    refine Ok.iload dX5_leastWage_18 rfl ?_
    refine Ok.sipushV (v := (nI 200)) dX5_leastWage_20 (by decide +kernel) ?_
    refine X.icmp_gt (tgt := 77) dX5_leastWage_23 (by decide) e (fun e1 => ?_) (fun e1 => ?_)
    · clear e
      exact Ok.weakL (k_X5_leastWage_77 (d := d) e1) ⟨rfl, ⟨rfl, ⟨rfl, ⟨rfl, trivial⟩⟩⟩⟩
    · clear e
      refine Ok.iload dX5_leastWage_26 rfl ?_
      refine X.if_ne (tgt := 77) dX5_leastWage_28 (by decide) e1 (fun e2 => ?_) (fun e2 => ?_)
      · clear e1
        exact Ok.weakL (k_X5_leastWage_77 (d := d) e2) ⟨rfl, ⟨rfl, ⟨rfl, ⟨rfl, trivial⟩⟩⟩⟩
      · clear e1
        refine Ok.aload_n dX5_leastWage_31 rfl ?_
        refine Ok.iload_n dX5_leastWage_32 rfl ?_
        refine Ok.iload_n dX5_leastWage_33 rfl ?_
        refine Ok.iload dX5_leastWage_34 rfl ?_
        refine Ok.iload_n dX5_leastWage_36 rfl ?_
        refine X.rck e2 (fun c fs hb hc e3 => ?_)
        clear e2
        obtain rfl := List.mem_singleton.mp hc
        refine X.callV (My := mX5_weigh) (n := 4) (As := [.int l1, .int l2, .int l4, .int l3]) (T := (fun v => none)) (stk' := (fun _ => [])) (rest := []) (kc' := 0) (ks' := 0) dX5_leastWage_37 e3 (fun v h n e => k_X5_weigh (d := d + 0) e) hb rfl wd573 wd78 wd571 wd572 wd607 (by decide +kernel) rfl (by decide) rfl rfl (Nat.le_of_ble_eq_true rfl) (Nat.le_of_ble_eq_true rfl) (Nat.le_of_ble_eq_true rfl) rfl rfl (fun _ => rfl) (fun _ h2 n3 e4 => ?_)
        clear e3
        refine Ok.aload_n dX5_leastWage_40 rfl ?_
        refine X.rgfJ fl_RX5_33 dX5_leastWage_41 e4 (fun v4 e5 => ?_)
        clear e4
        refine Ok.aload_n dX5_leastWage_44 rfl ?_
        refine X.rgfJ fl_RX5_37 dX5_leastWage_45 e5 (fun v5 e6 => ?_)
        clear e5
        refine Ok.lcmp dX5_leastWage_48 ?_
        refine X.if_lt (tgt := 56) dX5_leastWage_49 (by decide) e6 (fun e7 => ?_) (fun e7 => ?_)
        · clear e6
          refine Ok.iconstV (v := (nI 0)) dX5_leastWage_56 (by decide +kernel) ?_
          exact Ok.weakL (k_X5_leastWage_57 (d := d) K18 e7) ⟨rfl, ⟨rfl, ⟨rfl, ⟨rfl, ⟨rfl, trivial⟩⟩⟩⟩⟩
        · clear e6
          refine Ok.iconstV (v := (nI 1)) dX5_leastWage_52 (by decide +kernel) ?_
          refine Ok.goto (tgt := 57) dX5_leastWage_53 (by decide) ?_
          exact Ok.weakL (k_X5_leastWage_57 (d := d) K18 e7) ⟨rfl, ⟨rfl, ⟨rfl, ⟨rfl, ⟨rfl, trivial⟩⟩⟩⟩⟩
noncomputable def F_X5_leastWage (G : Gx) (h : Hp) (nx : Nat) (a0 : Nat) (a1 : Int32) (a2 : Int32) (a3 : Int32) : Rz Int32 :=
gfR h a0 [5] 4 (fun v1 =>
nn v1 (fun p2 =>
alR (g_c G 6) h p2 a1 (fun v3 =>
nn v3 (fun p4 =>
alI (g_c G 0) h p4 a2 (fun v5 =>
if v5 = (-1 : Int32) then
(F_X5_leastWage_18 G fuelL h nx a0 a1 a2 a3 (nI 0) (nI 0))
else
(F_X5_leastWage_87 G h nx a0 a1 a2))))))
set_option maxRecDepth 100000 in
set_option maxHeartbeats 4000000 in
theorem k_X5_leastWage {G : Gx} {d : Nat} {h : Hp} {nx : Nat} {a0 : Nat} {a1 : Int32} {a2 : Int32} {a3 : Int32} {v' : Int32} {h' : Hp} {n' : Nat} (e : F_X5_leastWage G h nx a0 a1 a2 a3 = some (v', h', n')) : Ct G mX5_leastWage (d + 2) (Same (some (.int v')) h' n') [.ref a0, .int a1, .int a2, .int a3] h nx := by
  unfold F_X5_leastWage at e
  refine Ct.of (ls := [some (.ref a0), some (.int a1), some (.int a2), some (.int a3), none, none]) (by decide +kernel) rfl (Nat.le_of_ble_eq_true rfl) rfl ?_
  refine Ok.aload_n dX5_leastWage_0 rfl ?_
  refine X.rgfR fl_RX5_22 dX5_leastWage_1 e (fun v1 e1 => ?_)
  clear e
  refine Ok.iload_n dX5_leastWage_4 rfl ?_
  refine X.rnn e1 (fun p2 q e2 => ?_)
  clear e1
  subst q
  refine X.gald dX5_leastWage_5 e2 (fun v3 e3 => ?_)
  clear e2
  refine Ok.iload_n dX5_leastWage_6 rfl ?_
  refine X.rnn e3 (fun p4 q e4 => ?_)
  clear e3
  subst q
  refine X.iald dX5_leastWage_7 e4 (fun v5 e5 => ?_)
  clear e4
  refine Ok.iconstV (v := (-1 : Int32)) dX5_leastWage_8 (by decide +kernel) ?_
  refine X.icmp_ne (tgt := 87) dX5_leastWage_9 (by decide) e5 (fun e6 => ?_) (fun e6 => ?_)
  · clear e5
    exact Ok.weakL (k_X5_leastWage_87 (d := d) e6) ⟨rfl, ⟨rfl, ⟨rfl, trivial⟩⟩⟩
  · clear e5
    refine Ok.iconstV (v := (nI 0)) dX5_leastWage_12 (by decide +kernel) ?_
    refine XL.istore dX5_leastWage_13 (by decide) (L := [some (.ref a0), some (.int a1), some (.int a2), some (.int a3), some (.int (nI 0)), none]) rfl ?_
    refine Ok.iconstV (v := (nI 0)) dX5_leastWage_15 (by decide +kernel) ?_
    refine XL.istore dX5_leastWage_16 (by decide) (L := [some (.ref a0), some (.int a1), some (.int a2), some (.int a3), some (.int (nI 0)), some (.int (nI 0))]) rfl ?_
    exact Ok.weakL (k_X5_leastWage_18 (d := d) fuelL e6) ⟨rfl, ⟨rfl, ⟨rfl, ⟨rfl, ⟨rfl, ⟨rfl, trivial⟩⟩⟩⟩⟩⟩
noncomputable def F_X4_worthOf (G : Gx) (h : Hp) (nx : Nat) (a0 : Nat) (a1 : Nat) (a2 : Int32) (a3 : Int32) : Rz Int32 :=
ck h a0 [4] (fun _ =>
cl (F_X4_daysAhead G h nx a0) (fun r1 h2 n3 =>
ck h2 a1 [5] (fun _ =>
cl (F_X5_leastWage G h2 n3 a1 a2 a3 r1) (fun r4 h5 n6 =>
some (r4, h5, n6)))))
set_option maxRecDepth 100000 in
set_option maxHeartbeats 4000000 in
theorem k_X4_worthOf {G : Gx} {d : Nat} {h : Hp} {nx : Nat} {a0 : Nat} {a1 : Nat} {a2 : Int32} {a3 : Int32} {v' : Int32} {h' : Hp} {n' : Nat} (e : F_X4_worthOf G h nx a0 a1 a2 a3 = some (v', h', n')) : Ct G mX4_worthOf (d + 3) (Same (some (.int v')) h' n') [.ref a0, .ref a1, .int a2, .int a3] h nx := by
  unfold F_X4_worthOf at e
  refine Ct.of (ls := [some (.ref a0), some (.ref a1), some (.int a2), some (.int a3)]) (by decide +kernel) rfl (Nat.le_of_ble_eq_true rfl) rfl ?_
  refine Ok.aload_n dX4_worthOf_0 rfl ?_
  refine Ok.iload_n dX4_worthOf_1 rfl ?_
  refine Ok.iload_n dX4_worthOf_2 rfl ?_
  refine Ok.aload_n dX4_worthOf_3 rfl ?_
  refine X.rck e (fun c fs hb hc e1 => ?_)
  clear e
  obtain rfl := List.mem_singleton.mp hc
  refine X.callV (My := mX4_daysAhead) (n := 0) (As := []) (T := (fun v => (some (.int v)))) (stk' := (fun v => [.int v, .int a3, .int a2, .ref a1])) (rest := [.int a3, .int a2, .ref a1]) (kc' := 0) (ks' := 0) dX4_worthOf_4 e1 (fun v h n e => k_X4_daysAhead (d := d + 2) e) hb rfl wd733 wd90 wd732 wd1535 wd798 (by decide +kernel) rfl (by decide) rfl rfl (Nat.le_of_ble_eq_true rfl) (Nat.le_of_ble_eq_true rfl) (Nat.le_of_ble_eq_true rfl) rfl rfl (fun _ => rfl) (fun r1 h2 n3 e2 => ?_)
  clear e1
  refine X.rck e2 (fun c fs hb hc e3 => ?_)
  clear e2
  obtain rfl := List.mem_singleton.mp hc
  refine X.callV (My := mX5_leastWage) (n := 3) (As := [.int a2, .int a3, .int r1]) (T := (fun v => (some (.int v)))) (stk' := (fun v => [.int v])) (rest := []) (kc' := 0) (ks' := 0) dX4_worthOf_7 e3 (fun v h n e => k_X5_leastWage (d := d + 0) e) hb rfl wd606 wd78 wd604 wd605 wd799 (by decide +kernel) rfl (by decide) rfl rfl (Nat.le_of_ble_eq_true rfl) (Nat.le_of_ble_eq_true rfl) (Nat.le_of_ble_eq_true rfl) rfl rfl (fun _ => rfl) (fun r4 h5 n6 e4 => ?_)
  clear e3
  exact X.iret dX4_worthOf_10 rfl (Nat.le_of_ble_eq_true rfl) (Nat.le_of_ble_eq_true rfl) e4
noncomputable def F_X5_init (G : Gx) (h : Hp) (nx : Nat) (a0 : Nat) (a1 : Nat) : Rz Unit :=
nwG G h nx 8 33 (fun p1 h2 n3 =>
pfV h2 a0 [5] 1 (va_rf (some p1)) (fun h4 =>
nwG G h4 n3 8 33 (fun p5 h6 n7 =>
pfV h6 a0 [5] 2 (va_rf (some p5)) (fun h8 =>
nwG G h8 n7 8 33 (fun p9 h10 n11 =>
pfV h10 a0 [5] 3 (va_rf (some p9)) (fun h12 =>
nwG G h12 n11 8 33 (fun p13 h14 n15 =>
pfV h14 a0 [5] 4 (va_rf (some p13)) (fun h16 =>
nwI G (g_c G 0) h16 n15 (nI 8) 8 (fun p17 h18 n19 =>
pfV h18 a0 [5] 5 (va_rf (some p17)) (fun h20 =>
nwJ G (g_c G 1) h20 n19 (nI 33) 33 (fun p21 h22 n23 =>
pfV h22 a0 [5] 6 (va_rf (some p21)) (fun h24 =>
pfV h24 a0 [5] 7 (.long (0 : Int64)) (fun h25 =>
pfV h25 a0 [5] 8 (.long (0 : Int64)) (fun h26 =>
pfV h26 a0 [5] 0 (va_rf (some a1)) (fun h27 =>
some ((), h27, n23))))))))))))))))
set_option maxRecDepth 100000 in
set_option maxHeartbeats 4000000 in
theorem k_X5_init {G : Gx} {d : Nat} {h : Hp} {nx : Nat} {a0 : Nat} {a1 : Nat} {v' : Unit} {h' : Hp} {n' : Nat} (e : F_X5_init G h nx a0 a1 = some (v', h', n')) : Ct G mX5_init (d + 0) (Same none h' n') [.ref a0, .ref a1] h nx := by
  unfold F_X5_init at e
  refine Ct.of (ls := [some (.ref a0), some (.ref a1)]) (by decide +kernel) rfl (Nat.le_of_ble_eq_true rfl) rfl ?_
  refine Ok.aload_n dX5_init_0 rfl ?_
  refine Ok.objInit dX5_init_1 wd210 wo_1 wo_2 (Nat.le_of_ble_eq_true rfl) ?_
  refine Ok.aload_n dX5_init_4 rfl ?_
  refine Ok.bipushV (v := (nI 8)) dX5_init_5 (by decide +kernel) ?_
  refine Ok.bipushV (v := (nI 33)) dX5_init_7 (by decide +kernel) ?_
  refine X.rnwG dX5_init_9 wd211 wd203 ⟨by decide +kernel, by decide +kernel, by decide⟩ ⟨by decide +kernel, by decide +kernel, by decide⟩ (Nat.le_of_ble_eq_true rfl) (Nat.le_of_ble_eq_true rfl) e (fun p1 h2 n3 e1 => ?_)
  clear e
  refine Ok.mono (kc' := 9) (ks' := 272) ?_ (by decide) (by decide)
  refine X.pfF (v := (va_rf (some p1))) fp_RX5_11 rfl (nar_q (Or.inr ⟨_, rfl⟩) (some p1)) (fits_q (Or.inr ⟨_, rfl⟩) (some p1)) dX5_init_13 e1 (fun h4 e2 => ?_)
  clear e1
  refine Ok.aload_n dX5_init_16 rfl ?_
  refine Ok.bipushV (v := (nI 8)) dX5_init_17 (by decide +kernel) ?_
  refine Ok.bipushV (v := (nI 33)) dX5_init_19 (by decide +kernel) ?_
  refine X.rnwG dX5_init_21 wd211 wd203 ⟨by decide +kernel, by decide +kernel, by decide⟩ ⟨by decide +kernel, by decide +kernel, by decide⟩ (Nat.le_of_ble_eq_true rfl) (Nat.le_of_ble_eq_true rfl) e2 (fun p5 h6 n7 e3 => ?_)
  clear e2
  refine Ok.mono (kc' := 18) (ks' := 544) ?_ (by decide) (by decide)
  refine X.pfF (v := (va_rf (some p5))) fp_RX5_16 rfl (nar_q (Or.inr ⟨_, rfl⟩) (some p5)) (fits_q (Or.inr ⟨_, rfl⟩) (some p5)) dX5_init_25 e3 (fun h8 e4 => ?_)
  clear e3
  refine Ok.aload_n dX5_init_28 rfl ?_
  refine Ok.bipushV (v := (nI 8)) dX5_init_29 (by decide +kernel) ?_
  refine Ok.bipushV (v := (nI 33)) dX5_init_31 (by decide +kernel) ?_
  refine X.rnwG dX5_init_33 wd211 wd203 ⟨by decide +kernel, by decide +kernel, by decide⟩ ⟨by decide +kernel, by decide +kernel, by decide⟩ (Nat.le_of_ble_eq_true rfl) (Nat.le_of_ble_eq_true rfl) e4 (fun p9 h10 n11 e5 => ?_)
  clear e4
  refine Ok.mono (kc' := 27) (ks' := 816) ?_ (by decide) (by decide)
  refine X.pfF (v := (va_rf (some p9))) fp_RX5_19 rfl (nar_q (Or.inr ⟨_, rfl⟩) (some p9)) (fits_q (Or.inr ⟨_, rfl⟩) (some p9)) dX5_init_37 e5 (fun h12 e6 => ?_)
  clear e5
  refine Ok.aload_n dX5_init_40 rfl ?_
  refine Ok.bipushV (v := (nI 8)) dX5_init_41 (by decide +kernel) ?_
  refine Ok.bipushV (v := (nI 33)) dX5_init_43 (by decide +kernel) ?_
  refine X.rnwG dX5_init_45 wd211 wd203 ⟨by decide +kernel, by decide +kernel, by decide⟩ ⟨by decide +kernel, by decide +kernel, by decide⟩ (Nat.le_of_ble_eq_true rfl) (Nat.le_of_ble_eq_true rfl) e6 (fun p13 h14 n15 e7 => ?_)
  clear e6
  refine Ok.mono (kc' := 36) (ks' := 1088) ?_ (by decide) (by decide)
  refine X.pfF (v := (va_rf (some p13))) fp_RX5_22 rfl (nar_q (Or.inr ⟨_, rfl⟩) (some p13)) (fits_q (Or.inr ⟨_, rfl⟩) (some p13)) dX5_init_49 e7 (fun h16 e8 => ?_)
  clear e7
  refine Ok.aload_n dX5_init_52 rfl ?_
  refine Ok.bipushV (v := (nI 8)) dX5_init_53 (by decide +kernel) ?_
  refine X.rnwI dX5_init_55 wd203 (by decide +kernel) (Nat.le_of_ble_eq_true rfl) (Nat.le_of_ble_eq_true rfl) e8 (fun p17 h18 n19 e9 => ?_)
  clear e8
  refine Ok.mono (kc' := 37) (ks' := 1096) ?_ (by decide) (by decide)
  refine X.pfF (v := (va_rf (some p17))) fp_RX5_25 rfl (nar_q (Or.inr ⟨_, rfl⟩) (some p17)) (fits_q (Or.inr ⟨_, rfl⟩) (some p17)) dX5_init_57 e9 (fun h20 e10 => ?_)
  clear e9
  refine Ok.aload_n dX5_init_60 rfl ?_
  refine Ok.bipushV (v := (nI 33)) dX5_init_61 (by decide +kernel) ?_
  refine X.rnwJ dX5_init_63 wd252 (by decide +kernel) (Nat.le_of_ble_eq_true rfl) (Nat.le_of_ble_eq_true rfl) e10 (fun p21 h22 n23 e11 => ?_)
  clear e10
  refine Ok.mono (kc' := 38) (ks' := 1129) ?_ (by decide) (by decide)
  refine X.pfF (v := (va_rf (some p21))) fp_RX5_29 rfl (nar_q (Or.inr ⟨_, rfl⟩) (some p21)) (fits_q (Or.inr ⟨_, rfl⟩) (some p21)) dX5_init_65 e11 (fun h24 e12 => ?_)
  clear e11
  refine Ok.aload_n dX5_init_68 rfl ?_
  refine XL.lconst (v := 0) dX5_init_69 (by decide +kernel) ?_
  refine X.rpfV (v := (.long (0 : Int64))) fp_RX5_33 rfl rfl dX5_init_70 e12 (fun h25 e13 => ?_)
  clear e12
  refine Ok.aload_n dX5_init_73 rfl ?_
  refine XL.lconst (v := 0) dX5_init_74 (by decide +kernel) ?_
  refine X.rpfV (v := (.long (0 : Int64))) fp_RX5_37 rfl rfl dX5_init_75 e13 (fun h26 e14 => ?_)
  clear e13
  refine Ok.aload_n dX5_init_78 rfl ?_
  refine Ok.aload_n dX5_init_79 rfl ?_
  refine X.pfF (v := (va_rf (some a1))) fp_RX5_40 rfl (nar_q (Or.inl ⟨_, rfl⟩) (some a1)) (fits_q (Or.inl ⟨_, rfl⟩) (some a1)) dX5_init_80 e14 (fun h27 e15 => ?_)
  clear e14
  exact X.vret dX5_init_83 rfl (Nat.le_of_ble_eq_true rfl) (Nat.le_of_ble_eq_true rfl) e15
noncomputable def F_X7_bringsBy (G : Gx) (h : Hp) (nx : Nat) (a0 : Nat) (a1 : Int32) : Rz Int32 :=
gfR h a0 [7] 0 (fun v1 =>
nn v1 (fun p2 =>
alI (g_c G 0) h p2 (nI 2) (fun v3 =>
gfR h a0 [7] 0 (fun v4 =>
nn v4 (fun p5 =>
alI (g_c G 0) h p5 (nI 3) (fun v6 =>
some (((((((a1 * v3)) / (nI 1000))) - (((((((nI 1000000) - a1)) * v6)) / (nI 1000))))), h, nx)))))))
set_option maxRecDepth 100000 in
set_option maxHeartbeats 4000000 in
theorem k_X7_bringsBy {G : Gx} {d : Nat} {h : Hp} {nx : Nat} {a0 : Nat} {a1 : Int32} {v' : Int32} {h' : Hp} {n' : Nat} (e : F_X7_bringsBy G h nx a0 a1 = some (v', h', n')) : Ct G mX7_bringsBy (d + 0) (Same (some (.int v')) h' n') [.ref a0, .int a1] h nx := by
  unfold F_X7_bringsBy at e
  refine Ct.of (ls := [some (.ref a0), some (.int a1)]) (by decide +kernel) rfl (Nat.le_of_ble_eq_true rfl) rfl ?_
  refine Ok.iload_n dX7_bringsBy_0 rfl ?_
  refine Ok.aload_n dX7_bringsBy_1 rfl ?_
  refine X.rgfR fl_RX7_9 dX7_bringsBy_2 e (fun v1 e1 => ?_)
  clear e
  refine Ok.iconstV (v := (nI 2)) dX7_bringsBy_5 (by decide +kernel) ?_
  refine X.rnn e1 (fun p2 q e2 => ?_)
  clear e1
  subst q
  refine X.iald dX7_bringsBy_6 e2 (fun v3 e3 => ?_)
  clear e2
  refine Ok.imul dX7_bringsBy_7 ?_
  refine Ok.sipushV (v := (nI 1000)) dX7_bringsBy_8 (by decide +kernel) ?_
  refine Ok.idiv dX7_bringsBy_11 (by decide +kernel) ?_
  refine Ok.ldc (v := (nI 1000000)) dX7_bringsBy_12 wd539 ?_
  refine Ok.iload_n dX7_bringsBy_14 rfl ?_
  refine Ok.isub dX7_bringsBy_15 ?_
  refine Ok.aload_n dX7_bringsBy_16 rfl ?_
  refine X.rgfR fl_RX7_9 dX7_bringsBy_17 e3 (fun v4 e4 => ?_)
  clear e3
  refine Ok.iconstV (v := (nI 3)) dX7_bringsBy_20 (by decide +kernel) ?_
  refine X.rnn e4 (fun p5 q e5 => ?_)
  clear e4
  subst q
  refine X.iald dX7_bringsBy_21 e5 (fun v6 e6 => ?_)
  clear e5
  refine Ok.imul dX7_bringsBy_22 ?_
  refine Ok.sipushV (v := (nI 1000)) dX7_bringsBy_23 (by decide +kernel) ?_
  refine Ok.idiv dX7_bringsBy_26 (by decide +kernel) ?_
  refine Ok.isub dX7_bringsBy_27 ?_
  exact X.iret dX7_bringsBy_28 rfl (Nat.le_of_ble_eq_true rfl) (Nat.le_of_ble_eq_true rfl) e6
noncomputable def F_X5_layPath_127 (G : Gx) (k23 : Hp → Nat → Nat → Int32 → Int32 → Option Nat → Int32 → Int32 → Rz Unit) (h : Hp) (nx : Nat) (l0 : Nat) (l1 : Int32) (l4 : Int32) (l5 : Option Nat) (l6 : Int32) (l7 : Int32) : Rz Unit :=
nm (l7 + (nI 1)) (fun v1 =>
(k23 h nx l0 l1 l4 l5 l6 v1))
set_option maxRecDepth 100000 in
set_option maxHeartbeats 4000000 in
theorem k_X5_layPath_127 {G : Gx} {d : Nat} {v' : Unit} {h' : Hp} {n' : Nat} {k23 : Hp → Nat → Nat → Int32 → Int32 → Option Nat → Int32 → Int32 → Rz Unit} (K23 : ∀ {h : Hp} {nx : Nat} {l0 : Nat} {l1 : Int32} {l4 : Int32} {l5 : Option Nat} {l6 : Int32} {l7 : Int32}, k23 h nx l0 l1 l4 l5 l6 l7 = some (v', h', n') → Ok G mX5_layPath (d + 3) (Same none h' n') 23 [some (.ref l0), some (.int l1), none, none, some (.int l4), some (va_rf l5), some (.int l6), some (.int l7), none, none] [] h nx 0 0) {h : Hp} {nx : Nat} {l0 : Nat} {l1 : Int32} {l4 : Int32} {l5 : Option Nat} {l6 : Int32} {l7 : Int32} (e : F_X5_layPath_127 G k23 h nx l0 l1 l4 l5 l6 l7 = some (v', h', n')) : Ok G mX5_layPath (d + 3) (Same none h' n') 127 [some (.ref l0), some (.int l1), none, none, some (.int l4), some (va_rf l5), some (.int l6), some (.int l7), none, none] [] h nx 0 0 := by
  unfold F_X5_layPath_127 at e
  refine X.iinc dX5_layPath_127 rfl (by decide) (by decide +kernel) e (L := fun v1 => [some (.ref l0), some (.int l1), none, none, some (.int l4), some (va_rf l5), some (.int l6), some (.int v1), none, none]) (fun _ => rfl) (fun v1 e1 => ?_)
  clear e
  refine Ok.goto (tgt := 23) dX5_layPath_130 (by decide) ?_
  exact Ok.weakL (K23 e1) ⟨rfl, ⟨rfl, ⟨rfl, ⟨rfl, ⟨rfl, ⟨rfl, trivial⟩⟩⟩⟩⟩⟩
noncomputable def F_X5_layPath_23 (G : Gx) : Nat → Hp → Nat → Nat → Int32 → Int32 → Option Nat → Int32 → Int32 → Rz Unit := fun n => Nat.rec (motive := fun _ => Hp → Nat → Nat → Int32 → Int32 → Option Nat → Int32 → Int32 → Rz Unit) (fun _ _ _ _ _ _ _ _ => none) (fun _ k23 => fun h nx l0 l1 l4 l5 l6 l7 =>
if l6 < l7 then
some ((), h, nx)
else
gfR h l0 [5] 1 (fun v1 =>
nn v1 (fun p2 =>
alR (g_c G 6) h p2 l1 (fun v3 =>
nn v3 (fun p4 =>
alI (g_c G 0) h p4 l7 (fun v5 =>
gfR h l0 [5] 2 (fun v6 =>
nn v6 (fun p7 =>
alR (g_c G 6) h p7 l1 (fun v8 =>
nn v8 (fun p9 =>
alI (g_c G 0) h p9 l7 (fun v10 =>
gfR h l0 [5] 3 (fun v11 =>
nn v11 (fun p12 =>
alR (g_c G 6) h p12 l1 (fun v13 =>
nn l5 (fun p14 =>
ck h p14 [7] (fun _ =>
cl (F_X7_bringsBy G h nx p14 v5) (fun r15 h16 n17 =>
nn v13 (fun p18 =>
asI (g_c G 0) id h16 p18 l7 r15 (fun h19 =>
if l6 ≤ l7 then
(F_X5_layPath_127 G k23 h19 n17 l0 l1 l4 (some p14) l6 l7)
else
gfR h19 l0 [5] 1 (fun v20 =>
nn v20 (fun p21 =>
alR (g_c G 6) h19 p21 l1 (fun v22 =>
gfR h19 l0 [5] 0 (fun v23 =>
nn v23 (fun p24 =>
gfR h19 p24 [0] 5 (fun v25 =>
nn v25 (fun p26 =>
alI (g_c G 0) h19 p26 l1 (fun v27 =>
ck h19 p14 [7] (fun _ =>
cl (F_X7_knownOver G h19 n17 p14 v5 v10 v27 l4) (fun r28 h29 n30 =>
nn v22 (fun p31 =>
asI (g_c G 0) id h29 p31 ((l7 + (nI 1))) r28 (fun h32 =>
gfR h32 l0 [5] 2 (fun v33 =>
nn v33 (fun p34 =>
alR (g_c G 6) h32 p34 l1 (fun v35 =>
nn v35 (fun p36 =>
asI (g_c G 0) id h32 p36 ((l7 + (nI 1))) (mnI (nI 999) ((v10 + (nI 1)))) (fun h37 =>
(F_X5_layPath_127 G k23 h37 n30 l0 l1 l4 (some p14) l6 l7))))))))))))))))))))))))))))))))))))) n
theorem F_X5_layPath_23_0 {G : Gx} {h : Hp} {nx : Nat} {l0 : Nat} {l1 : Int32} {l4 : Int32} {l5 : Option Nat} {l6 : Int32} {l7 : Int32} : F_X5_layPath_23 G 0 h nx l0 l1 l4 l5 l6 l7 = none := rfl
theorem F_X5_layPath_23_s {G : Gx} {n : Nat} {h : Hp} {nx : Nat} {l0 : Nat} {l1 : Int32} {l4 : Int32} {l5 : Option Nat} {l6 : Int32} {l7 : Int32} : F_X5_layPath_23 G (n + 1) h nx l0 l1 l4 l5 l6 l7 = (
if l6 < l7 then
some ((), h, nx)
else
gfR h l0 [5] 1 (fun v1 =>
nn v1 (fun p2 =>
alR (g_c G 6) h p2 l1 (fun v3 =>
nn v3 (fun p4 =>
alI (g_c G 0) h p4 l7 (fun v5 =>
gfR h l0 [5] 2 (fun v6 =>
nn v6 (fun p7 =>
alR (g_c G 6) h p7 l1 (fun v8 =>
nn v8 (fun p9 =>
alI (g_c G 0) h p9 l7 (fun v10 =>
gfR h l0 [5] 3 (fun v11 =>
nn v11 (fun p12 =>
alR (g_c G 6) h p12 l1 (fun v13 =>
nn l5 (fun p14 =>
ck h p14 [7] (fun _ =>
cl (F_X7_bringsBy G h nx p14 v5) (fun r15 h16 n17 =>
nn v13 (fun p18 =>
asI (g_c G 0) id h16 p18 l7 r15 (fun h19 =>
if l6 ≤ l7 then
(F_X5_layPath_127 G (F_X5_layPath_23 G n) h19 n17 l0 l1 l4 (some p14) l6 l7)
else
gfR h19 l0 [5] 1 (fun v20 =>
nn v20 (fun p21 =>
alR (g_c G 6) h19 p21 l1 (fun v22 =>
gfR h19 l0 [5] 0 (fun v23 =>
nn v23 (fun p24 =>
gfR h19 p24 [0] 5 (fun v25 =>
nn v25 (fun p26 =>
alI (g_c G 0) h19 p26 l1 (fun v27 =>
ck h19 p14 [7] (fun _ =>
cl (F_X7_knownOver G h19 n17 p14 v5 v10 v27 l4) (fun r28 h29 n30 =>
nn v22 (fun p31 =>
asI (g_c G 0) id h29 p31 ((l7 + (nI 1))) r28 (fun h32 =>
gfR h32 l0 [5] 2 (fun v33 =>
nn v33 (fun p34 =>
alR (g_c G 6) h32 p34 l1 (fun v35 =>
nn v35 (fun p36 =>
asI (g_c G 0) id h32 p36 ((l7 + (nI 1))) (mnI (nI 999) ((v10 + (nI 1)))) (fun h37 =>
(F_X5_layPath_127 G (F_X5_layPath_23 G n) h37 n30 l0 l1 l4 (some p14) l6 l7))))))))))))))))))))))))))))))))))))) := rfl
set_option maxRecDepth 100000 in
set_option maxHeartbeats 4000000 in
theorem k_X5_layPath_23 {G : Gx} {d : Nat} {v' : Unit} {h' : Hp} {n' : Nat} : ∀ (n : Nat) {h : Hp} {nx : Nat} {l0 : Nat} {l1 : Int32} {l4 : Int32} {l5 : Option Nat} {l6 : Int32} {l7 : Int32}, F_X5_layPath_23 G n h nx l0 l1 l4 l5 l6 l7 = some (v', h', n') → Ok G mX5_layPath (d + 3) (Same none h' n') 23 [some (.ref l0), some (.int l1), none, none, some (.int l4), some (va_rf l5), some (.int l6), some (.int l7), none, none] [] h nx 0 0 := by
  intro n
  induction n with
  | zero =>
    intro h nx l0 l1 l4 l5 l6 l7 e
    rw [F_X5_layPath_23_0] at e
    cases e
  | succ n K23 =>
    intro h nx l0 l1 l4 l5 l6 l7 e
    rw [F_X5_layPath_23_s] at e
    refine Ok.iload dX5_layPath_23 rfl ?_
    refine Ok.iload dX5_layPath_25 rfl ?_
    refine X.icmp_gt (tgt := 133) dX5_layPath_27 (by decide) e (fun e1 => ?_) (fun e1 => ?_)
    · clear e
      exact X.vret dX5_layPath_133 rfl (Nat.le_of_ble_eq_true rfl) (Nat.le_of_ble_eq_true rfl) e1
    · clear e
      refine Ok.aload_n dX5_layPath_30 rfl ?_
      refine X.rgfR fl_RX5_11 dX5_layPath_31 e1 (fun v1 e2 => ?_)
      clear e1
      refine Ok.iload_n dX5_layPath_34 rfl ?_
      refine X.rnn e2 (fun p2 q e3 => ?_)
      clear e2
      subst q
      refine X.gald dX5_layPath_35 e3 (fun v3 e4 => ?_)
      clear e3
      refine Ok.iload dX5_layPath_36 rfl ?_
      refine X.rnn e4 (fun p4 q e5 => ?_)
      clear e4
      subst q
      refine X.iald dX5_layPath_38 e5 (fun v5 e6 => ?_)
      clear e5
      refine XL.istore dX5_layPath_39 (by decide) (L := [some (.ref l0), some (.int l1), none, none, some (.int l4), some (va_rf l5), some (.int l6), some (.int l7), some (.int v5), none]) rfl ?_
      refine Ok.aload_n dX5_layPath_41 rfl ?_
      refine X.rgfR fl_RX5_16 dX5_layPath_42 e6 (fun v6 e7 => ?_)
      clear e6
      refine Ok.iload_n dX5_layPath_45 rfl ?_
      refine X.rnn e7 (fun p7 q e8 => ?_)
      clear e7
      subst q
      refine X.gald dX5_layPath_46 e8 (fun v8 e9 => ?_)
      clear e8
      refine Ok.iload dX5_layPath_47 rfl ?_
      refine X.rnn e9 (fun p9 q e10 => ?_)
      clear e9
      subst q
      refine X.iald dX5_layPath_49 e10 (fun v10 e11 => ?_)
      clear e10
      refine XL.istore dX5_layPath_50 (by decide) (L := [some (.ref l0), some (.int l1), none, none, some (.int l4), some (va_rf l5), some (.int l6), some (.int l7), some (.int v5), some (.int v10)]) rfl ?_
      refine Ok.aload_n dX5_layPath_52 rfl ?_
      refine X.rgfR fl_RX5_19 dX5_layPath_53 e11 (fun v11 e12 => ?_)
      clear e11
      refine Ok.iload_n dX5_layPath_56 rfl ?_
      refine X.rnn e12 (fun p12 q e13 => ?_)
      clear e12
      subst q
      refine X.gald dX5_layPath_57 e13 (fun v13 e14 => ?_)
      clear e13
      refine Ok.iload dX5_layPath_58 rfl ?_
      refine Ok.aloadQ dX5_layPath_60 rfl ?_
      refine Ok.iload dX5_layPath_62 rfl ?_
      refine X.rnn e14 (fun p14 q e15 => ?_)
      clear e14
      subst q
      refine X.rck e15 (fun c fs hb hc e16 => ?_)
      clear e15
      obtain rfl := List.mem_singleton.mp hc
      refine X.callV (My := mX7_bringsBy) (n := 1) (As := [.int v5]) (T := (fun v => (some (.int v)))) (stk' := (fun v => [.int v, .int l7, va_rf v13])) (rest := [.int l7, va_rf v13]) (kc' := 0) (ks' := 0) dX5_layPath_64 e16 (fun v h n e => k_X7_bringsBy (d := d + 2) e) hb rfl wd567 wd81 wd565 wd566 wd564 (by decide +kernel) rfl (by decide) rfl rfl (cs_le (cs_c (a := 1) rfl (cs_c (a := 1) (va_rf_cat _) cs_n)) (by decide)) (Nat.le_of_ble_eq_true rfl) (Nat.le_of_ble_eq_true rfl) rfl rfl (fun _ => rfl) (fun r15 h16 n17 e17 => ?_)
      clear e16
      refine X.rnn e17 (fun p18 q e18 => ?_)
      clear e17
      subst q
      refine X.iast dX5_layPath_67 e18 (fun h19 e19 => ?_)
      clear e18
      refine Ok.iload dX5_layPath_68 rfl ?_
      refine Ok.iload dX5_layPath_70 rfl ?_
      refine X.icmp_ge (tgt := 127) dX5_layPath_72 (by decide) e19 (fun e20 => ?_) (fun e20 => ?_)
      · clear e19
        exact Ok.weakL (k_X5_layPath_127 (d := d) K23 e20) ⟨rfl, ⟨rfl, ⟨rfl, ⟨rfl, ⟨rfl, ⟨rfl, trivial⟩⟩⟩⟩⟩⟩
      · clear e19
        refine Ok.aload_n dX5_layPath_75 rfl ?_
        refine X.rgfR fl_RX5_11 dX5_layPath_76 e20 (fun v20 e21 => ?_)
        clear e20
        refine Ok.iload_n dX5_layPath_79 rfl ?_
        refine X.rnn e21 (fun p21 q e22 => ?_)
        clear e21
        subst q
        refine X.gald dX5_layPath_80 e22 (fun v22 e23 => ?_)
        clear e22
        refine Ok.iload dX5_layPath_81 rfl ?_
        refine Ok.iconstV (v := (nI 1)) dX5_layPath_83 (by decide +kernel) ?_
        refine Ok.iadd dX5_layPath_84 ?_
        refine Ok.aload dX5_layPath_85 rfl ?_
        refine Ok.iload dX5_layPath_87 rfl ?_
        refine Ok.iload dX5_layPath_89 rfl ?_
        refine Ok.aload_n dX5_layPath_91 rfl ?_
        refine X.rgfR fl_RX5_40 dX5_layPath_92 e23 (fun v23 e24 => ?_)
        clear e23
        refine X.rnn e24 (fun p24 q e25 => ?_)
        clear e24
        subst q
        refine X.rgfR fl_RX5_85 dX5_layPath_95 e25 (fun v25 e26 => ?_)
        clear e25
        refine Ok.iload_n dX5_layPath_98 rfl ?_
        refine X.rnn e26 (fun p26 q e27 => ?_)
        clear e26
        subst q
        refine X.iald dX5_layPath_99 e27 (fun v27 e28 => ?_)
        clear e27
        refine Ok.iload dX5_layPath_100 rfl ?_
        refine X.rck e28 (fun c fs hb hc e29 => ?_)
        clear e28
        obtain rfl := List.mem_singleton.mp hc
        refine X.callV (My := mX7_knownOver) (n := 4) (As := [.int v5, .int v10, .int v27, .int l4]) (T := (fun v => (some (.int v)))) (stk' := (fun v => [.int v, .int ((l7 + (nI 1))), va_rf v22])) (rest := [.int ((l7 + (nI 1))), va_rf v22]) (kc' := 0) (ks' := 0) dX5_layPath_102 e29 (fun v h n e => k_X7_knownOver (d := d + 0) e) hb rfl wd537 wd81 wd535 wd536 wd568 (by decide +kernel) rfl (by decide) rfl rfl (cs_le (cs_c (a := 1) rfl (cs_c (a := 1) (va_rf_cat _) cs_n)) (by decide)) (Nat.le_of_ble_eq_true rfl) (Nat.le_of_ble_eq_true rfl) rfl rfl (fun _ => rfl) (fun r28 h29 n30 e30 => ?_)
        clear e29
        refine X.rnn e30 (fun p31 q e31 => ?_)
        clear e30
        subst q
        refine X.iast dX5_layPath_105 e31 (fun h32 e32 => ?_)
        clear e31
        refine Ok.aload_n dX5_layPath_106 rfl ?_
        refine X.rgfR fl_RX5_16 dX5_layPath_107 e32 (fun v33 e33 => ?_)
        clear e32
        refine Ok.iload_n dX5_layPath_110 rfl ?_
        refine X.rnn e33 (fun p34 q e34 => ?_)
        clear e33
        subst q
        refine X.gald dX5_layPath_111 e34 (fun v35 e35 => ?_)
        clear e34
        refine Ok.iload dX5_layPath_112 rfl ?_
        refine Ok.iconstV (v := (nI 1)) dX5_layPath_114 (by decide +kernel) ?_
        refine Ok.iadd dX5_layPath_115 ?_
        refine Ok.sipushV (v := (nI 999)) dX5_layPath_116 (by decide +kernel) ?_
        refine Ok.iload dX5_layPath_119 rfl ?_
        refine Ok.iconstV (v := (nI 1)) dX5_layPath_121 (by decide +kernel) ?_
        refine Ok.iadd dX5_layPath_122 ?_
        refine Ok.mminI dX5_layPath_123 wd563 wd343 wd83 wd344 (Nat.le_of_ble_eq_true rfl) (Nat.le_of_ble_eq_true rfl) (cs_le (cs_c (a := 1) rfl (cs_c (a := 1) (va_rf_cat _) cs_n)) (by decide)) ?_
        refine X.rnn e35 (fun p36 q e36 => ?_)
        clear e35
        subst q
        refine X.iast dX5_layPath_126 e36 (fun h37 e37 => ?_)
        clear e36
        exact Ok.weakL (k_X5_layPath_127 (d := d) K23 e37) ⟨rfl, ⟨rfl, ⟨rfl, ⟨rfl, ⟨rfl, ⟨rfl, trivial⟩⟩⟩⟩⟩⟩
noncomputable def F_X5_layPath (G : Gx) (h : Hp) (nx : Nat) (a0 : Nat) (a1 : Int32) (a2 : Int32) (a3 : Int32) (a4 : Int32) : Rz Unit :=
gfR h a0 [5] 0 (fun v1 =>
nn v1 (fun p2 =>
ck h p2 [0] (fun _ =>
cl (F_X0_sortAt G h nx p2 a1) (fun r3 h4 n5 =>
nm ((a2 + (mnI a3 (nI 10)))) (fun v6 =>
(F_X5_layPath_23 G fuelL h4 n5 a0 a1 a4 r3 v6 a2))))))
set_option maxRecDepth 100000 in
set_option maxHeartbeats 4000000 in
theorem k_X5_layPath {G : Gx} {d : Nat} {h : Hp} {nx : Nat} {a0 : Nat} {a1 : Int32} {a2 : Int32} {a3 : Int32} {a4 : Int32} {v' : Unit} {h' : Hp} {n' : Nat} (e : F_X5_layPath G h nx a0 a1 a2 a3 a4 = some (v', h', n')) : Ct G mX5_layPath (d + 3) (Same none h' n') [.ref a0, .int a1, .int a2, .int a3, .int a4] h nx := by
  unfold F_X5_layPath at e
  refine Ct.of (ls := [some (.ref a0), some (.int a1), some (.int a2), some (.int a3), some (.int a4), none, none, none, none, none]) (by decide +kernel) rfl (Nat.le_of_ble_eq_true rfl) rfl ?_
  refine Ok.aload_n dX5_layPath_0 rfl ?_
  refine X.rgfR fl_RX5_40 dX5_layPath_1 e (fun v1 e1 => ?_)
  clear e
  refine Ok.iload_n dX5_layPath_4 rfl ?_
  refine X.rnn e1 (fun p2 q e2 => ?_)
  clear e1
  subst q
  refine X.rck e2 (fun c fs hb hc e3 => ?_)
  clear e2
  obtain rfl := List.mem_singleton.mp hc
  refine X.callV (My := mX0_sortAt) (n := 1) (As := [.int a1]) (T := (fun v => (some (va_rf v)))) (stk' := (fun v => [va_rf v])) (rest := []) (kc' := 0) (ks' := 0) dX5_layPath_5 e3 (fun v h n e => k_X0_sortAt (d := d + 2) e) hb rfl wd533 wd77 wd531 wd532 wd562 (by decide +kernel) rfl (by decide) rfl rfl (Nat.le_of_ble_eq_true rfl) (Nat.le_of_ble_eq_true rfl) (Nat.le_of_ble_eq_true rfl) rfl rfl (fun _ => rfl) (fun r3 h4 n5 e4 => ?_)
  clear e3
  refine XL.astoreQ (r := r3) dX5_layPath_8 (by decide) (L := [some (.ref a0), some (.int a1), some (.int a2), some (.int a3), some (.int a4), some (va_rf r3), none, none, none, none]) rfl ?_
  refine Ok.iload_n dX5_layPath_10 rfl ?_
  refine Ok.iload_n dX5_layPath_11 rfl ?_
  refine Ok.bipushV (v := (nI 10)) dX5_layPath_12 (by decide +kernel) ?_
  refine Ok.mminI dX5_layPath_14 wd563 wd343 wd83 wd344 (Nat.le_of_ble_eq_true rfl) (Nat.le_of_ble_eq_true rfl) (Nat.le_of_ble_eq_true rfl) ?_
  refine Ok.iadd dX5_layPath_17 ?_
  refine X.istore dX5_layPath_18 (by decide) e4 (L := fun v6 => [some (.ref a0), some (.int a1), some (.int a2), some (.int a3), some (.int a4), some (va_rf r3), some (.int v6), none, none, none]) (fun _ => (by first | rfl | (simp only [lst1, lst2, unw_q]))) (fun v6 e5 => ?_)
  clear e4
  refine Ok.iload_n dX5_layPath_20 rfl ?_
  refine XL.istore dX5_layPath_21 (by decide) (L := [some (.ref a0), some (.int a1), some (.int a2), some (.int a3), some (.int a4), some (va_rf r3), some (.int v6), some (.int a2), none, none]) rfl ?_
  exact Ok.weakL (k_X5_layPath_23 (d := d) fuelL e5) ⟨rfl, ⟨rfl, ⟨rfl, ⟨rfl, ⟨rfl, ⟨rfl, trivial⟩⟩⟩⟩⟩⟩
noncomputable def F_X5_lay (G : Gx) (h : Hp) (nx : Nat) (a0 : Nat) (a1 : Int32) (a2 : Int32) (a3 : Int32) : Rz Unit :=
gfR h a0 [5] 4 (fun v1 =>
nn v1 (fun p2 =>
alR (g_c G 6) h p2 a1 (fun v3 =>
nn v3 (fun p4 =>
cl (F_J7_fill_53178 G h nx p4 (-1 : Int32)) (fun _ h6 n7 =>
gfR h6 a0 [5] 1 (fun v8 =>
nn v8 (fun p9 =>
alR (g_c G 6) h6 p9 a1 (fun v10 =>
gfR h6 a0 [5] 0 (fun v11 =>
nn v11 (fun p12 =>
gfR h6 p12 [0] 6 (fun v13 =>
nn v13 (fun p14 =>
alI (g_c G 0) h6 p14 a1 (fun v15 =>
nn v10 (fun p16 =>
asI (g_c G 0) id h6 p16 (nI 0) v15 (fun h17 =>
gfR h17 a0 [5] 2 (fun v18 =>
nn v18 (fun p19 =>
alR (g_c G 6) h17 p19 a1 (fun v20 =>
gfR h17 a0 [5] 0 (fun v21 =>
nn v21 (fun p22 =>
gfR h17 p22 [0] 7 (fun v23 =>
nn v23 (fun p24 =>
alI (g_c G 0) h17 p24 a1 (fun v25 =>
nn v20 (fun p26 =>
asI (g_c G 0) id h17 p26 (nI 0) v25 (fun h27 =>
ck h27 a0 [5] (fun _ =>
cl (F_X5_layPath G h27 n7 a0 a1 (nI 0) a2 a3) (fun _ h29 n30 =>
gfR h29 a0 [5] 1 (fun v31 =>
nn v31 (fun p32 =>
alR (g_c G 6) h29 p32 a1 (fun v33 =>
nn v33 (fun p34 =>
asI (g_c G 0) id h29 p34 (nI 11) (nI 1000000) (fun h35 =>
gfR h35 a0 [5] 2 (fun v36 =>
nn v36 (fun p37 =>
alR (g_c G 6) h35 p37 a1 (fun v38 =>
nn v38 (fun p39 =>
asI (g_c G 0) id h35 p39 (nI 11) (nI 0) (fun h40 =>
ck h40 a0 [5] (fun _ =>
cl (F_X5_layPath G h40 n30 a0 a1 (nI 11) a2 a3) (fun _ h42 n43 =>
gfR h42 a0 [5] 1 (fun v44 =>
nn v44 (fun p45 =>
alR (g_c G 6) h42 p45 a1 (fun v46 =>
nn v46 (fun p47 =>
asI (g_c G 0) id h42 p47 (nI 22) (nI 0) (fun h48 =>
gfR h48 a0 [5] 2 (fun v49 =>
nn v49 (fun p50 =>
alR (g_c G 6) h48 p50 a1 (fun v51 =>
nn v51 (fun p52 =>
asI (g_c G 0) id h48 p52 (nI 22) (nI 0) (fun h53 =>
ck h53 a0 [5] (fun _ =>
cl (F_X5_layPath G h53 n43 a0 a1 (nI 22) a2 a3) (fun _ h55 n56 =>
some ((), h55, n56))))))))))))))))))))))))))))))))))))))))))))))))))))
set_option maxRecDepth 100000 in
set_option maxHeartbeats 4000000 in
theorem k_X5_lay {G : Gx} {d : Nat} {h : Hp} {nx : Nat} {a0 : Nat} {a1 : Int32} {a2 : Int32} {a3 : Int32} {v' : Unit} {h' : Hp} {n' : Nat} (e : F_X5_lay G h nx a0 a1 a2 a3 = some (v', h', n')) : Ct G mX5_lay (d + 4) (Same none h' n') [.ref a0, .int a1, .int a2, .int a3] h nx := by
  unfold F_X5_lay at e
  refine Ct.of (ls := [some (.ref a0), some (.int a1), some (.int a2), some (.int a3)]) (by decide +kernel) rfl (Nat.le_of_ble_eq_true rfl) rfl ?_
  refine Ok.aload_n dX5_lay_0 rfl ?_
  refine X.rgfR fl_RX5_22 dX5_lay_1 e (fun v1 e1 => ?_)
  clear e
  refine Ok.iload_n dX5_lay_4 rfl ?_
  refine X.rnn e1 (fun p2 q e2 => ?_)
  clear e1
  subst q
  refine X.gald dX5_lay_5 e2 (fun v3 e3 => ?_)
  clear e2
  refine Ok.iconstV (v := (-1 : Int32)) dX5_lay_6 (by decide +kernel) ?_
  refine X.rnn e3 (fun p4 q e4 => ?_)
  clear e3
  subst q
  refine X.callS (My := mJ7_fill_53178) (n := 2) (As := [.ref p4, .int (-1 : Int32)]) (T := (fun v => none)) (stk' := (fun _ => [])) (rest := []) (kc' := 0) (ks' := 0) dX5_lay_7 e4 (fun v h n e => k_J7_fill_53178 (d := d + 3) e) wd557 wd82 wd556 wd555 (by decide +kernel) rfl (by decide) rfl rfl (Nat.le_of_ble_eq_true rfl) (Nat.le_of_ble_eq_true rfl) (Nat.le_of_ble_eq_true rfl) rfl rfl (fun _ => rfl) (fun _ h6 n7 e5 => ?_)
  clear e4
  refine Ok.aload_n dX5_lay_10 rfl ?_
  refine X.rgfR fl_RX5_11 dX5_lay_11 e5 (fun v8 e6 => ?_)
  clear e5
  refine Ok.iload_n dX5_lay_14 rfl ?_
  refine X.rnn e6 (fun p9 q e7 => ?_)
  clear e6
  subst q
  refine X.gald dX5_lay_15 e7 (fun v10 e8 => ?_)
  clear e7
  refine Ok.iconstV (v := (nI 0)) dX5_lay_16 (by decide +kernel) ?_
  refine Ok.aload_n dX5_lay_17 rfl ?_
  refine X.rgfR fl_RX5_40 dX5_lay_18 e8 (fun v11 e9 => ?_)
  clear e8
  refine X.rnn e9 (fun p12 q e10 => ?_)
  clear e9
  subst q
  refine X.rgfR fl_RX5_60 dX5_lay_21 e10 (fun v13 e11 => ?_)
  clear e10
  refine Ok.iload_n dX5_lay_24 rfl ?_
  refine X.rnn e11 (fun p14 q e12 => ?_)
  clear e11
  subst q
  refine X.iald dX5_lay_25 e12 (fun v15 e13 => ?_)
  clear e12
  refine X.rnn e13 (fun p16 q e14 => ?_)
  clear e13
  subst q
  refine X.iast dX5_lay_26 e14 (fun h17 e15 => ?_)
  clear e14
  refine Ok.aload_n dX5_lay_27 rfl ?_
  refine X.rgfR fl_RX5_16 dX5_lay_28 e15 (fun v18 e16 => ?_)
  clear e15
  refine Ok.iload_n dX5_lay_31 rfl ?_
  refine X.rnn e16 (fun p19 q e17 => ?_)
  clear e16
  subst q
  refine X.gald dX5_lay_32 e17 (fun v20 e18 => ?_)
  clear e17
  refine Ok.iconstV (v := (nI 0)) dX5_lay_33 (by decide +kernel) ?_
  refine Ok.aload_n dX5_lay_34 rfl ?_
  refine X.rgfR fl_RX5_40 dX5_lay_35 e18 (fun v21 e19 => ?_)
  clear e18
  refine X.rnn e19 (fun p22 q e20 => ?_)
  clear e19
  subst q
  refine X.rgfR fl_RX5_62 dX5_lay_38 e20 (fun v23 e21 => ?_)
  clear e20
  refine Ok.iload_n dX5_lay_41 rfl ?_
  refine X.rnn e21 (fun p24 q e22 => ?_)
  clear e21
  subst q
  refine X.iald dX5_lay_42 e22 (fun v25 e23 => ?_)
  clear e22
  refine X.rnn e23 (fun p26 q e24 => ?_)
  clear e23
  subst q
  refine X.iast dX5_lay_43 e24 (fun h27 e25 => ?_)
  clear e24
  refine Ok.aload_n dX5_lay_44 rfl ?_
  refine Ok.iload_n dX5_lay_45 rfl ?_
  refine Ok.iconstV (v := (nI 0)) dX5_lay_46 (by decide +kernel) ?_
  refine Ok.iload_n dX5_lay_47 rfl ?_
  refine Ok.iload_n dX5_lay_48 rfl ?_
  refine X.rck e25 (fun c fs hb hc e26 => ?_)
  clear e25
  obtain rfl := List.mem_singleton.mp hc
  refine X.callV (My := mX5_layPath) (n := 4) (As := [.int a1, .int (nI 0), .int a2, .int a3]) (T := (fun v => none)) (stk' := (fun _ => [])) (rest := []) (kc' := 0) (ks' := 0) dX5_lay_49 e26 (fun v h n e => k_X5_layPath (d := d + 0) e) hb rfl wd561 wd78 wd560 wd12 wd558 (by decide +kernel) rfl (by decide) rfl rfl (Nat.le_of_ble_eq_true rfl) (Nat.le_of_ble_eq_true rfl) (Nat.le_of_ble_eq_true rfl) rfl rfl (fun _ => rfl) (fun _ h29 n30 e27 => ?_)
  clear e26
  refine Ok.aload_n dX5_lay_52 rfl ?_
  refine X.rgfR fl_RX5_11 dX5_lay_53 e27 (fun v31 e28 => ?_)
  clear e27
  refine Ok.iload_n dX5_lay_56 rfl ?_
  refine X.rnn e28 (fun p32 q e29 => ?_)
  clear e28
  subst q
  refine X.gald dX5_lay_57 e29 (fun v33 e30 => ?_)
  clear e29
  refine Ok.bipushV (v := (nI 11)) dX5_lay_58 (by decide +kernel) ?_
  refine Ok.ldc (v := (nI 1000000)) dX5_lay_60 wd569 ?_
  refine X.rnn e30 (fun p34 q e31 => ?_)
  clear e30
  subst q
  refine X.iast dX5_lay_62 e31 (fun h35 e32 => ?_)
  clear e31
  refine Ok.aload_n dX5_lay_63 rfl ?_
  refine X.rgfR fl_RX5_16 dX5_lay_64 e32 (fun v36 e33 => ?_)
  clear e32
  refine Ok.iload_n dX5_lay_67 rfl ?_
  refine X.rnn e33 (fun p37 q e34 => ?_)
  clear e33
  subst q
  refine X.gald dX5_lay_68 e34 (fun v38 e35 => ?_)
  clear e34
  refine Ok.bipushV (v := (nI 11)) dX5_lay_69 (by decide +kernel) ?_
  refine Ok.iconstV (v := (nI 0)) dX5_lay_71 (by decide +kernel) ?_
  refine X.rnn e35 (fun p39 q e36 => ?_)
  clear e35
  subst q
  refine X.iast dX5_lay_72 e36 (fun h40 e37 => ?_)
  clear e36
  refine Ok.aload_n dX5_lay_73 rfl ?_
  refine Ok.iload_n dX5_lay_74 rfl ?_
  refine Ok.bipushV (v := (nI 11)) dX5_lay_75 (by decide +kernel) ?_
  refine Ok.iload_n dX5_lay_77 rfl ?_
  refine Ok.iload_n dX5_lay_78 rfl ?_
  refine X.rck e37 (fun c fs hb hc e38 => ?_)
  clear e37
  obtain rfl := List.mem_singleton.mp hc
  refine X.callV (My := mX5_layPath) (n := 4) (As := [.int a1, .int (nI 11), .int a2, .int a3]) (T := (fun v => none)) (stk' := (fun _ => [])) (rest := []) (kc' := 0) (ks' := 0) dX5_lay_79 e38 (fun v h n e => k_X5_layPath (d := d + 0) e) hb rfl wd561 wd78 wd560 wd12 wd558 (by decide +kernel) rfl (by decide) rfl rfl (Nat.le_of_ble_eq_true rfl) (Nat.le_of_ble_eq_true rfl) (Nat.le_of_ble_eq_true rfl) rfl rfl (fun _ => rfl) (fun _ h42 n43 e39 => ?_)
  clear e38
  refine Ok.aload_n dX5_lay_82 rfl ?_
  refine X.rgfR fl_RX5_11 dX5_lay_83 e39 (fun v44 e40 => ?_)
  clear e39
  refine Ok.iload_n dX5_lay_86 rfl ?_
  refine X.rnn e40 (fun p45 q e41 => ?_)
  clear e40
  subst q
  refine X.gald dX5_lay_87 e41 (fun v46 e42 => ?_)
  clear e41
  refine Ok.bipushV (v := (nI 22)) dX5_lay_88 (by decide +kernel) ?_
  refine Ok.iconstV (v := (nI 0)) dX5_lay_90 (by decide +kernel) ?_
  refine X.rnn e42 (fun p47 q e43 => ?_)
  clear e42
  subst q
  refine X.iast dX5_lay_91 e43 (fun h48 e44 => ?_)
  clear e43
  refine Ok.aload_n dX5_lay_92 rfl ?_
  refine X.rgfR fl_RX5_16 dX5_lay_93 e44 (fun v49 e45 => ?_)
  clear e44
  refine Ok.iload_n dX5_lay_96 rfl ?_
  refine X.rnn e45 (fun p50 q e46 => ?_)
  clear e45
  subst q
  refine X.gald dX5_lay_97 e46 (fun v51 e47 => ?_)
  clear e46
  refine Ok.bipushV (v := (nI 22)) dX5_lay_98 (by decide +kernel) ?_
  refine Ok.iconstV (v := (nI 0)) dX5_lay_100 (by decide +kernel) ?_
  refine X.rnn e47 (fun p52 q e48 => ?_)
  clear e47
  subst q
  refine X.iast dX5_lay_101 e48 (fun h53 e49 => ?_)
  clear e48
  refine Ok.aload_n dX5_lay_102 rfl ?_
  refine Ok.iload_n dX5_lay_103 rfl ?_
  refine Ok.bipushV (v := (nI 22)) dX5_lay_104 (by decide +kernel) ?_
  refine Ok.iload_n dX5_lay_106 rfl ?_
  refine Ok.iload_n dX5_lay_107 rfl ?_
  refine X.rck e49 (fun c fs hb hc e50 => ?_)
  clear e49
  obtain rfl := List.mem_singleton.mp hc
  refine X.callV (My := mX5_layPath) (n := 4) (As := [.int a1, .int (nI 22), .int a2, .int a3]) (T := (fun v => none)) (stk' := (fun _ => [])) (rest := []) (kc' := 0) (ks' := 0) dX5_lay_108 e50 (fun v h n e => k_X5_layPath (d := d + 0) e) hb rfl wd561 wd78 wd560 wd12 wd558 (by decide +kernel) rfl (by decide) rfl rfl (Nat.le_of_ble_eq_true rfl) (Nat.le_of_ble_eq_true rfl) (Nat.le_of_ble_eq_true rfl) rfl rfl (fun _ => rfl) (fun _ h55 n56 e51 => ?_)
  clear e50
  exact X.vret dX5_lay_111 rfl (Nat.le_of_ble_eq_true rfl) (Nat.le_of_ble_eq_true rfl) e51
noncomputable def F_X5_layAll_2 (G : Gx) : Nat → Hp → Nat → Nat → Int32 → Int32 → Rz Unit := fun n => Nat.rec (motive := fun _ => Hp → Nat → Nat → Int32 → Int32 → Rz Unit) (fun _ _ _ _ _ => none) (fun _ k2 => fun h nx l0 l1 l2 =>
gfR h l0 [5] 0 (fun v1 =>
nn v1 (fun p2 =>
gfI h p2 [0] 11 (fun v3 =>
if v3 ≤ l2 then
some ((), h, nx)
else
ck h l0 [5] (fun _ =>
cl (F_X5_lay G h nx l0 l2 l1 (nI 0)) (fun _ h5 n6 =>
nm (l2 + (nI 1)) (fun v7 =>
(k2 h5 n6 l0 l1 v7)))))))) n
theorem F_X5_layAll_2_0 {G : Gx} {h : Hp} {nx : Nat} {l0 : Nat} {l1 : Int32} {l2 : Int32} : F_X5_layAll_2 G 0 h nx l0 l1 l2 = none := rfl
theorem F_X5_layAll_2_s {G : Gx} {n : Nat} {h : Hp} {nx : Nat} {l0 : Nat} {l1 : Int32} {l2 : Int32} : F_X5_layAll_2 G (n + 1) h nx l0 l1 l2 = (
gfR h l0 [5] 0 (fun v1 =>
nn v1 (fun p2 =>
gfI h p2 [0] 11 (fun v3 =>
if v3 ≤ l2 then
some ((), h, nx)
else
ck h l0 [5] (fun _ =>
cl (F_X5_lay G h nx l0 l2 l1 (nI 0)) (fun _ h5 n6 =>
nm (l2 + (nI 1)) (fun v7 =>
((F_X5_layAll_2 G n) h5 n6 l0 l1 v7)))))))) := rfl
set_option maxRecDepth 100000 in
set_option maxHeartbeats 4000000 in
theorem k_X5_layAll_2 {G : Gx} {d : Nat} {v' : Unit} {h' : Hp} {n' : Nat} : ∀ (n : Nat) {h : Hp} {nx : Nat} {l0 : Nat} {l1 : Int32} {l2 : Int32}, F_X5_layAll_2 G n h nx l0 l1 l2 = some (v', h', n') → Ok G mX5_layAll (d + 5) (Same none h' n') 2 [some (.ref l0), some (.int l1), some (.int l2)] [] h nx 0 0 := by
  intro n
  induction n with
  | zero =>
    intro h nx l0 l1 l2 e
    rw [F_X5_layAll_2_0] at e
    cases e
  | succ n K2 =>
    intro h nx l0 l1 l2 e
    rw [F_X5_layAll_2_s] at e
    refine Ok.iload_n dX5_layAll_2 rfl ?_
    refine Ok.aload_n dX5_layAll_3 rfl ?_
    refine X.rgfR fl_RX5_40 dX5_layAll_4 e (fun v1 e1 => ?_)
    clear e
    refine X.rnn e1 (fun p2 q e2 => ?_)
    clear e1
    subst q
    refine X.rgfI fl_RX5_44 dX5_layAll_7 e2 (fun v3 e3 => ?_)
    clear e2
    refine X.icmp_ge (tgt := 26) dX5_layAll_10 (by decide) e3 (fun e4 => ?_) (fun e4 => ?_)
    · clear e3
      exact X.vret dX5_layAll_26 rfl (Nat.le_of_ble_eq_true rfl) (Nat.le_of_ble_eq_true rfl) e4
    · clear e3
      refine Ok.aload_n dX5_layAll_13 rfl ?_
      refine Ok.iload_n dX5_layAll_14 rfl ?_
      refine Ok.iload_n dX5_layAll_15 rfl ?_
      refine Ok.iconstV (v := (nI 0)) dX5_layAll_16 (by decide +kernel) ?_
      refine X.rck e4 (fun c fs hb hc e5 => ?_)
      clear e4
      obtain rfl := List.mem_singleton.mp hc
      refine X.callV (My := mX5_lay) (n := 3) (As := [.int l2, .int l1, .int (nI 0)]) (T := (fun v => none)) (stk' := (fun _ => [])) (rest := []) (kc' := 0) (ks' := 0) dX5_layAll_17 e5 (fun v h n e => k_X5_lay (d := d + 0) e) hb rfl wd554 wd78 wd552 wd553 wd741 (by decide +kernel) rfl (by decide) rfl rfl (Nat.le_of_ble_eq_true rfl) (Nat.le_of_ble_eq_true rfl) (Nat.le_of_ble_eq_true rfl) rfl rfl (fun _ => rfl) (fun _ h5 n6 e6 => ?_)
      clear e5
      refine X.iinc dX5_layAll_20 rfl (by decide) (by decide +kernel) e6 (L := fun v7 => [some (.ref l0), some (.int l1), some (.int v7)]) (fun _ => rfl) (fun v7 e7 => ?_)
      clear e6
      refine Ok.goto (tgt := 2) dX5_layAll_23 (by decide) ?_
      exact Ok.weakL (K2 e7) ⟨rfl, ⟨rfl, ⟨rfl, trivial⟩⟩⟩
noncomputable def F_X5_layAll (G : Gx) (h : Hp) (nx : Nat) (a0 : Nat) (a1 : Int32) : Rz Unit :=
(F_X5_layAll_2 G fuelL h nx a0 a1 (nI 0))
set_option maxRecDepth 100000 in
set_option maxHeartbeats 4000000 in
theorem k_X5_layAll {G : Gx} {d : Nat} {h : Hp} {nx : Nat} {a0 : Nat} {a1 : Int32} {v' : Unit} {h' : Hp} {n' : Nat} (e : F_X5_layAll G h nx a0 a1 = some (v', h', n')) : Ct G mX5_layAll (d + 5) (Same none h' n') [.ref a0, .int a1] h nx := by
  unfold F_X5_layAll at e
  refine Ct.of (ls := [some (.ref a0), some (.int a1), none]) (by decide +kernel) rfl (Nat.le_of_ble_eq_true rfl) rfl ?_
  refine Ok.iconstV (v := (nI 0)) dX5_layAll_0 (by decide +kernel) ?_
  refine XL.istore_n dX5_layAll_1 (by decide) (L := [some (.ref a0), some (.int a1), some (.int (nI 0))]) rfl ?_
  exact Ok.weakL (k_X5_layAll_2 (d := d) fuelL e) ⟨rfl, ⟨rfl, ⟨rfl, trivial⟩⟩⟩
noncomputable def F_X5_spotSeenIll_21 (G : Gx) (h : Hp) (nx : Nat) (s0 : Int32) : Rz Int32 :=
some (s0, h, nx)
set_option maxRecDepth 100000 in
set_option maxHeartbeats 4000000 in
theorem k_X5_spotSeenIll_21 {G : Gx} {d : Nat} {v' : Int32} {h' : Hp} {n' : Nat} {h : Hp} {nx : Nat} {s0 : Int32} (e : F_X5_spotSeenIll_21 G h nx s0 = some (v', h', n')) : Ok G mX5_spotSeenIll (d + 1) (Same (some (.int v')) h' n') 21 [none, none] [.int s0] h nx 0 0 := by
  unfold F_X5_spotSeenIll_21 at e
  exact X.iret dX5_spotSeenIll_21 rfl (Nat.le_of_ble_eq_true rfl) (Nat.le_of_ble_eq_true rfl) e
noncomputable def F_X5_spotSeenIll (G : Gx) (h : Hp) (nx : Nat) (a0 : Nat) (a1 : Int32) : Rz Int32 :=
gfR h a0 [5] 0 (fun v1 =>
nn v1 (fun p2 =>
ck h p2 [0] (fun _ =>
cl (F_X0_sortAt G h nx p2 a1) (fun r3 h4 n5 =>
nn r3 (fun p6 =>
ck h4 p6 [7] (fun _ =>
cl (F_X7_mends G h4 n5 p6) (fun r7 h8 n9 =>
if r7 = 0 then
(F_X5_spotSeenIll_21 G h8 n9 (nI 22))
else
(F_X5_spotSeenIll_21 G h8 n9 (nI 11)))))))))
set_option maxRecDepth 100000 in
set_option maxHeartbeats 4000000 in
theorem k_X5_spotSeenIll {G : Gx} {d : Nat} {h : Hp} {nx : Nat} {a0 : Nat} {a1 : Int32} {v' : Int32} {h' : Hp} {n' : Nat} (e : F_X5_spotSeenIll G h nx a0 a1 = some (v', h', n')) : Ct G mX5_spotSeenIll (d + 1) (Same (some (.int v')) h' n') [.ref a0, .int a1] h nx := by
  unfold F_X5_spotSeenIll at e
  refine Ct.of (ls := [some (.ref a0), some (.int a1)]) (by decide +kernel) rfl (Nat.le_of_ble_eq_true rfl) rfl ?_
  refine Ok.aload_n dX5_spotSeenIll_0 rfl ?_
  refine X.rgfR fl_RX5_40 dX5_spotSeenIll_1 e (fun v1 e1 => ?_)
  clear e
  refine Ok.iload_n dX5_spotSeenIll_4 rfl ?_
  refine X.rnn e1 (fun p2 q e2 => ?_)
  clear e1
  subst q
  refine X.rck e2 (fun c fs hb hc e3 => ?_)
  clear e2
  obtain rfl := List.mem_singleton.mp hc
  refine X.callV (My := mX0_sortAt) (n := 1) (As := [.int a1]) (T := (fun v => (some (va_rf v)))) (stk' := (fun v => [va_rf v])) (rest := []) (kc' := 0) (ks' := 0) dX5_spotSeenIll_5 e3 (fun v h n e => k_X0_sortAt (d := d + 0) e) hb rfl wd533 wd77 wd531 wd532 wd562 (by decide +kernel) rfl (by decide) rfl rfl (Nat.le_of_ble_eq_true rfl) (Nat.le_of_ble_eq_true rfl) (Nat.le_of_ble_eq_true rfl) rfl rfl (fun _ => rfl) (fun r3 h4 n5 e4 => ?_)
  clear e3
  refine X.rnn e4 (fun p6 q e5 => ?_)
  clear e4
  subst q
  refine X.rck e5 (fun c fs hb hc e6 => ?_)
  clear e5
  obtain rfl := List.mem_singleton.mp hc
  refine X.callV (My := mX7_mends) (n := 0) (As := []) (T := (fun v => (some (.int v)))) (stk' := (fun v => [.int v])) (rest := []) (kc' := 0) (ks' := 0) dX5_spotSeenIll_8 e6 (fun v h n e => k_X7_mends (d := d + 0) e) hb rfl wd578 wd81 wd576 wd577 wd575 (by decide +kernel) rfl (by decide) rfl rfl (Nat.le_of_ble_eq_true rfl) (Nat.le_of_ble_eq_true rfl) (Nat.le_of_ble_eq_true rfl) rfl rfl (fun _ => rfl) (fun r7 h8 n9 e7 => ?_)
  clear e6
  refine X.if_eq (tgt := 19) dX5_spotSeenIll_11 (by decide) e7 (fun e8 => ?_) (fun e8 => ?_)
  · clear e7
    refine Ok.bipushV (v := (nI 22)) dX5_spotSeenIll_19 (by decide +kernel) ?_
    exact Ok.weakL (k_X5_spotSeenIll_21 (d := d) e8) trivial
  · clear e7
    refine Ok.bipushV (v := (nI 11)) dX5_spotSeenIll_14 (by decide +kernel) ?_
    refine Ok.goto (tgt := 21) dX5_spotSeenIll_16 (by decide) ?_
    exact Ok.weakL (k_X5_spotSeenIll_21 (d := d) e8) trivial
noncomputable def F_X5_sumAlone_5 (G : Gx) : Nat → Hp → Nat → Nat → Int32 → Int32 → Int64 → Int32 → Rz Int64 := fun n => Nat.rec (motive := fun _ => Hp → Nat → Nat → Int32 → Int32 → Int64 → Int32 → Rz Int64) (fun _ _ _ _ _ _ _ => none) (fun _ k5 => fun h nx l0 l1 l2 l3 l5 =>
gfR h l0 [5] 0 (fun v1 =>
nn v1 (fun p2 =>
gfI h p2 [0] 11 (fun v3 =>
if v3 ≤ l5 then
some (l3, h, nx)
else
ck h l0 [5] (fun _ =>
cl (F_X5_weigh G h nx l0 l5 (nI 0) l1 l2) (fun _ h5 n6 =>
gfJ h5 l0 [5] 7 (fun v7 =>
gfJ h5 l0 [5] 8 (fun v8 =>
nm ((l3 + (mxJ v7 v8))) (fun v9 =>
nm (l5 + (nI 1)) (fun v10 =>
(k5 h5 n6 l0 l1 l2 v9 v10))))))))))) n
theorem F_X5_sumAlone_5_0 {G : Gx} {h : Hp} {nx : Nat} {l0 : Nat} {l1 : Int32} {l2 : Int32} {l3 : Int64} {l5 : Int32} : F_X5_sumAlone_5 G 0 h nx l0 l1 l2 l3 l5 = none := rfl
theorem F_X5_sumAlone_5_s {G : Gx} {n : Nat} {h : Hp} {nx : Nat} {l0 : Nat} {l1 : Int32} {l2 : Int32} {l3 : Int64} {l5 : Int32} : F_X5_sumAlone_5 G (n + 1) h nx l0 l1 l2 l3 l5 = (
gfR h l0 [5] 0 (fun v1 =>
nn v1 (fun p2 =>
gfI h p2 [0] 11 (fun v3 =>
if v3 ≤ l5 then
some (l3, h, nx)
else
ck h l0 [5] (fun _ =>
cl (F_X5_weigh G h nx l0 l5 (nI 0) l1 l2) (fun _ h5 n6 =>
gfJ h5 l0 [5] 7 (fun v7 =>
gfJ h5 l0 [5] 8 (fun v8 =>
nm ((l3 + (mxJ v7 v8))) (fun v9 =>
nm (l5 + (nI 1)) (fun v10 =>
((F_X5_sumAlone_5 G n) h5 n6 l0 l1 l2 v9 v10))))))))))) := rfl
set_option maxRecDepth 100000 in
set_option maxHeartbeats 4000000 in
theorem k_X5_sumAlone_5 {G : Gx} {d : Nat} {v' : Int64} {h' : Hp} {n' : Nat} : ∀ (n : Nat) {h : Hp} {nx : Nat} {l0 : Nat} {l1 : Int32} {l2 : Int32} {l3 : Int64} {l5 : Int32}, F_X5_sumAlone_5 G n h nx l0 l1 l2 l3 l5 = some (v', h', n') → Ok G mX5_sumAlone (d + 2) (Same (some (.long v')) h' n') 5 [some (.ref l0), some (.int l1), some (.int l2), some (.long l3), none, some (.int l5)] [] h nx 0 0 := by
  intro n
  induction n with
  | zero =>
    intro h nx l0 l1 l2 l3 l5 e
    rw [F_X5_sumAlone_5_0] at e
    cases e
  | succ n K5 =>
    intro h nx l0 l1 l2 l3 l5 e
    rw [F_X5_sumAlone_5_s] at e
    refine Ok.iload dX5_sumAlone_5 rfl ?_
    refine Ok.aload_n dX5_sumAlone_7 rfl ?_
    refine X.rgfR fl_RX5_40 dX5_sumAlone_8 e (fun v1 e1 => ?_)
    clear e
    refine X.rnn e1 (fun p2 q e2 => ?_)
    clear e1
    subst q
    refine X.rgfI fl_RX5_44 dX5_sumAlone_11 e2 (fun v3 e3 => ?_)
    clear e2
    refine X.icmp_ge (tgt := 46) dX5_sumAlone_14 (by decide) e3 (fun e4 => ?_) (fun e4 => ?_)
    · clear e3
      refine Ok.lload_n dX5_sumAlone_46 rfl ?_
      exact X.lret dX5_sumAlone_47 rfl (Nat.le_of_ble_eq_true rfl) (Nat.le_of_ble_eq_true rfl) e4
    · clear e3
      refine Ok.aload_n dX5_sumAlone_17 rfl ?_
      refine Ok.iload dX5_sumAlone_18 rfl ?_
      refine Ok.iconstV (v := (nI 0)) dX5_sumAlone_20 (by decide +kernel) ?_
      refine Ok.iload_n dX5_sumAlone_21 rfl ?_
      refine Ok.iload_n dX5_sumAlone_22 rfl ?_
      refine X.rck e4 (fun c fs hb hc e5 => ?_)
      clear e4
      obtain rfl := List.mem_singleton.mp hc
      refine X.callV (My := mX5_weigh) (n := 4) (As := [.int l5, .int (nI 0), .int l1, .int l2]) (T := (fun v => none)) (stk' := (fun _ => [])) (rest := []) (kc' := 0) (ks' := 0) dX5_sumAlone_23 e5 (fun v h n e => k_X5_weigh (d := d + 0) e) hb rfl wd573 wd78 wd571 wd572 wd607 (by decide +kernel) rfl (by decide) rfl rfl (Nat.le_of_ble_eq_true rfl) (Nat.le_of_ble_eq_true rfl) (Nat.le_of_ble_eq_true rfl) rfl rfl (fun _ => rfl) (fun _ h5 n6 e6 => ?_)
      clear e5
      refine Ok.lload_n dX5_sumAlone_26 rfl ?_
      refine Ok.aload_n dX5_sumAlone_27 rfl ?_
      refine X.rgfJ fl_RX5_33 dX5_sumAlone_28 e6 (fun v7 e7 => ?_)
      clear e6
      refine Ok.aload_n dX5_sumAlone_31 rfl ?_
      refine X.rgfJ fl_RX5_37 dX5_sumAlone_32 e7 (fun v8 e8 => ?_)
      clear e7
      refine Ok.mmaxJ dX5_sumAlone_35 wd595 wd596 wd83 wd597 (Nat.le_of_ble_eq_true rfl) (Nat.le_of_ble_eq_true rfl) (Nat.le_of_ble_eq_true rfl) ?_
      refine Ok.ladd dX5_sumAlone_38 ?_
      refine X.lstore_n dX5_sumAlone_39 (by decide) e8 (L := fun v9 => [some (.ref l0), some (.int l1), some (.int l2), some (.long v9), none, some (.int l5)]) (fun _ => rfl) (fun v9 e9 => ?_)
      clear e8
      refine X.iinc dX5_sumAlone_40 rfl (by decide) (by decide +kernel) e9 (L := fun v10 => [some (.ref l0), some (.int l1), some (.int l2), some (.long v9), none, some (.int v10)]) (fun _ => rfl) (fun v10 e10 => ?_)
      clear e9
      refine Ok.goto (tgt := 5) dX5_sumAlone_43 (by decide) ?_
      exact Ok.weakL (K5 e10) ⟨rfl, ⟨rfl, ⟨rfl, ⟨rfl, ⟨rfl, trivial⟩⟩⟩⟩⟩
noncomputable def F_X5_sumAlone (G : Gx) (h : Hp) (nx : Nat) (a0 : Nat) (a1 : Int32) (a2 : Int32) : Rz Int64 :=
(F_X5_sumAlone_5 G fuelL h nx a0 a1 a2 (0 : Int64) (nI 0))
set_option maxRecDepth 100000 in
set_option maxHeartbeats 4000000 in
theorem k_X5_sumAlone {G : Gx} {d : Nat} {h : Hp} {nx : Nat} {a0 : Nat} {a1 : Int32} {a2 : Int32} {v' : Int64} {h' : Hp} {n' : Nat} (e : F_X5_sumAlone G h nx a0 a1 a2 = some (v', h', n')) : Ct G mX5_sumAlone (d + 2) (Same (some (.long v')) h' n') [.ref a0, .int a1, .int a2] h nx := by
  unfold F_X5_sumAlone at e
  refine Ct.of (ls := [some (.ref a0), some (.int a1), some (.int a2), none, none, none]) (by decide +kernel) rfl (Nat.le_of_ble_eq_true rfl) rfl ?_
  refine XL.lconst (v := 0) dX5_sumAlone_0 (by decide +kernel) ?_
  refine XL.lstore_n dX5_sumAlone_1 (by decide) (L := [some (.ref a0), some (.int a1), some (.int a2), some (.long (0 : Int64)), none, none]) rfl ?_
  refine Ok.iconstV (v := (nI 0)) dX5_sumAlone_2 (by decide +kernel) ?_
  refine XL.istore dX5_sumAlone_3 (by decide) (L := [some (.ref a0), some (.int a1), some (.int a2), some (.long (0 : Int64)), none, some (.int (nI 0))]) rfl ?_
  exact Ok.weakL (k_X5_sumAlone_5 (d := d) fuelL e) ⟨rfl, ⟨rfl, ⟨rfl, ⟨rfl, ⟨rfl, trivial⟩⟩⟩⟩⟩
noncomputable def F_X5_weighAll_2 (G : Gx) : Nat → Hp → Nat → Nat → Int32 → Int32 → Rz Unit := fun n => Nat.rec (motive := fun _ => Hp → Nat → Nat → Int32 → Int32 → Rz Unit) (fun _ _ _ _ _ => none) (fun _ k2 => fun h nx l0 l1 l2 =>
gfR h l0 [5] 0 (fun v1 =>
nn v1 (fun p2 =>
gfI h p2 [0] 11 (fun v3 =>
if v3 ≤ l2 then
some ((), h, nx)
else
gfR h l0 [5] 5 (fun v4 =>
ck h l0 [5] (fun _ =>
cl (F_X5_leastWage G h nx l0 l2 (nI 0) l1) (fun r5 h6 n7 =>
nn v4 (fun p8 =>
asI (g_c G 0) id h6 p8 l2 r5 (fun h9 =>
nm (l2 + (nI 1)) (fun v10 =>
(k2 h9 n7 l0 l1 v10))))))))))) n
theorem F_X5_weighAll_2_0 {G : Gx} {h : Hp} {nx : Nat} {l0 : Nat} {l1 : Int32} {l2 : Int32} : F_X5_weighAll_2 G 0 h nx l0 l1 l2 = none := rfl
theorem F_X5_weighAll_2_s {G : Gx} {n : Nat} {h : Hp} {nx : Nat} {l0 : Nat} {l1 : Int32} {l2 : Int32} : F_X5_weighAll_2 G (n + 1) h nx l0 l1 l2 = (
gfR h l0 [5] 0 (fun v1 =>
nn v1 (fun p2 =>
gfI h p2 [0] 11 (fun v3 =>
if v3 ≤ l2 then
some ((), h, nx)
else
gfR h l0 [5] 5 (fun v4 =>
ck h l0 [5] (fun _ =>
cl (F_X5_leastWage G h nx l0 l2 (nI 0) l1) (fun r5 h6 n7 =>
nn v4 (fun p8 =>
asI (g_c G 0) id h6 p8 l2 r5 (fun h9 =>
nm (l2 + (nI 1)) (fun v10 =>
((F_X5_weighAll_2 G n) h9 n7 l0 l1 v10))))))))))) := rfl
set_option maxRecDepth 100000 in
set_option maxHeartbeats 4000000 in
theorem k_X5_weighAll_2 {G : Gx} {d : Nat} {v' : Unit} {h' : Hp} {n' : Nat} : ∀ (n : Nat) {h : Hp} {nx : Nat} {l0 : Nat} {l1 : Int32} {l2 : Int32}, F_X5_weighAll_2 G n h nx l0 l1 l2 = some (v', h', n') → Ok G mX5_weighAll (d + 3) (Same none h' n') 2 [some (.ref l0), some (.int l1), some (.int l2)] [] h nx 0 0 := by
  intro n
  induction n with
  | zero =>
    intro h nx l0 l1 l2 e
    rw [F_X5_weighAll_2_0] at e
    cases e
  | succ n K2 =>
    intro h nx l0 l1 l2 e
    rw [F_X5_weighAll_2_s] at e
    refine Ok.iload_n dX5_weighAll_2 rfl ?_
    refine Ok.aload_n dX5_weighAll_3 rfl ?_
    refine X.rgfR fl_RX5_40 dX5_weighAll_4 e (fun v1 e1 => ?_)
    clear e
    refine X.rnn e1 (fun p2 q e2 => ?_)
    clear e1
    subst q
    refine X.rgfI fl_RX5_44 dX5_weighAll_7 e2 (fun v3 e3 => ?_)
    clear e2
    refine X.icmp_ge (tgt := 32) dX5_weighAll_10 (by decide) e3 (fun e4 => ?_) (fun e4 => ?_)
    · clear e3
      exact X.vret dX5_weighAll_32 rfl (Nat.le_of_ble_eq_true rfl) (Nat.le_of_ble_eq_true rfl) e4
    · clear e3
      refine Ok.aload_n dX5_weighAll_13 rfl ?_
      refine X.rgfR fl_RX5_25 dX5_weighAll_14 e4 (fun v4 e5 => ?_)
      clear e4
      refine Ok.iload_n dX5_weighAll_17 rfl ?_
      refine Ok.aload_n dX5_weighAll_18 rfl ?_
      refine Ok.iload_n dX5_weighAll_19 rfl ?_
      refine Ok.iconstV (v := (nI 0)) dX5_weighAll_20 (by decide +kernel) ?_
      refine Ok.iload_n dX5_weighAll_21 rfl ?_
      refine X.rck e5 (fun c fs hb hc e6 => ?_)
      clear e5
      obtain rfl := List.mem_singleton.mp hc
      refine X.callV (My := mX5_leastWage) (n := 3) (As := [.int l2, .int (nI 0), .int l1]) (T := (fun v => (some (.int v)))) (stk' := (fun v => [.int v, .int l2, va_rf v4])) (rest := [.int l2, va_rf v4]) (kc' := 0) (ks' := 0) dX5_weighAll_22 e6 (fun v h n e => k_X5_leastWage (d := d + 0) e) hb rfl wd606 wd78 wd604 wd605 wd948 (by decide +kernel) rfl (by decide) rfl rfl (cs_le (cs_c (a := 1) rfl (cs_c (a := 1) (va_rf_cat _) cs_n)) (by decide)) (Nat.le_of_ble_eq_true rfl) (Nat.le_of_ble_eq_true rfl) rfl rfl (fun _ => rfl) (fun r5 h6 n7 e7 => ?_)
      clear e6
      refine X.rnn e7 (fun p8 q e8 => ?_)
      clear e7
      subst q
      refine X.iast dX5_weighAll_25 e8 (fun h9 e9 => ?_)
      clear e8
      refine X.iinc dX5_weighAll_26 rfl (by decide) (by decide +kernel) e9 (L := fun v10 => [some (.ref l0), some (.int l1), some (.int v10)]) (fun _ => rfl) (fun v10 e10 => ?_)
      clear e9
      refine Ok.goto (tgt := 2) dX5_weighAll_29 (by decide) ?_
      exact Ok.weakL (K2 e10) ⟨rfl, ⟨rfl, ⟨rfl, trivial⟩⟩⟩
noncomputable def F_X5_weighAll (G : Gx) (h : Hp) (nx : Nat) (a0 : Nat) (a1 : Int32) : Rz Unit :=
(F_X5_weighAll_2 G fuelL h nx a0 a1 (nI 0))
set_option maxRecDepth 100000 in
set_option maxHeartbeats 4000000 in
theorem k_X5_weighAll {G : Gx} {d : Nat} {h : Hp} {nx : Nat} {a0 : Nat} {a1 : Int32} {v' : Unit} {h' : Hp} {n' : Nat} (e : F_X5_weighAll G h nx a0 a1 = some (v', h', n')) : Ct G mX5_weighAll (d + 3) (Same none h' n') [.ref a0, .int a1] h nx := by
  unfold F_X5_weighAll at e
  refine Ct.of (ls := [some (.ref a0), some (.int a1), none]) (by decide +kernel) rfl (Nat.le_of_ble_eq_true rfl) rfl ?_
  refine Ok.iconstV (v := (nI 0)) dX5_weighAll_0 (by decide +kernel) ?_
  refine XL.istore_n dX5_weighAll_1 (by decide) (L := [some (.ref a0), some (.int a1), some (.int (nI 0))]) rfl ?_
  exact Ok.weakL (k_X5_weighAll_2 (d := d) fuelL e) ⟨rfl, ⟨rfl, ⟨rfl, trivial⟩⟩⟩
noncomputable def F_X5_worthOf_4 (G : Gx) : Nat → Hp → Nat → Nat → Int32 → Int32 → Int32 → Rz Int32 := fun n => Nat.rec (motive := fun _ => Hp → Nat → Nat → Int32 → Int32 → Int32 → Rz Int32) (fun _ _ _ _ _ _ => none) (fun _ k4 => fun h nx l0 l1 l2 l3 =>
gfR h l0 [5] 0 (fun v1 =>
nn v1 (fun p2 =>
gfI h p2 [0] 11 (fun v3 =>
if v3 ≤ l3 then
some (l2, h, nx)
else
gfR h l0 [5] 5 (fun v4 =>
nn v4 (fun p5 =>
alI (g_c G 0) h p5 l3 (fun v6 =>
nm ((l2 + ((((((l1 >>> (l3 &&& 31))) &&& (nI 1))) * v6)))) (fun v7 =>
nm (l3 + (nI 1)) (fun v8 =>
(k4 h nx l0 l1 v7 v8)))))))))) n
theorem F_X5_worthOf_4_0 {G : Gx} {h : Hp} {nx : Nat} {l0 : Nat} {l1 : Int32} {l2 : Int32} {l3 : Int32} : F_X5_worthOf_4 G 0 h nx l0 l1 l2 l3 = none := rfl
theorem F_X5_worthOf_4_s {G : Gx} {n : Nat} {h : Hp} {nx : Nat} {l0 : Nat} {l1 : Int32} {l2 : Int32} {l3 : Int32} : F_X5_worthOf_4 G (n + 1) h nx l0 l1 l2 l3 = (
gfR h l0 [5] 0 (fun v1 =>
nn v1 (fun p2 =>
gfI h p2 [0] 11 (fun v3 =>
if v3 ≤ l3 then
some (l2, h, nx)
else
gfR h l0 [5] 5 (fun v4 =>
nn v4 (fun p5 =>
alI (g_c G 0) h p5 l3 (fun v6 =>
nm ((l2 + ((((((l1 >>> (l3 &&& 31))) &&& (nI 1))) * v6)))) (fun v7 =>
nm (l3 + (nI 1)) (fun v8 =>
((F_X5_worthOf_4 G n) h nx l0 l1 v7 v8)))))))))) := rfl
set_option maxRecDepth 100000 in
set_option maxHeartbeats 4000000 in
theorem k_X5_worthOf_4 {G : Gx} {d : Nat} {v' : Int32} {h' : Hp} {n' : Nat} : ∀ (n : Nat) {h : Hp} {nx : Nat} {l0 : Nat} {l1 : Int32} {l2 : Int32} {l3 : Int32}, F_X5_worthOf_4 G n h nx l0 l1 l2 l3 = some (v', h', n') → Ok G mX5_worthOf (d + 0) (Same (some (.int v')) h' n') 4 [some (.ref l0), some (.int l1), some (.int l2), some (.int l3)] [] h nx 0 0 := by
  intro n
  induction n with
  | zero =>
    intro h nx l0 l1 l2 l3 e
    rw [F_X5_worthOf_4_0] at e
    cases e
  | succ n K4 =>
    intro h nx l0 l1 l2 l3 e
    rw [F_X5_worthOf_4_s] at e
    refine Ok.iload_n dX5_worthOf_4 rfl ?_
    refine Ok.aload_n dX5_worthOf_5 rfl ?_
    refine X.rgfR fl_RX5_40 dX5_worthOf_6 e (fun v1 e1 => ?_)
    clear e
    refine X.rnn e1 (fun p2 q e2 => ?_)
    clear e1
    subst q
    refine X.rgfI fl_RX5_44 dX5_worthOf_9 e2 (fun v3 e3 => ?_)
    clear e2
    refine X.icmp_ge (tgt := 36) dX5_worthOf_12 (by decide) e3 (fun e4 => ?_) (fun e4 => ?_)
    · clear e3
      refine Ok.iload_n dX5_worthOf_36 rfl ?_
      exact X.iret dX5_worthOf_37 rfl (Nat.le_of_ble_eq_true rfl) (Nat.le_of_ble_eq_true rfl) e4
    · clear e3
      refine Ok.iload_n dX5_worthOf_15 rfl ?_
      refine Ok.iload_n dX5_worthOf_16 rfl ?_
      refine Ok.iload_n dX5_worthOf_17 rfl ?_
      refine Ok.ishr dX5_worthOf_18 ?_
      refine Ok.iconstV (v := (nI 1)) dX5_worthOf_19 (by decide +kernel) ?_
      refine Ok.iand dX5_worthOf_20 ?_
      refine Ok.aload_n dX5_worthOf_21 rfl ?_
      refine X.rgfR fl_RX5_25 dX5_worthOf_22 e4 (fun v4 e5 => ?_)
      clear e4
      refine Ok.iload_n dX5_worthOf_25 rfl ?_
      refine X.rnn e5 (fun p5 q e6 => ?_)
      clear e5
      subst q
      refine X.iald dX5_worthOf_26 e6 (fun v6 e7 => ?_)
      clear e6
      refine Ok.imul dX5_worthOf_27 ?_
      refine Ok.iadd dX5_worthOf_28 ?_
      refine X.istore_n dX5_worthOf_29 (by decide) e7 (L := fun v7 => [some (.ref l0), some (.int l1), some (.int v7), some (.int l3)]) (fun _ => rfl) (fun v7 e8 => ?_)
      clear e7
      refine X.iinc dX5_worthOf_30 rfl (by decide) (by decide +kernel) e8 (L := fun v8 => [some (.ref l0), some (.int l1), some (.int v7), some (.int v8)]) (fun _ => rfl) (fun v8 e9 => ?_)
      clear e8
      refine Ok.goto (tgt := 4) dX5_worthOf_33 (by decide) ?_
      exact Ok.weakL (K4 e9) ⟨rfl, ⟨rfl, ⟨rfl, ⟨rfl, trivial⟩⟩⟩⟩
noncomputable def F_X5_worthOf (G : Gx) (h : Hp) (nx : Nat) (a0 : Nat) (a1 : Int32) : Rz Int32 :=
(F_X5_worthOf_4 G fuelL h nx a0 a1 (nI 0) (nI 0))
set_option maxRecDepth 100000 in
set_option maxHeartbeats 4000000 in
theorem k_X5_worthOf {G : Gx} {d : Nat} {h : Hp} {nx : Nat} {a0 : Nat} {a1 : Int32} {v' : Int32} {h' : Hp} {n' : Nat} (e : F_X5_worthOf G h nx a0 a1 = some (v', h', n')) : Ct G mX5_worthOf (d + 0) (Same (some (.int v')) h' n') [.ref a0, .int a1] h nx := by
  unfold F_X5_worthOf at e
  refine Ct.of (ls := [some (.ref a0), some (.int a1), none, none]) (by decide +kernel) rfl (Nat.le_of_ble_eq_true rfl) rfl ?_
  refine Ok.iconstV (v := (nI 0)) dX5_worthOf_0 (by decide +kernel) ?_
  refine XL.istore_n dX5_worthOf_1 (by decide) (L := [some (.ref a0), some (.int a1), some (.int (nI 0)), none]) rfl ?_
  refine Ok.iconstV (v := (nI 0)) dX5_worthOf_2 (by decide +kernel) ?_
  refine XL.istore_n dX5_worthOf_3 (by decide) (L := [some (.ref a0), some (.int a1), some (.int (nI 0)), some (.int (nI 0))]) rfl ?_
  exact Ok.weakL (k_X5_worthOf_4 (d := d) fuelL e) ⟨rfl, ⟨rfl, ⟨rfl, ⟨rfl, trivial⟩⟩⟩⟩
noncomputable def F_X5_worthiest_32 (G : Gx) (k4 : Hp → Nat → Nat → Int32 → Int32 → Rz Int32) (h : Hp) (nx : Nat) (l0 : Nat) (l1 : Int32) (l2 : Int32) : Rz Int32 :=
nm (l2 + (nI 1)) (fun v1 =>
(k4 h nx l0 l1 v1))
set_option maxRecDepth 100000 in
set_option maxHeartbeats 4000000 in
theorem k_X5_worthiest_32 {G : Gx} {d : Nat} {v' : Int32} {h' : Hp} {n' : Nat} {k4 : Hp → Nat → Nat → Int32 → Int32 → Rz Int32} (K4 : ∀ {h : Hp} {nx : Nat} {l0 : Nat} {l1 : Int32} {l2 : Int32}, k4 h nx l0 l1 l2 = some (v', h', n') → Ok G mX5_worthiest (d + 0) (Same (some (.int v')) h' n') 4 [some (.ref l0), some (.int l1), some (.int l2)] [] h nx 0 0) {h : Hp} {nx : Nat} {l0 : Nat} {l1 : Int32} {l2 : Int32} (e : F_X5_worthiest_32 G k4 h nx l0 l1 l2 = some (v', h', n')) : Ok G mX5_worthiest (d + 0) (Same (some (.int v')) h' n') 32 [some (.ref l0), some (.int l1), some (.int l2)] [] h nx 0 0 := by
  unfold F_X5_worthiest_32 at e
  refine X.iinc dX5_worthiest_32 rfl (by decide) (by decide +kernel) e (L := fun v1 => [some (.ref l0), some (.int l1), some (.int v1)]) (fun _ => rfl) (fun v1 e1 => ?_)
  clear e
  refine Ok.goto (tgt := 4) dX5_worthiest_35 (by decide) ?_
  exact Ok.weakL (K4 e1) ⟨rfl, ⟨rfl, ⟨rfl, trivial⟩⟩⟩
noncomputable def F_X5_worthiest_4 (G : Gx) : Nat → Hp → Nat → Nat → Int32 → Int32 → Rz Int32 := fun n => Nat.rec (motive := fun _ => Hp → Nat → Nat → Int32 → Int32 → Rz Int32) (fun _ _ _ _ _ => none) (fun _ k4 => fun h nx l0 l1 l2 =>
gfR h l0 [5] 0 (fun v1 =>
nn v1 (fun p2 =>
gfI h p2 [0] 11 (fun v3 =>
if v3 ≤ l2 then
some (l1, h, nx)
else
gfR h l0 [5] 5 (fun v4 =>
nn v4 (fun p5 =>
alI (g_c G 0) h p5 l2 (fun v6 =>
gfR h l0 [5] 5 (fun v7 =>
nn v7 (fun p8 =>
alI (g_c G 0) h p8 l1 (fun v9 =>
if v6 ≤ v9 then
(F_X5_worthiest_32 G k4 h nx l0 l1 l2)
else
(F_X5_worthiest_32 G k4 h nx l0 l2 l2))))))))))) n
theorem F_X5_worthiest_4_0 {G : Gx} {h : Hp} {nx : Nat} {l0 : Nat} {l1 : Int32} {l2 : Int32} : F_X5_worthiest_4 G 0 h nx l0 l1 l2 = none := rfl
theorem F_X5_worthiest_4_s {G : Gx} {n : Nat} {h : Hp} {nx : Nat} {l0 : Nat} {l1 : Int32} {l2 : Int32} : F_X5_worthiest_4 G (n + 1) h nx l0 l1 l2 = (
gfR h l0 [5] 0 (fun v1 =>
nn v1 (fun p2 =>
gfI h p2 [0] 11 (fun v3 =>
if v3 ≤ l2 then
some (l1, h, nx)
else
gfR h l0 [5] 5 (fun v4 =>
nn v4 (fun p5 =>
alI (g_c G 0) h p5 l2 (fun v6 =>
gfR h l0 [5] 5 (fun v7 =>
nn v7 (fun p8 =>
alI (g_c G 0) h p8 l1 (fun v9 =>
if v6 ≤ v9 then
(F_X5_worthiest_32 G (F_X5_worthiest_4 G n) h nx l0 l1 l2)
else
(F_X5_worthiest_32 G (F_X5_worthiest_4 G n) h nx l0 l2 l2))))))))))) := rfl
set_option maxRecDepth 100000 in
set_option maxHeartbeats 4000000 in
theorem k_X5_worthiest_4 {G : Gx} {d : Nat} {v' : Int32} {h' : Hp} {n' : Nat} : ∀ (n : Nat) {h : Hp} {nx : Nat} {l0 : Nat} {l1 : Int32} {l2 : Int32}, F_X5_worthiest_4 G n h nx l0 l1 l2 = some (v', h', n') → Ok G mX5_worthiest (d + 0) (Same (some (.int v')) h' n') 4 [some (.ref l0), some (.int l1), some (.int l2)] [] h nx 0 0 := by
  intro n
  induction n with
  | zero =>
    intro h nx l0 l1 l2 e
    rw [F_X5_worthiest_4_0] at e
    cases e
  | succ n K4 =>
    intro h nx l0 l1 l2 e
    rw [F_X5_worthiest_4_s] at e
    refine Ok.iload_n dX5_worthiest_4 rfl ?_
    refine Ok.aload_n dX5_worthiest_5 rfl ?_
    refine X.rgfR fl_RX5_40 dX5_worthiest_6 e (fun v1 e1 => ?_)
    clear e
    refine X.rnn e1 (fun p2 q e2 => ?_)
    clear e1
    subst q
    refine X.rgfI fl_RX5_44 dX5_worthiest_9 e2 (fun v3 e3 => ?_)
    clear e2
    refine X.icmp_ge (tgt := 38) dX5_worthiest_12 (by decide) e3 (fun e4 => ?_) (fun e4 => ?_)
    · clear e3
      refine Ok.iload_n dX5_worthiest_38 rfl ?_
      exact X.iret dX5_worthiest_39 rfl (Nat.le_of_ble_eq_true rfl) (Nat.le_of_ble_eq_true rfl) e4
    · clear e3
      refine Ok.aload_n dX5_worthiest_15 rfl ?_
      refine X.rgfR fl_RX5_25 dX5_worthiest_16 e4 (fun v4 e5 => ?_)
      clear e4
      refine Ok.iload_n dX5_worthiest_19 rfl ?_
      refine X.rnn e5 (fun p5 q e6 => ?_)
      clear e5
      subst q
      refine X.iald dX5_worthiest_20 e6 (fun v6 e7 => ?_)
      clear e6
      refine Ok.aload_n dX5_worthiest_21 rfl ?_
      refine X.rgfR fl_RX5_25 dX5_worthiest_22 e7 (fun v7 e8 => ?_)
      clear e7
      refine Ok.iload_n dX5_worthiest_25 rfl ?_
      refine X.rnn e8 (fun p8 q e9 => ?_)
      clear e8
      subst q
      refine X.iald dX5_worthiest_26 e9 (fun v9 e10 => ?_)
      clear e9
      refine X.icmp_le (tgt := 32) dX5_worthiest_27 (by decide) e10 (fun e11 => ?_) (fun e11 => ?_)
      · clear e10
        exact Ok.weakL (k_X5_worthiest_32 (d := d) K4 e11) ⟨rfl, ⟨rfl, ⟨rfl, trivial⟩⟩⟩
      · clear e10
        refine Ok.iload_n dX5_worthiest_30 rfl ?_
        refine XL.istore_n dX5_worthiest_31 (by decide) (L := [some (.ref l0), some (.int l2), some (.int l2)]) rfl ?_
        exact Ok.weakL (k_X5_worthiest_32 (d := d) K4 e11) ⟨rfl, ⟨rfl, ⟨rfl, trivial⟩⟩⟩
noncomputable def F_X5_worthiest (G : Gx) (h : Hp) (nx : Nat) (a0 : Nat) : Rz Int32 :=
(F_X5_worthiest_4 G fuelL h nx a0 (nI 0) (nI 1))
set_option maxRecDepth 100000 in
set_option maxHeartbeats 4000000 in
theorem k_X5_worthiest {G : Gx} {d : Nat} {h : Hp} {nx : Nat} {a0 : Nat} {v' : Int32} {h' : Hp} {n' : Nat} (e : F_X5_worthiest G h nx a0 = some (v', h', n')) : Ct G mX5_worthiest (d + 0) (Same (some (.int v')) h' n') [.ref a0] h nx := by
  unfold F_X5_worthiest at e
  refine Ct.of (ls := [some (.ref a0), none, none]) (by decide +kernel) rfl (Nat.le_of_ble_eq_true rfl) rfl ?_
  refine Ok.iconstV (v := (nI 0)) dX5_worthiest_0 (by decide +kernel) ?_
  refine XL.istore_n dX5_worthiest_1 (by decide) (L := [some (.ref a0), some (.int (nI 0)), none]) rfl ?_
  refine Ok.iconstV (v := (nI 1)) dX5_worthiest_2 (by decide +kernel) ?_
  refine XL.istore_n dX5_worthiest_3 (by decide) (L := [some (.ref a0), some (.int (nI 0)), some (.int (nI 1))]) rfl ?_
  exact Ok.weakL (k_X5_worthiest_4 (d := d) fuelL e) ⟨rfl, ⟨rfl, ⟨rfl, trivial⟩⟩⟩
noncomputable def F_X5_worthiestWith (G : Gx) (h : Hp) (nx : Nat) (a0 : Nat) (a1 : Int32) (a2 : Int32) (a3 : Int32) : Rz Int32 :=
ck h a0 [5] (fun _ =>
cl (F_X5_lay G h nx a0 a1 a2 a3) (fun _ h2 n3 =>
gfR h2 a0 [5] 5 (fun v4 =>
ck h2 a0 [5] (fun _ =>
cl (F_X5_leastWage G h2 n3 a0 a1 (nI 0) a2) (fun r5 h6 n7 =>
nn v4 (fun p8 =>
asI (g_c G 0) id h6 p8 a1 r5 (fun h9 =>
ck h9 a0 [5] (fun _ =>
cl (F_X5_worthiest G h9 n7 a0) (fun r10 h11 n12 =>
some (r10, h11, n12))))))))))
set_option maxRecDepth 100000 in
set_option maxHeartbeats 4000000 in
theorem k_X5_worthiestWith {G : Gx} {d : Nat} {h : Hp} {nx : Nat} {a0 : Nat} {a1 : Int32} {a2 : Int32} {a3 : Int32} {v' : Int32} {h' : Hp} {n' : Nat} (e : F_X5_worthiestWith G h nx a0 a1 a2 a3 = some (v', h', n')) : Ct G mX5_worthiestWith (d + 5) (Same (some (.int v')) h' n') [.ref a0, .int a1, .int a2, .int a3] h nx := by
  unfold F_X5_worthiestWith at e
  refine Ct.of (ls := [some (.ref a0), some (.int a1), some (.int a2), some (.int a3)]) (by decide +kernel) rfl (Nat.le_of_ble_eq_true rfl) rfl ?_
  refine Ok.aload_n dX5_worthiestWith_0 rfl ?_
  refine Ok.iload_n dX5_worthiestWith_1 rfl ?_
  refine Ok.iload_n dX5_worthiestWith_2 rfl ?_
  refine Ok.iload_n dX5_worthiestWith_3 rfl ?_
  refine X.rck e (fun c fs hb hc e1 => ?_)
  clear e
  obtain rfl := List.mem_singleton.mp hc
  refine X.callV (My := mX5_lay) (n := 3) (As := [.int a1, .int a2, .int a3]) (T := (fun v => none)) (stk' := (fun _ => [])) (rest := []) (kc' := 0) (ks' := 0) dX5_worthiestWith_4 e1 (fun v h n e => k_X5_lay (d := d + 0) e) hb rfl wd554 wd78 wd552 wd553 wd741 (by decide +kernel) rfl (by decide) rfl rfl (Nat.le_of_ble_eq_true rfl) (Nat.le_of_ble_eq_true rfl) (Nat.le_of_ble_eq_true rfl) rfl rfl (fun _ => rfl) (fun _ h2 n3 e2 => ?_)
  clear e1
  refine Ok.aload_n dX5_worthiestWith_7 rfl ?_
  refine X.rgfR fl_RX5_25 dX5_worthiestWith_8 e2 (fun v4 e3 => ?_)
  clear e2
  refine Ok.iload_n dX5_worthiestWith_11 rfl ?_
  refine Ok.aload_n dX5_worthiestWith_12 rfl ?_
  refine Ok.iload_n dX5_worthiestWith_13 rfl ?_
  refine Ok.iconstV (v := (nI 0)) dX5_worthiestWith_14 (by decide +kernel) ?_
  refine Ok.iload_n dX5_worthiestWith_15 rfl ?_
  refine X.rck e3 (fun c fs hb hc e4 => ?_)
  clear e3
  obtain rfl := List.mem_singleton.mp hc
  refine X.callV (My := mX5_leastWage) (n := 3) (As := [.int a1, .int (nI 0), .int a2]) (T := (fun v => (some (.int v)))) (stk' := (fun v => [.int v, .int a1, va_rf v4])) (rest := [.int a1, va_rf v4]) (kc' := 0) (ks' := 0) dX5_worthiestWith_16 e4 (fun v h n e => k_X5_leastWage (d := d + 2) e) hb rfl wd606 wd78 wd604 wd605 wd948 (by decide +kernel) rfl (by decide) rfl rfl (cs_le (cs_c (a := 1) rfl (cs_c (a := 1) (va_rf_cat _) cs_n)) (by decide)) (Nat.le_of_ble_eq_true rfl) (Nat.le_of_ble_eq_true rfl) rfl rfl (fun _ => rfl) (fun r5 h6 n7 e5 => ?_)
  clear e4
  refine X.rnn e5 (fun p8 q e6 => ?_)
  clear e5
  subst q
  refine X.iast dX5_worthiestWith_19 e6 (fun h9 e7 => ?_)
  clear e6
  refine Ok.aload_n dX5_worthiestWith_20 rfl ?_
  refine X.rck e7 (fun c fs hb hc e8 => ?_)
  clear e7
  obtain rfl := List.mem_singleton.mp hc
  refine X.callV (My := mX5_worthiest) (n := 0) (As := []) (T := (fun v => (some (.int v)))) (stk' := (fun v => [.int v])) (rest := []) (kc' := 0) (ks' := 0) dX5_worthiestWith_21 e8 (fun v h n e => k_X5_worthiest (d := d + 4) e) hb rfl wd963 wd78 wd961 wd962 wd968 (by decide +kernel) rfl (by decide) rfl rfl (Nat.le_of_ble_eq_true rfl) (Nat.le_of_ble_eq_true rfl) (Nat.le_of_ble_eq_true rfl) rfl rfl (fun _ => rfl) (fun r10 h11 n12 e9 => ?_)
  clear e8
  exact X.iret dX5_worthiestWith_24 rfl (Nat.le_of_ble_eq_true rfl) (Nat.le_of_ble_eq_true rfl) e9
noncomputable def F_X5_worthiestSet_82 (G : Gx) (k4 : Hp → Nat → Nat → Int32 → Int32 → Rz Int32) (h : Hp) (nx : Nat) (s0 : Int32) (s1 : Int32) (l0 : Nat) (l2 : Int32) : Rz Int32 :=
nm ((s0 ||| s1)) (fun v1 =>
nm (l2 + (nI 1)) (fun v2 =>
(k4 h nx l0 v1 v2)))
set_option maxRecDepth 100000 in
set_option maxHeartbeats 4000000 in
theorem k_X5_worthiestSet_82 {G : Gx} {d : Nat} {v' : Int32} {h' : Hp} {n' : Nat} {k4 : Hp → Nat → Nat → Int32 → Int32 → Rz Int32} (K4 : ∀ {h : Hp} {nx : Nat} {l0 : Nat} {l1 : Int32} {l2 : Int32}, k4 h nx l0 l1 l2 = some (v', h', n') → Ok G mX5_worthiestSet (d + 1) (Same (some (.int v')) h' n') 4 [some (.ref l0), some (.int l1), some (.int l2), none, none] [] h nx 0 0) {h : Hp} {nx : Nat} {s0 : Int32} {s1 : Int32} {l0 : Nat} {l2 : Int32} (e : F_X5_worthiestSet_82 G k4 h nx s0 s1 l0 l2 = some (v', h', n')) : Ok G mX5_worthiestSet (d + 1) (Same (some (.int v')) h' n') 82 [some (.ref l0), none, some (.int l2), none, none] [.int s1, .int s0] h nx 0 0 := by
  unfold F_X5_worthiestSet_82 at e
  refine Ok.ior dX5_worthiestSet_82 ?_
  refine X.istore_n dX5_worthiestSet_83 (by decide) e (L := fun v1 => [some (.ref l0), some (.int v1), some (.int l2), none, none]) (fun _ => rfl) (fun v1 e1 => ?_)
  clear e
  refine X.iinc dX5_worthiestSet_84 rfl (by decide) (by decide +kernel) e1 (L := fun v2 => [some (.ref l0), some (.int v1), some (.int v2), none, none]) (fun _ => rfl) (fun v2 e2 => ?_)
  clear e1
  refine Ok.goto (tgt := 4) dX5_worthiestSet_87 (by decide) ?_
  exact Ok.weakL (K4 e2) ⟨rfl, ⟨rfl, ⟨rfl, trivial⟩⟩⟩
noncomputable def F_X5_worthiestSet_64 (G : Gx) (k4 : Hp → Nat → Nat → Int32 → Int32 → Rz Int32) (k20 : Hp → Nat → Nat → Int32 → Int32 → Int32 → Int32 → Rz Int32) (h : Hp) (nx : Nat) (l0 : Nat) (l1 : Int32) (l2 : Int32) (l3 : Int32) (l4 : Int32) : Rz Int32 :=
nm (l4 + (nI 1)) (fun v1 =>
(k20 h nx l0 l1 l2 l3 v1))
set_option maxRecDepth 100000 in
set_option maxHeartbeats 4000000 in
theorem k_X5_worthiestSet_64 {G : Gx} {d : Nat} {v' : Int32} {h' : Hp} {n' : Nat} {k4 : Hp → Nat → Nat → Int32 → Int32 → Rz Int32} (K4 : ∀ {h : Hp} {nx : Nat} {l0 : Nat} {l1 : Int32} {l2 : Int32}, k4 h nx l0 l1 l2 = some (v', h', n') → Ok G mX5_worthiestSet (d + 1) (Same (some (.int v')) h' n') 4 [some (.ref l0), some (.int l1), some (.int l2), none, none] [] h nx 0 0) {k20 : Hp → Nat → Nat → Int32 → Int32 → Int32 → Int32 → Rz Int32} (K20 : ∀ {h : Hp} {nx : Nat} {l0 : Nat} {l1 : Int32} {l2 : Int32} {l3 : Int32} {l4 : Int32}, k20 h nx l0 l1 l2 l3 l4 = some (v', h', n') → Ok G mX5_worthiestSet (d + 1) (Same (some (.int v')) h' n') 20 [some (.ref l0), some (.int l1), some (.int l2), some (.int l3), some (.int l4)] [] h nx 0 0) {h : Hp} {nx : Nat} {l0 : Nat} {l1 : Int32} {l2 : Int32} {l3 : Int32} {l4 : Int32} (e : F_X5_worthiestSet_64 G k4 k20 h nx l0 l1 l2 l3 l4 = some (v', h', n')) : Ok G mX5_worthiestSet (d + 1) (Same (some (.int v')) h' n') 64 [some (.ref l0), some (.int l1), some (.int l2), some (.int l3), some (.int l4)] [] h nx 0 0 := by
  unfold F_X5_worthiestSet_64 at e
  refine X.iinc dX5_worthiestSet_64 rfl (by decide) (by decide +kernel) e (L := fun v1 => [some (.ref l0), some (.int l1), some (.int l2), some (.int l3), some (.int v1)]) (fun _ => rfl) (fun v1 e1 => ?_)
  clear e
  refine Ok.goto (tgt := 20) dX5_worthiestSet_67 (by decide) ?_
  exact Ok.weakL (K20 e1) ⟨rfl, ⟨rfl, ⟨rfl, ⟨rfl, ⟨rfl, trivial⟩⟩⟩⟩⟩
noncomputable def F_X5_worthiestSet_61 (G : Gx) (k4 : Hp → Nat → Nat → Int32 → Int32 → Rz Int32) (k20 : Hp → Nat → Nat → Int32 → Int32 → Int32 → Int32 → Rz Int32) (h : Hp) (nx : Nat) (l0 : Nat) (l1 : Int32) (l2 : Int32) (l4 : Int32) : Rz Int32 :=
(F_X5_worthiestSet_64 G k4 k20 h nx l0 l1 l2 l4 l4)
set_option maxRecDepth 100000 in
set_option maxHeartbeats 4000000 in
theorem k_X5_worthiestSet_61 {G : Gx} {d : Nat} {v' : Int32} {h' : Hp} {n' : Nat} {k4 : Hp → Nat → Nat → Int32 → Int32 → Rz Int32} (K4 : ∀ {h : Hp} {nx : Nat} {l0 : Nat} {l1 : Int32} {l2 : Int32}, k4 h nx l0 l1 l2 = some (v', h', n') → Ok G mX5_worthiestSet (d + 1) (Same (some (.int v')) h' n') 4 [some (.ref l0), some (.int l1), some (.int l2), none, none] [] h nx 0 0) {k20 : Hp → Nat → Nat → Int32 → Int32 → Int32 → Int32 → Rz Int32} (K20 : ∀ {h : Hp} {nx : Nat} {l0 : Nat} {l1 : Int32} {l2 : Int32} {l3 : Int32} {l4 : Int32}, k20 h nx l0 l1 l2 l3 l4 = some (v', h', n') → Ok G mX5_worthiestSet (d + 1) (Same (some (.int v')) h' n') 20 [some (.ref l0), some (.int l1), some (.int l2), some (.int l3), some (.int l4)] [] h nx 0 0) {h : Hp} {nx : Nat} {l0 : Nat} {l1 : Int32} {l2 : Int32} {l4 : Int32} (e : F_X5_worthiestSet_61 G k4 k20 h nx l0 l1 l2 l4 = some (v', h', n')) : Ok G mX5_worthiestSet (d + 1) (Same (some (.int v')) h' n') 61 [some (.ref l0), some (.int l1), some (.int l2), none, some (.int l4)] [] h nx 0 0 := by
  unfold F_X5_worthiestSet_61 at e
  refine Ok.iload dX5_worthiestSet_61 rfl ?_
  refine XL.istore_n dX5_worthiestSet_63 (by decide) (L := [some (.ref l0), some (.int l1), some (.int l2), some (.int l4), some (.int l4)]) rfl ?_
  exact Ok.weakL (k_X5_worthiestSet_64 (d := d) K4 K20 e) ⟨rfl, ⟨rfl, ⟨rfl, ⟨rfl, ⟨rfl, trivial⟩⟩⟩⟩⟩
noncomputable def F_X5_worthiestSet_20 (G : Gx) (k4 : Hp → Nat → Nat → Int32 → Int32 → Rz Int32) : Nat → Hp → Nat → Nat → Int32 → Int32 → Int32 → Int32 → Rz Int32 := fun n => Nat.rec (motive := fun _ => Hp → Nat → Nat → Int32 → Int32 → Int32 → Int32 → Rz Int32) (fun _ _ _ _ _ _ _ => none) (fun _ k20 => fun h nx l0 l1 l2 l3 l4 =>
gfR h l0 [5] 0 (fun v1 =>
nn v1 (fun p2 =>
gfI h p2 [0] 11 (fun v3 =>
if v3 ≤ l4 then
if 0 ≤ l3 then
(F_X5_worthiestSet_82 G k4 h nx l1 (((nI 1) <<< (l3 &&& 31))) l0 l2)
else
(F_X5_worthiestSet_82 G k4 h nx l1 (nI 0) l0 l2)
else
if ((((l1 >>> (l4 &&& 31))) &&& (nI 1))) = 0 then
if l3 < 0 then
(F_X5_worthiestSet_61 G k4 k20 h nx l0 l1 l2 l4)
else
gfR h l0 [5] 5 (fun v4 =>
nn v4 (fun p5 =>
alI (g_c G 0) h p5 l4 (fun v6 =>
gfR h l0 [5] 5 (fun v7 =>
nn v7 (fun p8 =>
alI (g_c G 0) h p8 l3 (fun v9 =>
if v6 ≤ v9 then
(F_X5_worthiestSet_64 G k4 k20 h nx l0 l1 l2 l3 l4)
else
(F_X5_worthiestSet_61 G k4 k20 h nx l0 l1 l2 l4)))))))
else
(F_X5_worthiestSet_64 G k4 k20 h nx l0 l1 l2 l3 l4))))) n
theorem F_X5_worthiestSet_20_0 {G : Gx} (k4 : Hp → Nat → Nat → Int32 → Int32 → Rz Int32) {h : Hp} {nx : Nat} {l0 : Nat} {l1 : Int32} {l2 : Int32} {l3 : Int32} {l4 : Int32} : F_X5_worthiestSet_20 G k4 0 h nx l0 l1 l2 l3 l4 = none := rfl
theorem F_X5_worthiestSet_20_s {G : Gx} (k4 : Hp → Nat → Nat → Int32 → Int32 → Rz Int32) {n : Nat} {h : Hp} {nx : Nat} {l0 : Nat} {l1 : Int32} {l2 : Int32} {l3 : Int32} {l4 : Int32} : F_X5_worthiestSet_20 G k4 (n + 1) h nx l0 l1 l2 l3 l4 = (
gfR h l0 [5] 0 (fun v1 =>
nn v1 (fun p2 =>
gfI h p2 [0] 11 (fun v3 =>
if v3 ≤ l4 then
if 0 ≤ l3 then
(F_X5_worthiestSet_82 G k4 h nx l1 (((nI 1) <<< (l3 &&& 31))) l0 l2)
else
(F_X5_worthiestSet_82 G k4 h nx l1 (nI 0) l0 l2)
else
if ((((l1 >>> (l4 &&& 31))) &&& (nI 1))) = 0 then
if l3 < 0 then
(F_X5_worthiestSet_61 G k4 (F_X5_worthiestSet_20 G k4 n) h nx l0 l1 l2 l4)
else
gfR h l0 [5] 5 (fun v4 =>
nn v4 (fun p5 =>
alI (g_c G 0) h p5 l4 (fun v6 =>
gfR h l0 [5] 5 (fun v7 =>
nn v7 (fun p8 =>
alI (g_c G 0) h p8 l3 (fun v9 =>
if v6 ≤ v9 then
(F_X5_worthiestSet_64 G k4 (F_X5_worthiestSet_20 G k4 n) h nx l0 l1 l2 l3 l4)
else
(F_X5_worthiestSet_61 G k4 (F_X5_worthiestSet_20 G k4 n) h nx l0 l1 l2 l4)))))))
else
(F_X5_worthiestSet_64 G k4 (F_X5_worthiestSet_20 G k4 n) h nx l0 l1 l2 l3 l4))))) := rfl
set_option maxRecDepth 100000 in
set_option maxHeartbeats 4000000 in
theorem k_X5_worthiestSet_20 {G : Gx} {d : Nat} {v' : Int32} {h' : Hp} {n' : Nat} {k4 : Hp → Nat → Nat → Int32 → Int32 → Rz Int32} (K4 : ∀ {h : Hp} {nx : Nat} {l0 : Nat} {l1 : Int32} {l2 : Int32}, k4 h nx l0 l1 l2 = some (v', h', n') → Ok G mX5_worthiestSet (d + 1) (Same (some (.int v')) h' n') 4 [some (.ref l0), some (.int l1), some (.int l2), none, none] [] h nx 0 0) : ∀ (n : Nat) {h : Hp} {nx : Nat} {l0 : Nat} {l1 : Int32} {l2 : Int32} {l3 : Int32} {l4 : Int32}, F_X5_worthiestSet_20 G k4 n h nx l0 l1 l2 l3 l4 = some (v', h', n') → Ok G mX5_worthiestSet (d + 1) (Same (some (.int v')) h' n') 20 [some (.ref l0), some (.int l1), some (.int l2), some (.int l3), some (.int l4)] [] h nx 0 0 := by
  intro n
  induction n with
  | zero =>
    intro h nx l0 l1 l2 l3 l4 e
    rw [F_X5_worthiestSet_20_0] at e
    cases e
  | succ n K20 =>
    intro h nx l0 l1 l2 l3 l4 e
    rw [F_X5_worthiestSet_20_s] at e
    refine Ok.iload dX5_worthiestSet_20 rfl ?_
    refine Ok.aload_n dX5_worthiestSet_22 rfl ?_
    refine X.rgfR fl_RX5_40 dX5_worthiestSet_23 e (fun v1 e1 => ?_)
    clear e
    refine X.rnn e1 (fun p2 q e2 => ?_)
    clear e1
    subst q
    refine X.rgfI fl_RX5_44 dX5_worthiestSet_26 e2 (fun v3 e3 => ?_)
    clear e2
    refine X.icmp_ge (tgt := 70) dX5_worthiestSet_29 (by decide) e3 (fun e4 => ?_) (fun e4 => ?_)
    · clear e3
      refine Ok.iload_n dX5_worthiestSet_70 rfl ?_
      refine Ok.iload_n dX5_worthiestSet_71 rfl ?_
      refine X.if_ge (tgt := 79) dX5_worthiestSet_72 (by decide) e4 (fun e5 => ?_) (fun e5 => ?_)
      · clear e4
        refine Ok.iconstV (v := (nI 1)) dX5_worthiestSet_79 (by decide +kernel) ?_
        refine Ok.iload_n dX5_worthiestSet_80 rfl ?_
        refine Ok.ishl dX5_worthiestSet_81 ?_
        exact Ok.weakL (k_X5_worthiestSet_82 (d := d) K4 e5) ⟨rfl, ⟨rfl, trivial⟩⟩
      · clear e4
        refine Ok.iconstV (v := (nI 0)) dX5_worthiestSet_75 (by decide +kernel) ?_
        refine Ok.goto (tgt := 82) dX5_worthiestSet_76 (by decide) ?_
        exact Ok.weakL (k_X5_worthiestSet_82 (d := d) K4 e5) ⟨rfl, ⟨rfl, trivial⟩⟩
    · clear e3
      refine Ok.iload_n dX5_worthiestSet_32 rfl ?_
      refine Ok.iload dX5_worthiestSet_33 rfl ?_
      refine Ok.ishr dX5_worthiestSet_35 ?_
      refine Ok.iconstV (v := (nI 1)) dX5_worthiestSet_36 (by decide +kernel) ?_
      refine Ok.iand dX5_worthiestSet_37 ?_
      refine X.if_ne (tgt := 64) dX5_worthiestSet_38 (by decide) e4 (fun e5 => ?_) (fun e5 => ?_)
      · clear e4
        exact Ok.weakL (k_X5_worthiestSet_64 (d := d) K4 K20 e5) ⟨rfl, ⟨rfl, ⟨rfl, ⟨rfl, ⟨rfl, trivial⟩⟩⟩⟩⟩
      · clear e4
        refine Ok.iload_n dX5_worthiestSet_41 rfl ?_
        refine X.if_lt (tgt := 61) dX5_worthiestSet_42 (by decide) e5 (fun e6 => ?_) (fun e6 => ?_)
        · clear e5
          exact Ok.weakL (k_X5_worthiestSet_61 (d := d) K4 K20 e6) ⟨rfl, ⟨rfl, ⟨rfl, ⟨rfl, trivial⟩⟩⟩⟩
        · clear e5
          refine Ok.aload_n dX5_worthiestSet_45 rfl ?_
          refine X.rgfR fl_RX5_25 dX5_worthiestSet_46 e6 (fun v4 e7 => ?_)
          clear e6
          refine Ok.iload dX5_worthiestSet_49 rfl ?_
          refine X.rnn e7 (fun p5 q e8 => ?_)
          clear e7
          subst q
          refine X.iald dX5_worthiestSet_51 e8 (fun v6 e9 => ?_)
          clear e8
          refine Ok.aload_n dX5_worthiestSet_52 rfl ?_
          refine X.rgfR fl_RX5_25 dX5_worthiestSet_53 e9 (fun v7 e10 => ?_)
          clear e9
          refine Ok.iload_n dX5_worthiestSet_56 rfl ?_
          refine X.rnn e10 (fun p8 q e11 => ?_)
          clear e10
          subst q
          refine X.iald dX5_worthiestSet_57 e11 (fun v9 e12 => ?_)
          clear e11
          refine X.icmp_le (tgt := 64) dX5_worthiestSet_58 (by decide) e12 (fun e13 => ?_) (fun e13 => ?_)
          · clear e12
            exact Ok.weakL (k_X5_worthiestSet_64 (d := d) K4 K20 e13) ⟨rfl, ⟨rfl, ⟨rfl, ⟨rfl, ⟨rfl, trivial⟩⟩⟩⟩⟩
          · clear e12
            exact Ok.weakL (k_X5_worthiestSet_61 (d := d) K4 K20 e13) ⟨rfl, ⟨rfl, ⟨rfl, ⟨rfl, trivial⟩⟩⟩⟩
noncomputable def F_X5_worthiestSet_4 (G : Gx) : Nat → Hp → Nat → Nat → Int32 → Int32 → Rz Int32 := fun n => Nat.rec (motive := fun _ => Hp → Nat → Nat → Int32 → Int32 → Rz Int32) (fun _ _ _ _ _ => none) (fun _ k4 => fun h nx l0 l1 l2 =>
gfR h l0 [5] 0 (fun v1 =>
nn v1 (fun p2 =>
ck h p2 [0] (fun _ =>
cl (F_X0_looksOrAll G h nx p2) (fun r3 h4 n5 =>
if r3 ≤ l2 then
some (l1, h4, n5)
else
(F_X5_worthiestSet_20 G k4 fuelL h4 n5 l0 l1 l2 (-1 : Int32) (nI 0))))))) n
theorem F_X5_worthiestSet_4_0 {G : Gx} {h : Hp} {nx : Nat} {l0 : Nat} {l1 : Int32} {l2 : Int32} : F_X5_worthiestSet_4 G 0 h nx l0 l1 l2 = none := rfl
theorem F_X5_worthiestSet_4_s {G : Gx} {n : Nat} {h : Hp} {nx : Nat} {l0 : Nat} {l1 : Int32} {l2 : Int32} : F_X5_worthiestSet_4 G (n + 1) h nx l0 l1 l2 = (
gfR h l0 [5] 0 (fun v1 =>
nn v1 (fun p2 =>
ck h p2 [0] (fun _ =>
cl (F_X0_looksOrAll G h nx p2) (fun r3 h4 n5 =>
if r3 ≤ l2 then
some (l1, h4, n5)
else
(F_X5_worthiestSet_20 G (F_X5_worthiestSet_4 G n) fuelL h4 n5 l0 l1 l2 (-1 : Int32) (nI 0))))))) := rfl
set_option maxRecDepth 100000 in
set_option maxHeartbeats 4000000 in
theorem k_X5_worthiestSet_4 {G : Gx} {d : Nat} {v' : Int32} {h' : Hp} {n' : Nat} : ∀ (n : Nat) {h : Hp} {nx : Nat} {l0 : Nat} {l1 : Int32} {l2 : Int32}, F_X5_worthiestSet_4 G n h nx l0 l1 l2 = some (v', h', n') → Ok G mX5_worthiestSet (d + 1) (Same (some (.int v')) h' n') 4 [some (.ref l0), some (.int l1), some (.int l2), none, none] [] h nx 0 0 := by
  intro n
  induction n with
  | zero =>
    intro h nx l0 l1 l2 e
    rw [F_X5_worthiestSet_4_0] at e
    cases e
  | succ n K4 =>
    intro h nx l0 l1 l2 e
    rw [F_X5_worthiestSet_4_s] at e
    refine Ok.iload_n dX5_worthiestSet_4 rfl ?_
    refine Ok.aload_n dX5_worthiestSet_5 rfl ?_
    refine X.rgfR fl_RX5_40 dX5_worthiestSet_6 e (fun v1 e1 => ?_)
    clear e
    refine X.rnn e1 (fun p2 q e2 => ?_)
    clear e1
    subst q
    refine X.rck e2 (fun c fs hb hc e3 => ?_)
    clear e2
    obtain rfl := List.mem_singleton.mp hc
    refine X.callV (My := mX0_looksOrAll) (n := 0) (As := []) (T := (fun v => (some (.int v)))) (stk' := (fun v => [.int v, .int l2])) (rest := [.int l2]) (kc' := 0) (ks' := 0) dX5_worthiestSet_9 e3 (fun v h n e => k_X0_looksOrAll (d := d + 0) e) hb rfl wd752 wd77 wd750 wd751 wd807 (by decide +kernel) rfl (by decide) rfl rfl (Nat.le_of_ble_eq_true rfl) (Nat.le_of_ble_eq_true rfl) (Nat.le_of_ble_eq_true rfl) rfl rfl (fun _ => rfl) (fun r3 h4 n5 e4 => ?_)
    clear e3
    refine X.icmp_ge (tgt := 90) dX5_worthiestSet_12 (by decide) e4 (fun e5 => ?_) (fun e5 => ?_)
    · clear e4
      refine Ok.iload_n dX5_worthiestSet_90 rfl ?_
      exact X.iret dX5_worthiestSet_91 rfl (Nat.le_of_ble_eq_true rfl) (Nat.le_of_ble_eq_true rfl) e5
    · clear e4
      refine Ok.iconstV (v := (-1 : Int32)) dX5_worthiestSet_15 (by decide +kernel) ?_
      refine XL.istore_n dX5_worthiestSet_16 (by decide) (L := [some (.ref l0), some (.int l1), some (.int l2), some (.int (-1 : Int32)), none]) rfl ?_
      refine Ok.iconstV (v := (nI 0)) dX5_worthiestSet_17 (by decide +kernel) ?_
      refine XL.istore dX5_worthiestSet_18 (by decide) (L := [some (.ref l0), some (.int l1), some (.int l2), some (.int (-1 : Int32)), some (.int (nI 0))]) rfl ?_
      exact Ok.weakL (k_X5_worthiestSet_20 (d := d) K4 fuelL e5) ⟨rfl, ⟨rfl, ⟨rfl, ⟨rfl, ⟨rfl, trivial⟩⟩⟩⟩⟩
noncomputable def F_X5_worthiestSet (G : Gx) (h : Hp) (nx : Nat) (a0 : Nat) : Rz Int32 :=
(F_X5_worthiestSet_4 G fuelL h nx a0 (nI 0) (nI 0))
set_option maxRecDepth 100000 in
set_option maxHeartbeats 4000000 in
theorem k_X5_worthiestSet {G : Gx} {d : Nat} {h : Hp} {nx : Nat} {a0 : Nat} {v' : Int32} {h' : Hp} {n' : Nat} (e : F_X5_worthiestSet G h nx a0 = some (v', h', n')) : Ct G mX5_worthiestSet (d + 1) (Same (some (.int v')) h' n') [.ref a0] h nx := by
  unfold F_X5_worthiestSet at e
  refine Ct.of (ls := [some (.ref a0), none, none, none, none]) (by decide +kernel) rfl (Nat.le_of_ble_eq_true rfl) rfl ?_
  refine Ok.iconstV (v := (nI 0)) dX5_worthiestSet_0 (by decide +kernel) ?_
  refine XL.istore_n dX5_worthiestSet_1 (by decide) (L := [some (.ref a0), some (.int (nI 0)), none, none, none]) rfl ?_
  refine Ok.iconstV (v := (nI 0)) dX5_worthiestSet_2 (by decide +kernel) ?_
  refine XL.istore_n dX5_worthiestSet_3 (by decide) (L := [some (.ref a0), some (.int (nI 0)), some (.int (nI 0)), none, none]) rfl ?_
  exact Ok.weakL (k_X5_worthiestSet_4 (d := d) fuelL e) ⟨rfl, ⟨rfl, ⟨rfl, trivial⟩⟩⟩
