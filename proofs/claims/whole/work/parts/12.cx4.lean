noncomputable def F_X11_init (G : Gx) (h : Hp) (nx : Nat) (a0 : Nat) : Rz Unit :=
nwO G h nx 0 [.null, .int 0, .null, .int 0, .null, .null, .null, .null, .null, .null, .null, .int 0, .null, .null, .null, .int 0, .int 0, .int 0] (fun p1 h2 n3 =>
cl (F_X0_init G h2 n3 p1) (fun _ h5 n6 =>
pfV h5 a0 [11] 0 (va_rf (some p1)) (fun h7 =>
nwO G h7 n6 0 [.null, .int 0, .null, .int 0, .null, .null, .null, .null, .null, .null, .null, .int 0, .null, .null, .null, .int 0, .int 0, .int 0] (fun p8 h9 n10 =>
cl (F_X0_init G h9 n10 p8) (fun _ h12 n13 =>
pfV h12 a0 [11] 1 (va_rf (some p8)) (fun h14 =>
zk (nI 0) (
pfV h14 a0 [11] 2 (.int (nI 0)) (fun h15 =>
nwO G h15 n13 5 [.null, .null, .null, .null, .null, .null, .null, .long 0, .long 0] (fun p16 h17 n18 =>
gfR h17 a0 [11] 0 (fun v19 =>
nn v19 (fun p20 =>
cl (F_X5_init G h17 n18 p16 p20) (fun _ h22 n23 =>
pfV h22 a0 [11] 3 (va_rf (some p16)) (fun h24 =>
nwO G h24 n23 9 [.null, .null, .null, .null, .null, .int 0, .null, .int 0, .int 0, .int 0, .null] (fun p25 h26 n27 =>
gfR h26 a0 [11] 3 (fun v28 =>
nn v28 (fun p29 =>
cl (F_X9_init G h26 n27 p25 p29) (fun _ h31 n32 =>
pfV h31 a0 [11] 4 (va_rf (some p25)) (fun h33 =>
nwI G (g_c G 0) h33 n32 (nI 8) 8 (fun p34 h35 n36 =>
pfV h35 a0 [11] 5 (va_rf (some p34)) (fun h37 =>
nwI G (g_c G 0) h37 n36 (nI 21) 21 (fun p38 h39 n40 =>
pfV h39 a0 [11] 6 (va_rf (some p38)) (fun h41 =>
some ((), h41, n40)))))))))))))))))))))))
set_option maxRecDepth 100000 in
set_option maxHeartbeats 4000000 in
theorem k_X11_init {G : Gx} {d : Nat} {h : Hp} {nx : Nat} {a0 : Nat} {v' : Unit} {h' : Hp} {n' : Nat} (e : F_X11_init G h nx a0 = some (v', h', n')) : Ct G mX11_init (d + 1) (Same none h' n') [.ref a0] h nx := by
  unfold F_X11_init at e
  refine Ct.of (ls := [some (.ref a0)]) (by decide +kernel) rfl (Nat.le_of_ble_eq_true rfl) rfl ?_
  refine Ok.aload_n dX11_init_0 rfl ?_
  refine Ok.objInit dX11_init_1 wd103 wo_1 wo_2 (Nat.le_of_ble_eq_true rfl) ?_
  refine Ok.aload_n dX11_init_4 rfl ?_
  refine X.rnwO (fs := [.null, .int 0, .null, .int 0, .null, .null, .null, .null, .null, .null, .null, .int 0, .null, .null, .null, .int 0, .int 0, .int 0]) dX11_init_5 rfl inX0 tyX0 tyX0_ok wd106 wd107 wd77 (fun j hj => match j, hj with | 0, _ => rfl | 1, _ => rfl | 2, _ => rfl | 3, _ => rfl | 4, _ => rfl | 5, _ => rfl | 6, _ => rfl | 7, _ => rfl | 8, _ => rfl | 9, _ => rfl | 10, _ => rfl | 11, _ => rfl | 12, _ => rfl | 13, _ => rfl | 14, _ => rfl | 15, _ => rfl | 16, _ => rfl | 17, _ => rfl | _ + 18, q => absurd q (by omega)) (Nat.le_of_ble_eq_true rfl) (Nat.le_of_ble_eq_true rfl) e (fun p1 h2 n3 e1 => ?_)
  clear e
  refine Ok.mono (kc' := 1) (ks' := 18) ?_ (by decide) (by decide)
  refine Ok.dup dX11_init_8 rfl ?_
  refine X.callIN (host := "GateWatch") (My := mX0_init) (n := 0) (As := []) (T := (fun v => none)) (stk' := (fun _ => [.ref p1, .ref a0])) (rest := [.ref p1, .ref a0]) (kc' := 25) (ks' := 356) dX11_init_9 e1 (fun v h n e => k_X0_init (d := d + 0) e) rfl wd110 wd77 wd109 rfl (by decide +kernel) (by decide +kernel) rfl (by decide) rfl rfl (Nat.le_of_ble_eq_true rfl) (Nat.le_of_ble_eq_true rfl) (Nat.le_of_ble_eq_true rfl) rfl rfl (fun _ => rfl) (fun _ h5 n6 e2 => ?_)
  clear e1
  refine X.pfF (v := (va_rf (some p1))) fp_RX11_14 rfl (nar_q (Or.inl ⟨_, rfl⟩) (some p1)) (fits_q (Or.inl ⟨_, rfl⟩) (some p1)) dX11_init_12 e2 (fun h7 e3 => ?_)
  clear e2
  refine Ok.aload_n dX11_init_15 rfl ?_
  refine X.rnwO (fs := [.null, .int 0, .null, .int 0, .null, .null, .null, .null, .null, .null, .null, .int 0, .null, .null, .null, .int 0, .int 0, .int 0]) dX11_init_16 rfl inX0 tyX0 tyX0_ok wd106 wd107 wd77 (fun j hj => match j, hj with | 0, _ => rfl | 1, _ => rfl | 2, _ => rfl | 3, _ => rfl | 4, _ => rfl | 5, _ => rfl | 6, _ => rfl | 7, _ => rfl | 8, _ => rfl | 9, _ => rfl | 10, _ => rfl | 11, _ => rfl | 12, _ => rfl | 13, _ => rfl | 14, _ => rfl | 15, _ => rfl | 16, _ => rfl | 17, _ => rfl | _ + 18, q => absurd q (by omega)) (Nat.le_of_ble_eq_true rfl) (Nat.le_of_ble_eq_true rfl) e3 (fun p8 h9 n10 e4 => ?_)
  clear e3
  refine Ok.mono (kc' := 26) (ks' := 374) ?_ (by decide) (by decide)
  refine Ok.dup dX11_init_19 rfl ?_
  refine X.callIN (host := "GateWatch") (My := mX0_init) (n := 0) (As := []) (T := (fun v => none)) (stk' := (fun _ => [.ref p8, .ref a0])) (rest := [.ref p8, .ref a0]) (kc' := 50) (ks' := 712) dX11_init_20 e4 (fun v h n e => k_X0_init (d := d + 0) e) rfl wd110 wd77 wd109 rfl (by decide +kernel) (by decide +kernel) rfl (by decide) rfl rfl (Nat.le_of_ble_eq_true rfl) (Nat.le_of_ble_eq_true rfl) (Nat.le_of_ble_eq_true rfl) rfl rfl (fun _ => rfl) (fun _ h12 n13 e5 => ?_)
  clear e4
  refine X.pfF (v := (va_rf (some p8))) fp_RX11_18 rfl (nar_q (Or.inl ⟨_, rfl⟩) (some p8)) (fits_q (Or.inl ⟨_, rfl⟩) (some p8)) dX11_init_23 e5 (fun h14 e6 => ?_)
  clear e5
  refine Ok.aload_n dX11_init_26 rfl ?_
  refine Ok.iconstV (v := (nI 0)) dX11_init_27 (by decide +kernel) ?_
  refine X.rzk e6 (fun z e7 => ?_)
  clear e6
  refine X.rpfV (v := (.int (nI 0))) fp_RX11_21 (nar_z z) (fits_z z) dX11_init_28 e7 (fun h15 e8 => ?_)
  clear e7
  refine Ok.aload_n dX11_init_31 rfl ?_
  refine X.rnwO (fs := [.null, .null, .null, .null, .null, .null, .null, .long 0, .long 0]) dX11_init_32 rfl inX5 tyX5 tyX5_ok wd205 wd206 wd78 (fun j hj => match j, hj with | 0, _ => rfl | 1, _ => rfl | 2, _ => rfl | 3, _ => rfl | 4, _ => rfl | 5, _ => rfl | 6, _ => rfl | 7, _ => rfl | 8, _ => rfl | _ + 9, q => absurd q (by omega)) (Nat.le_of_ble_eq_true rfl) (Nat.le_of_ble_eq_true rfl) e8 (fun p16 h17 n18 e9 => ?_)
  clear e8
  refine Ok.mono (kc' := 51) (ks' := 721) ?_ (by decide) (by decide)
  refine Ok.dup dX11_init_35 rfl ?_
  refine Ok.aload_n dX11_init_36 rfl ?_
  refine X.rgfR fl_RX11_14 dX11_init_37 e9 (fun v19 e10 => ?_)
  clear e9
  refine X.rnn e10 (fun p20 q e11 => ?_)
  clear e10
  subst q
  refine X.callI (My := mX5_init) (n := 1) (As := [.ref p20]) (T := (fun v => none)) (stk' := (fun _ => [.ref p16, .ref a0])) (rest := [.ref p16, .ref a0]) (kc' := 89) (ks' := 1850) dX11_init_40 e11 (fun v h n e => k_X5_init (d := d + 0) e) rfl wd209 wd78 wd208 rfl wd207 (by decide +kernel) rfl (by decide) rfl rfl (Nat.le_of_ble_eq_true rfl) (Nat.le_of_ble_eq_true rfl) (Nat.le_of_ble_eq_true rfl) rfl rfl (fun _ => rfl) (fun _ h22 n23 e12 => ?_)
  clear e11
  refine X.pfF (v := (va_rf (some p16))) fp_RX11_30 rfl (nar_q (Or.inl ⟨_, rfl⟩) (some p16)) (fits_q (Or.inl ⟨_, rfl⟩) (some p16)) dX11_init_43 e12 (fun h24 e13 => ?_)
  clear e12
  refine Ok.aload_n dX11_init_46 rfl ?_
  refine X.rnwO (fs := [.null, .null, .null, .null, .null, .int 0, .null, .int 0, .int 0, .int 0, .null]) dX11_init_47 rfl inX9 tyX9 tyX9_ok wd253 wd254 wd79 (fun j hj => match j, hj with | 0, _ => rfl | 1, _ => rfl | 2, _ => rfl | 3, _ => rfl | 4, _ => rfl | 5, _ => rfl | 6, _ => rfl | 7, _ => rfl | 8, _ => rfl | 9, _ => rfl | 10, _ => rfl | _ + 11, q => absurd q (by omega)) (Nat.le_of_ble_eq_true rfl) (Nat.le_of_ble_eq_true rfl) e13 (fun p25 h26 n27 e14 => ?_)
  clear e13
  refine Ok.mono (kc' := 90) (ks' := 1861) ?_ (by decide) (by decide)
  refine Ok.dup dX11_init_50 rfl ?_
  refine Ok.aload_n dX11_init_51 rfl ?_
  refine X.rgfR fl_RX11_30 dX11_init_52 e14 (fun v28 e15 => ?_)
  clear e14
  refine X.rnn e15 (fun p29 q e16 => ?_)
  clear e15
  subst q
  refine X.callI (My := mX9_init) (n := 1) (As := [.ref p29]) (T := (fun v => none)) (stk' := (fun _ => [.ref p25, .ref a0])) (rest := [.ref p25, .ref a0]) (kc' := 105) (ks' := 2022) dX11_init_55 e16 (fun v h n e => k_X9_init (d := d + 0) e) rfl wd257 wd79 wd256 rfl wd255 (by decide +kernel) rfl (by decide) rfl rfl (Nat.le_of_ble_eq_true rfl) (Nat.le_of_ble_eq_true rfl) (Nat.le_of_ble_eq_true rfl) rfl rfl (fun _ => rfl) (fun _ h31 n32 e17 => ?_)
  clear e16
  refine X.pfF (v := (va_rf (some p25))) fp_RX11_39 rfl (nar_q (Or.inl ⟨_, rfl⟩) (some p25)) (fits_q (Or.inl ⟨_, rfl⟩) (some p25)) dX11_init_58 e17 (fun h33 e18 => ?_)
  clear e17
  refine Ok.aload_n dX11_init_61 rfl ?_
  refine Ok.bipushV (v := (nI 8)) dX11_init_62 (by decide +kernel) ?_
  refine X.rnwI dX11_init_64 wd203 (by decide +kernel) (Nat.le_of_ble_eq_true rfl) (Nat.le_of_ble_eq_true rfl) e18 (fun p34 h35 n36 e19 => ?_)
  clear e18
  refine Ok.mono (kc' := 106) (ks' := 2030) ?_ (by decide) (by decide)
  refine X.pfF (v := (va_rf (some p34))) fp_RX11_43 rfl (nar_q (Or.inr ⟨_, rfl⟩) (some p34)) (fits_q (Or.inr ⟨_, rfl⟩) (some p34)) dX11_init_66 e19 (fun h37 e20 => ?_)
  clear e19
  refine Ok.aload_n dX11_init_69 rfl ?_
  refine Ok.bipushV (v := (nI 21)) dX11_init_70 (by decide +kernel) ?_
  refine X.rnwI dX11_init_72 wd203 (by decide +kernel) (Nat.le_of_ble_eq_true rfl) (Nat.le_of_ble_eq_true rfl) e20 (fun p38 h39 n40 e21 => ?_)
  clear e20
  refine Ok.mono (kc' := 107) (ks' := 2051) ?_ (by decide) (by decide)
  refine X.pfF (v := (va_rf (some p38))) fp_RX11_47 rfl (nar_q (Or.inr ⟨_, rfl⟩) (some p38)) (fits_q (Or.inr ⟨_, rfl⟩) (some p38)) dX11_init_74 e21 (fun h41 e22 => ?_)
  clear e21
  exact X.vret dX11_init_77 rfl (Nat.le_of_ble_eq_true rfl) (Nat.le_of_ble_eq_true rfl) e22
noncomputable def F_X11_feed_11 (G : Gx) (h : Hp) (nx : Nat) : Rz Int32 :=
some ((-2 : Int32), h, nx)
set_option maxRecDepth 100000 in
set_option maxHeartbeats 4000000 in
theorem k_X11_feed_11 {G : Gx} {d : Nat} {v' : Int32} {h' : Hp} {n' : Nat} {h : Hp} {nx : Nat} (e : F_X11_feed_11 G h nx = some (v', h', n')) : Ok G mX11_feed (d + 0) (Same (some (.int v')) h' n') 11 [none, none, none, none, none] [] h nx 0 0 := by
  unfold F_X11_feed_11 at e
  refine Ok.bipushV (v := (-2 : Int32)) dX11_feed_11 (by decide +kernel) ?_
  exact X.iret dX11_feed_13 rfl (Nat.le_of_ble_eq_true rfl) (Nat.le_of_ble_eq_true rfl) e
noncomputable def F_X11_feed_36 (G : Gx) : Nat → Hp → Nat → Nat → Int64 → Int32 → Rz Int32 := fun n => Nat.rec (motive := fun _ => Hp → Nat → Nat → Int64 → Int32 → Rz Int32) (fun _ _ _ _ _ => none) (fun _ k36 => fun h nx l0 l1 l4 =>
if l4 < 0 then
gfR h l0 [11] 0 (fun v1 =>
nn v1 (fun p2 =>
gfI h p2 [0] 1 (fun v3 =>
some (v3, h, nx))))
else
gfR h l0 [11] 0 (fun v4 =>
nn v4 (fun p5 =>
gfR h p5 [0] 0 (fun v6 =>
gfR h l0 [11] 0 (fun v7 =>
nn v7 (fun p8 =>
gfI h p8 [0] 1 (fun v9 =>
nn v6 (fun p10 =>
asI (g_c G 2) (vp_nar .byte) h p10 v9 ((((l1.toUInt64 >>> ((((nI 8) * l4)).toInt64.toUInt64 &&& Int64.toUInt64 63)).toInt64).toInt32).toInt8.toInt32) (fun h11 =>
gfR h11 l0 [11] 0 (fun v12 =>
nn v12 (fun p13 =>
gfI h11 p13 [0] 1 (fun v14 =>
pfV h11 p13 [0] 1 (.int ((v14 + (nI 1)))) (fun h15 =>
nm (l4 + (-1 : Int32)) (fun v16 =>
(k36 h15 nx l0 l1 v16))))))))))))))) n
theorem F_X11_feed_36_0 {G : Gx} {h : Hp} {nx : Nat} {l0 : Nat} {l1 : Int64} {l4 : Int32} : F_X11_feed_36 G 0 h nx l0 l1 l4 = none := rfl
theorem F_X11_feed_36_s {G : Gx} {n : Nat} {h : Hp} {nx : Nat} {l0 : Nat} {l1 : Int64} {l4 : Int32} : F_X11_feed_36 G (n + 1) h nx l0 l1 l4 = (
if l4 < 0 then
gfR h l0 [11] 0 (fun v1 =>
nn v1 (fun p2 =>
gfI h p2 [0] 1 (fun v3 =>
some (v3, h, nx))))
else
gfR h l0 [11] 0 (fun v4 =>
nn v4 (fun p5 =>
gfR h p5 [0] 0 (fun v6 =>
gfR h l0 [11] 0 (fun v7 =>
nn v7 (fun p8 =>
gfI h p8 [0] 1 (fun v9 =>
nn v6 (fun p10 =>
asI (g_c G 2) (vp_nar .byte) h p10 v9 ((((l1.toUInt64 >>> ((((nI 8) * l4)).toInt64.toUInt64 &&& Int64.toUInt64 63)).toInt64).toInt32).toInt8.toInt32) (fun h11 =>
gfR h11 l0 [11] 0 (fun v12 =>
nn v12 (fun p13 =>
gfI h11 p13 [0] 1 (fun v14 =>
pfV h11 p13 [0] 1 (.int ((v14 + (nI 1)))) (fun h15 =>
nm (l4 + (-1 : Int32)) (fun v16 =>
((F_X11_feed_36 G n) h15 nx l0 l1 v16))))))))))))))) := rfl
set_option maxRecDepth 100000 in
set_option maxHeartbeats 4000000 in
theorem k_X11_feed_36 {G : Gx} {d : Nat} {v' : Int32} {h' : Hp} {n' : Nat} : ∀ (n : Nat) {h : Hp} {nx : Nat} {l0 : Nat} {l1 : Int64} {l4 : Int32}, F_X11_feed_36 G n h nx l0 l1 l4 = some (v', h', n') → Ok G mX11_feed (d + 0) (Same (some (.int v')) h' n') 36 [some (.ref l0), some (.long l1), none, none, some (.int l4)] [] h nx 0 0 := by
  intro n
  induction n with
  | zero =>
    intro h nx l0 l1 l4 e
    rw [F_X11_feed_36_0] at e
    cases e
  | succ n K36 =>
    intro h nx l0 l1 l4 e
    rw [F_X11_feed_36_s] at e
    refine Ok.iload dX11_feed_36 rfl ?_
    refine X.if_lt (tgt := 84) dX11_feed_38 (by decide) e (fun e1 => ?_) (fun e1 => ?_)
    · clear e
      refine Ok.aload_n dX11_feed_84 rfl ?_
      refine X.rgfR fl_RX11_14 dX11_feed_85 e1 (fun v1 e2 => ?_)
      clear e1
      refine X.rnn e2 (fun p2 q e3 => ?_)
      clear e2
      subst q
      refine X.rgfI fl_RX11_50 dX11_feed_88 e3 (fun v3 e4 => ?_)
      clear e3
      exact X.iret dX11_feed_91 rfl (Nat.le_of_ble_eq_true rfl) (Nat.le_of_ble_eq_true rfl) e4
    · clear e
      refine Ok.aload_n dX11_feed_41 rfl ?_
      refine X.rgfR fl_RX11_14 dX11_feed_42 e1 (fun v4 e2 => ?_)
      clear e1
      refine X.rnn e2 (fun p5 q e3 => ?_)
      clear e2
      subst q
      refine X.rgfR fl_RX11_54 dX11_feed_45 e3 (fun v6 e4 => ?_)
      clear e3
      refine Ok.aload_n dX11_feed_48 rfl ?_
      refine X.rgfR fl_RX11_14 dX11_feed_49 e4 (fun v7 e5 => ?_)
      clear e4
      refine X.rnn e5 (fun p8 q e6 => ?_)
      clear e5
      subst q
      refine X.rgfI fl_RX11_50 dX11_feed_52 e6 (fun v9 e7 => ?_)
      clear e6
      refine Ok.lload_n dX11_feed_55 rfl ?_
      refine Ok.bipushV (v := (nI 8)) dX11_feed_56 (by decide +kernel) ?_
      refine Ok.iload dX11_feed_58 rfl ?_
      refine Ok.imul dX11_feed_60 ?_
      refine Ok.lushr dX11_feed_61 ?_
      refine Ok.l2i dX11_feed_62 ?_
      refine Ok.i2b dX11_feed_63 ?_
      refine X.rnn e7 (fun p10 q e8 => ?_)
      clear e7
      subst q
      refine X.bast dX11_feed_64 e8 (fun h11 e9 => ?_)
      clear e8
      refine Ok.aload_n dX11_feed_65 rfl ?_
      refine X.rgfR fl_RX11_14 dX11_feed_66 e9 (fun v12 e10 => ?_)
      clear e9
      refine Ok.dup dX11_feed_69 (va_rf_cat _) ?_
      refine X.rnn e10 (fun p13 q e11 => ?_)
      clear e10
      subst q
      refine X.rgfI fl_RX11_50 dX11_feed_70 e11 (fun v14 e12 => ?_)
      clear e11
      refine Ok.iconstV (v := (nI 1)) dX11_feed_73 (by decide +kernel) ?_
      refine Ok.iadd dX11_feed_74 ?_
      refine X.rpfV (v := (.int ((v14 + (nI 1))))) fp_RX11_50 rfl rfl dX11_feed_75 e12 (fun h15 e13 => ?_)
      clear e12
      refine X.iinc dX11_feed_78 rfl (by decide) (by decide +kernel) e13 (L := fun v16 => [some (.ref l0), some (.long l1), none, none, some (.int v16)]) (fun _ => rfl) (fun v16 e14 => ?_)
      clear e13
      refine Ok.goto (tgt := 36) dX11_feed_81 (by decide) ?_
      exact Ok.weakL (K36 e14) ⟨rfl, ⟨rfl, ⟨rfl, trivial⟩⟩⟩
noncomputable def F_X11_feed (G : Gx) (h : Hp) (nx : Nat) (a0 : Nat) (a1 : Int64) (a2 : Int32) : Rz Int32 :=
if a2 < (nI 1) then
(F_X11_feed_11 G h nx)
else
if a2 ≤ (nI 8) then
gfR h a0 [11] 0 (fun v1 =>
nn v1 (fun p2 =>
gfI h p2 [0] 1 (fun v3 =>
if ((v3 + a2)) ≤ (nI 120) then
nm ((a2 - (nI 1))) (fun v4 =>
(F_X11_feed_36 G fuelL h nx a0 a1 v4))
else
some ((-4 : Int32), h, nx))))
else
(F_X11_feed_11 G h nx)
set_option maxRecDepth 100000 in
set_option maxHeartbeats 4000000 in
theorem k_X11_feed {G : Gx} {d : Nat} {h : Hp} {nx : Nat} {a0 : Nat} {a1 : Int64} {a2 : Int32} {v' : Int32} {h' : Hp} {n' : Nat} (e : F_X11_feed G h nx a0 a1 a2 = some (v', h', n')) : Ct G mX11_feed (d + 0) (Same (some (.int v')) h' n') [.ref a0, .long a1, .int a2] h nx := by
  unfold F_X11_feed at e
  refine Ct.of (ls := [some (.ref a0), some (.long a1), none, some (.int a2), none]) (by decide +kernel) rfl (Nat.le_of_ble_eq_true rfl) rfl ?_
  refine Ok.iload_n dX11_feed_0 rfl ?_
  refine Ok.iconstV (v := (nI 1)) dX11_feed_1 (by decide +kernel) ?_
  refine X.icmp_lt (tgt := 11) dX11_feed_2 (by decide) e (fun e1 => ?_) (fun e1 => ?_)
  · clear e
    exact Ok.weakL (k_X11_feed_11 (d := d) e1) trivial
  · clear e
    refine Ok.iload_n dX11_feed_5 rfl ?_
    refine Ok.bipushV (v := (nI 8)) dX11_feed_6 (by decide +kernel) ?_
    refine X.icmp_le (tgt := 14) dX11_feed_8 (by decide) e1 (fun e2 => ?_) (fun e2 => ?_)
    · clear e1
      refine Ok.aload_n dX11_feed_14 rfl ?_
      refine X.rgfR fl_RX11_14 dX11_feed_15 e2 (fun v1 e3 => ?_)
      clear e2
      refine X.rnn e3 (fun p2 q e4 => ?_)
      clear e3
      subst q
      refine X.rgfI fl_RX11_50 dX11_feed_18 e4 (fun v3 e5 => ?_)
      clear e4
      refine Ok.iload_n dX11_feed_21 rfl ?_
      refine Ok.iadd dX11_feed_22 ?_
      refine Ok.bipushV (v := (nI 120)) dX11_feed_23 (by decide +kernel) ?_
      refine X.icmp_le (tgt := 31) dX11_feed_25 (by decide) e5 (fun e6 => ?_) (fun e6 => ?_)
      · clear e5
        refine Ok.iload_n dX11_feed_31 rfl ?_
        refine Ok.iconstV (v := (nI 1)) dX11_feed_32 (by decide +kernel) ?_
        refine Ok.isub dX11_feed_33 ?_
        refine X.istore dX11_feed_34 (by decide) e6 (L := fun v4 => [some (.ref a0), some (.long a1), none, some (.int a2), some (.int v4)]) (fun _ => rfl) (fun v4 e7 => ?_)
        clear e6
        exact Ok.weakL (k_X11_feed_36 (d := d) fuelL e7) ⟨rfl, ⟨rfl, ⟨rfl, trivial⟩⟩⟩
      · clear e5
        refine Ok.bipushV (v := (-4 : Int32)) dX11_feed_28 (by decide +kernel) ?_
        exact X.iret dX11_feed_30 rfl (Nat.le_of_ble_eq_true rfl) (Nat.le_of_ble_eq_true rfl) e6
    · clear e1
      exact Ok.weakL (k_X11_feed_11 (d := d) e2) trivial
noncomputable def F_X11_sort (G : Gx) (h : Hp) (nx : Nat) (a0 : Nat) : Rz Int32 :=
gfR h a0 [11] 0 (fun v1 =>
nn v1 (fun p2 =>
gfI h p2 [0] 3 (fun v3 =>
if v3 < (nI 6) then
nwO G h nx 7 [.null, .null, .int 0, .int 0, .null, .int 0, .null, .null, .null, .int 0] (fun p4 h5 n6 =>
gfR h5 a0 [11] 0 (fun v7 =>
nn v7 (fun p8 =>
gfR h5 p8 [0] 0 (fun v9 =>
gfR h5 a0 [11] 0 (fun v10 =>
nn v10 (fun p11 =>
gfI h5 p11 [0] 1 (fun v12 =>
nn v9 (fun p13 =>
cl (F_X7_init G h5 n6 p4 p13 v12) (fun _ h15 n16 =>
ck h15 p4 [7] (fun _ =>
cl (F_X7_readText G h15 n16 p4) (fun r17 h18 n19 =>
gfR h18 a0 [11] 0 (fun v20 =>
nn v20 (fun p21 =>
pfV h18 p21 [0] 1 (.int (nI 0)) (fun h22 =>
if r17 < 0 then
gfR h22 a0 [11] 0 (fun v23 =>
nn v23 (fun p24 =>
gfR h22 p24 [0] 2 (fun v25 =>
gfR h22 a0 [11] 0 (fun v26 =>
nn v26 (fun p27 =>
gfI h22 p27 [0] 3 (fun v28 =>
nn v25 (fun p29 =>
asR (g_c G 4) [7] h22 p29 v28 (some p4) (fun h30 =>
gfR h30 a0 [11] 0 (fun v31 =>
nn v31 (fun p32 =>
gfI h30 p32 [0] 3 (fun v33 =>
pfV h30 p32 [0] 3 (.int ((v33 + (nI 1)))) (fun h34 =>
gfR h34 a0 [11] 0 (fun v35 =>
nn v35 (fun p36 =>
gfI h34 p36 [0] 3 (fun v37 =>
some (((v37 - (nI 1))), h34, n19))))))))))))))))
else
some ((((-10 : Int32) - r17)), h22, n19)))))))))))))))
else
some ((-4 : Int32), h, nx))))
set_option maxRecDepth 100000 in
set_option maxHeartbeats 4000000 in
theorem k_X11_sort {G : Gx} {d : Nat} {h : Hp} {nx : Nat} {a0 : Nat} {v' : Int32} {h' : Hp} {n' : Nat} (e : F_X11_sort G h nx a0 = some (v', h', n')) : Ct G mX11_sort (d + 69) (Same (some (.int v')) h' n') [.ref a0] h nx := by
  unfold F_X11_sort at e
  refine Ct.of (ls := [some (.ref a0), none, none]) (by decide +kernel) rfl (Nat.le_of_ble_eq_true rfl) rfl ?_
  refine Ok.aload_n dX11_sort_0 rfl ?_
  refine X.rgfR fl_RX11_14 dX11_sort_1 e (fun v1 e1 => ?_)
  clear e
  refine X.rnn e1 (fun p2 q e2 => ?_)
  clear e1
  subst q
  refine X.rgfI fl_RX11_58 dX11_sort_4 e2 (fun v3 e3 => ?_)
  clear e2
  refine Ok.bipushV (v := (nI 6)) dX11_sort_7 (by decide +kernel) ?_
  refine X.icmp_lt (tgt := 15) dX11_sort_9 (by decide) e3 (fun e4 => ?_) (fun e4 => ?_)
  · clear e3
    refine X.rnwO (fs := [.null, .null, .int 0, .int 0, .null, .int 0, .null, .null, .null, .int 0]) dX11_sort_15 rfl inX7 tyX7 tyX7_ok wd326 wd327 wd81 (fun j hj => match j, hj with | 0, _ => rfl | 1, _ => rfl | 2, _ => rfl | 3, _ => rfl | 4, _ => rfl | 5, _ => rfl | 6, _ => rfl | 7, _ => rfl | 8, _ => rfl | 9, _ => rfl | _ + 10, q => absurd q (by omega)) (Nat.le_of_ble_eq_true rfl) (Nat.le_of_ble_eq_true rfl) e4 (fun p4 h5 n6 e5 => ?_)
    clear e4
    refine Ok.mono (kc' := 1) (ks' := 10) ?_ (by decide) (by decide)
    refine Ok.dup dX11_sort_18 rfl ?_
    refine Ok.aload_n dX11_sort_19 rfl ?_
    refine X.rgfR fl_RX11_14 dX11_sort_20 e5 (fun v7 e6 => ?_)
    clear e5
    refine X.rnn e6 (fun p8 q e7 => ?_)
    clear e6
    subst q
    refine X.rgfR fl_RX11_54 dX11_sort_23 e7 (fun v9 e8 => ?_)
    clear e7
    refine Ok.aload_n dX11_sort_26 rfl ?_
    refine X.rgfR fl_RX11_14 dX11_sort_27 e8 (fun v10 e9 => ?_)
    clear e8
    refine X.rnn e9 (fun p11 q e10 => ?_)
    clear e9
    subst q
    refine X.rgfI fl_RX11_50 dX11_sort_30 e10 (fun v12 e11 => ?_)
    clear e10
    refine X.rnn e11 (fun p13 q e12 => ?_)
    clear e11
    subst q
    refine X.callI (My := mX7_init) (n := 2) (As := [.ref p13, .int v12]) (T := (fun v => none)) (stk' := (fun _ => [.ref p4])) (rest := [.ref p4]) (kc' := 8) (ks' := 406) dX11_sort_33 e12 (fun v h n e => k_X7_init (d := d + 67) e) rfl wd330 wd81 wd329 rfl wd328 (by decide +kernel) rfl (by decide) rfl rfl (Nat.le_of_ble_eq_true rfl) (Nat.le_of_ble_eq_true rfl) (Nat.le_of_ble_eq_true rfl) rfl rfl (fun _ => rfl) (fun _ h15 n16 e13 => ?_)
    clear e12
    refine XL.astore_n dX11_sort_36 (by decide) (L := [some (.ref a0), some (.ref p4), none]) rfl ?_
    refine Ok.aload_n dX11_sort_37 rfl ?_
    refine X.rck e13 (fun c fs hb hc e14 => ?_)
    clear e13
    obtain rfl := List.mem_singleton.mp hc
    refine X.callV (My := mX7_readText) (n := 0) (As := []) (T := (fun v => (some (.int v)))) (stk' := (fun v => [.int v])) (rest := []) (kc' := 8) (ks' := 406) dX11_sort_38 e14 (fun v h n e => k_X7_readText (d := d + 0) e) hb rfl wd384 wd81 wd382 wd383 wd381 (by decide +kernel) rfl (by decide) rfl rfl (Nat.le_of_ble_eq_true rfl) (Nat.le_of_ble_eq_true rfl) (Nat.le_of_ble_eq_true rfl) rfl rfl (fun _ => rfl) (fun r17 h18 n19 e15 => ?_)
    clear e14
    refine XL.istore_n dX11_sort_41 (by decide) (L := [some (.ref a0), some (.ref p4), some (.int r17)]) rfl ?_
    refine Ok.aload_n dX11_sort_42 rfl ?_
    refine X.rgfR fl_RX11_14 dX11_sort_43 e15 (fun v20 e16 => ?_)
    clear e15
    refine Ok.iconstV (v := (nI 0)) dX11_sort_46 (by decide +kernel) ?_
    refine X.rnn e16 (fun p21 q e17 => ?_)
    clear e16
    subst q
    refine X.rpfV (v := (.int (nI 0))) fp_RX11_50 rfl rfl dX11_sort_47 e17 (fun h22 e18 => ?_)
    clear e17
    refine Ok.iload_n dX11_sort_50 rfl ?_
    refine X.if_lt (tgt := 59) dX11_sort_51 (by decide) e18 (fun e19 => ?_) (fun e19 => ?_)
    · clear e18
      refine Ok.aload_n dX11_sort_59 rfl ?_
      refine X.rgfR fl_RX11_14 dX11_sort_60 e19 (fun v23 e20 => ?_)
      clear e19
      refine X.rnn e20 (fun p24 q e21 => ?_)
      clear e20
      subst q
      refine X.rgfR fl_RX11_70 dX11_sort_63 e21 (fun v25 e22 => ?_)
      clear e21
      refine Ok.aload_n dX11_sort_66 rfl ?_
      refine X.rgfR fl_RX11_14 dX11_sort_67 e22 (fun v26 e23 => ?_)
      clear e22
      refine X.rnn e23 (fun p27 q e24 => ?_)
      clear e23
      subst q
      refine X.rgfI fl_RX11_58 dX11_sort_70 e24 (fun v28 e25 => ?_)
      clear e24
      refine Ok.aload_n dX11_sort_73 rfl ?_
      refine X.rnn e25 (fun p29 q e26 => ?_)
      clear e25
      subst q
      refine X.sast (r := (some p4)) dX11_sort_74 cs_sort e26 (fun h30 e27 => ?_)
      clear e26
      refine Ok.aload_n dX11_sort_75 rfl ?_
      refine X.rgfR fl_RX11_14 dX11_sort_76 e27 (fun v31 e28 => ?_)
      clear e27
      refine Ok.dup dX11_sort_79 (va_rf_cat _) ?_
      refine X.rnn e28 (fun p32 q e29 => ?_)
      clear e28
      subst q
      refine X.rgfI fl_RX11_58 dX11_sort_80 e29 (fun v33 e30 => ?_)
      clear e29
      refine Ok.iconstV (v := (nI 1)) dX11_sort_83 (by decide +kernel) ?_
      refine Ok.iadd dX11_sort_84 ?_
      refine X.rpfV (v := (.int ((v33 + (nI 1))))) fp_RX11_58 rfl rfl dX11_sort_85 e30 (fun h34 e31 => ?_)
      clear e30
      refine Ok.aload_n dX11_sort_88 rfl ?_
      refine X.rgfR fl_RX11_14 dX11_sort_89 e31 (fun v35 e32 => ?_)
      clear e31
      refine X.rnn e32 (fun p36 q e33 => ?_)
      clear e32
      subst q
      refine X.rgfI fl_RX11_58 dX11_sort_92 e33 (fun v37 e34 => ?_)
      clear e33
      refine Ok.iconstV (v := (nI 1)) dX11_sort_95 (by decide +kernel) ?_
      refine Ok.isub dX11_sort_96 ?_
      exact X.iret dX11_sort_97 rfl (Nat.le_of_ble_eq_true rfl) (Nat.le_of_ble_eq_true rfl) e34
    · clear e18
      refine Ok.bipushV (v := (-10 : Int32)) dX11_sort_54 (by decide +kernel) ?_
      refine Ok.iload_n dX11_sort_56 rfl ?_
      refine Ok.isub dX11_sort_57 ?_
      exact X.iret dX11_sort_58 rfl (Nat.le_of_ble_eq_true rfl) (Nat.le_of_ble_eq_true rfl) e19
  · clear e3
    refine Ok.bipushV (v := (-4 : Int32)) dX11_sort_12 (by decide +kernel) ?_
    exact X.iret dX11_sort_14 rfl (Nat.le_of_ble_eq_true rfl) (Nat.le_of_ble_eq_true rfl) e4
noncomputable def F_X11_within_15 (G : Gx) (h : Hp) (nx : Nat) (s0 : Int32) : Rz Int32 :=
zk s0 (some (s0, h, nx))
set_option maxRecDepth 100000 in
set_option maxHeartbeats 4000000 in
theorem k_X11_within_15 {G : Gx} {d : Nat} {v' : Int32} {h' : Hp} {n' : Nat} {h : Hp} {nx : Nat} {s0 : Int32} (e : F_X11_within_15 G h nx s0 = some (v', h', n')) : Ok G mX11_within (d + 0) (Same (some (.int v')) h' n') 15 [none, none, none] [.int s0] h nx 0 0 := by
  unfold F_X11_within_15 at e
  exact X.zret dX11_within_15 rfl (Nat.le_of_ble_eq_true rfl) (Nat.le_of_ble_eq_true rfl) e
noncomputable def F_X11_within_14 (G : Gx) (h : Hp) (nx : Nat) : Rz Int32 :=
(F_X11_within_15 G h nx (nI 0))
set_option maxRecDepth 100000 in
set_option maxHeartbeats 4000000 in
theorem k_X11_within_14 {G : Gx} {d : Nat} {v' : Int32} {h' : Hp} {n' : Nat} {h : Hp} {nx : Nat} (e : F_X11_within_14 G h nx = some (v', h', n')) : Ok G mX11_within (d + 0) (Same (some (.int v')) h' n') 14 [none, none, none] [] h nx 0 0 := by
  unfold F_X11_within_14 at e
  refine Ok.iconstV (v := (nI 0)) dX11_within_14 (by decide +kernel) ?_
  exact Ok.weakL (k_X11_within_15 (d := d) e) trivial
noncomputable def F_X11_within (G : Gx) (h : Hp) (nx : Nat) (a0 : Int32) (a1 : Int32) (a2 : Int32) : Rz Int32 :=
if a0 < a1 then
(F_X11_within_14 G h nx)
else
if a2 < a0 then
(F_X11_within_14 G h nx)
else
(F_X11_within_15 G h nx (nI 1))
set_option maxRecDepth 100000 in
set_option maxHeartbeats 4000000 in
theorem k_X11_within {G : Gx} {d : Nat} {h : Hp} {nx : Nat} {a0 : Int32} {a1 : Int32} {a2 : Int32} {v' : Int32} {h' : Hp} {n' : Nat} (e : F_X11_within G h nx a0 a1 a2 = some (v', h', n')) : Ct G mX11_within (d + 0) (Same (some (.int v')) h' n') [.int a0, .int a1, .int a2] h nx := by
  unfold F_X11_within at e
  refine Ct.of (ls := [some (.int a0), some (.int a1), some (.int a2)]) (by decide +kernel) rfl (Nat.le_of_ble_eq_true rfl) rfl ?_
  refine Ok.iload_n dX11_within_0 rfl ?_
  refine Ok.iload_n dX11_within_1 rfl ?_
  refine X.icmp_lt (tgt := 14) dX11_within_2 (by decide) e (fun e1 => ?_) (fun e1 => ?_)
  · clear e
    exact Ok.weakL (k_X11_within_14 (d := d) e1) trivial
  · clear e
    refine Ok.iload_n dX11_within_5 rfl ?_
    refine Ok.iload_n dX11_within_6 rfl ?_
    refine X.icmp_gt (tgt := 14) dX11_within_7 (by decide) e1 (fun e2 => ?_) (fun e2 => ?_)
    · clear e1
      exact Ok.weakL (k_X11_within_14 (d := d) e2) trivial
    · clear e1
      refine Ok.iconstV (v := (nI 1)) dX11_within_10 (by decide +kernel) ?_
      refine Ok.goto (tgt := 15) dX11_within_11 (by decide) ?_
      exact Ok.weakL (k_X11_within_15 (d := d) e2) trivial
noncomputable def F_X11_told_27 (G : Gx) (h : Hp) (nx : Nat) : Rz Int32 :=
some ((-1 : Int32), h, nx)
set_option maxRecDepth 100000 in
set_option maxHeartbeats 4000000 in
theorem k_X11_told_27 {G : Gx} {d : Nat} {v' : Int32} {h' : Hp} {n' : Nat} {h : Hp} {nx : Nat} (e : F_X11_told_27 G h nx = some (v', h', n')) : Ok G mX11_told (d + 2) (Same (some (.int v')) h' n') 27 [none, none, none, none, none, none] [] h nx 0 0 := by
  unfold F_X11_told_27 at e
  refine Ok.iconstV (v := (-1 : Int32)) dX11_told_27 (by decide +kernel) ?_
  exact X.iret dX11_told_28 rfl (Nat.le_of_ble_eq_true rfl) (Nat.le_of_ble_eq_true rfl) e
noncomputable def F_X11_told_50 (G : Gx) (h : Hp) (nx : Nat) : Rz Int32 :=
some ((-2 : Int32), h, nx)
set_option maxRecDepth 100000 in
set_option maxHeartbeats 4000000 in
theorem k_X11_told_50 {G : Gx} {d : Nat} {v' : Int32} {h' : Hp} {n' : Nat} {h : Hp} {nx : Nat} (e : F_X11_told_50 G h nx = some (v', h', n')) : Ok G mX11_told (d + 2) (Same (some (.int v')) h' n') 50 [none, none, none, none, none, none] [] h nx 0 0 := by
  unfold F_X11_told_50 at e
  refine Ok.bipushV (v := (-2 : Int32)) dX11_told_50 (by decide +kernel) ?_
  exact X.iret dX11_told_52 rfl (Nat.le_of_ble_eq_true rfl) (Nat.le_of_ble_eq_true rfl) e
noncomputable def F_X11_told_95 (G : Gx) (h : Hp) (nx : Nat) (s0 : Int32) : Rz Int32 :=
some (s0, h, nx)
set_option maxRecDepth 100000 in
set_option maxHeartbeats 4000000 in
theorem k_X11_told_95 {G : Gx} {d : Nat} {v' : Int32} {h' : Hp} {n' : Nat} {h : Hp} {nx : Nat} {s0 : Int32} (e : F_X11_told_95 G h nx s0 = some (v', h', n')) : Ok G mX11_told (d + 2) (Same (some (.int v')) h' n') 95 [none, none, none, none, none, none] [.int s0] h nx 0 0 := by
  unfold F_X11_told_95 at e
  exact X.iret dX11_told_95 rfl (Nat.le_of_ble_eq_true rfl) (Nat.le_of_ble_eq_true rfl) e
noncomputable def F_X11_told_75 (G : Gx) (h : Hp) (nx : Nat) (l2 : Int32) (l3 : Int32) (l4 : Int32) (l5 : Option Nat) : Rz Int32 :=
nn l5 (fun p1 =>
ck h p1 [7] (fun _ =>
cl (F_X7_chance G h nx p1 l4 l2 l3) (fun r2 h3 n4 =>
(F_X11_told_95 G h3 n4 r2))))
set_option maxRecDepth 100000 in
set_option maxHeartbeats 4000000 in
theorem k_X11_told_75 {G : Gx} {d : Nat} {v' : Int32} {h' : Hp} {n' : Nat} {h : Hp} {nx : Nat} {l2 : Int32} {l3 : Int32} {l4 : Int32} {l5 : Option Nat} (e : F_X11_told_75 G h nx l2 l3 l4 l5 = some (v', h', n')) : Ok G mX11_told (d + 2) (Same (some (.int v')) h' n') 75 [none, none, some (.int l2), some (.int l3), some (.int l4), some (va_rf l5)] [] h nx 0 0 := by
  unfold F_X11_told_75 at e
  refine Ok.aloadQ dX11_told_75 rfl ?_
  refine Ok.iload dX11_told_77 rfl ?_
  refine Ok.iload_n dX11_told_79 rfl ?_
  refine Ok.iload_n dX11_told_80 rfl ?_
  refine X.rnn e (fun p1 q e1 => ?_)
  clear e
  subst q
  refine X.rck e1 (fun c fs hb hc e2 => ?_)
  clear e1
  obtain rfl := List.mem_singleton.mp hc
  refine X.callV (My := mX7_chance) (n := 3) (As := [.int l4, .int l2, .int l3]) (T := (fun v => (some (.int v)))) (stk' := (fun v => [.int v])) (rest := []) (kc' := 0) (ks' := 0) dX11_told_81 e2 (fun v h n e => k_X7_chance (d := d + 0) e) hb rfl wd499 wd81 wd497 wd498 wd496 (by decide +kernel) rfl (by decide) rfl rfl (Nat.le_of_ble_eq_true rfl) (Nat.le_of_ble_eq_true rfl) (Nat.le_of_ble_eq_true rfl) rfl rfl (fun _ => rfl) (fun r2 h3 n4 e3 => ?_)
  clear e2
  refine Ok.goto (tgt := 95) dX11_told_84 (by decide) ?_
  exact Ok.weakL (k_X11_told_95 (d := d) e3) trivial
noncomputable def F_X11_told (G : Gx) (h : Hp) (nx : Nat) (a0 : Nat) (a1 : Int32) (a2 : Int32) (a3 : Int32) (a4 : Int32) : Rz Int32 :=
gfR h a0 [11] 0 (fun v1 =>
nn v1 (fun p2 =>
gfI h p2 [0] 3 (fun v3 =>
cl (F_X11_within G h nx a1 (nI 0) ((v3 - (nI 1)))) (fun r4 h5 n6 =>
if r4 = 0 then
(F_X11_told_27 G h5 n6)
else
cl (F_X11_within G h5 n6 a4 (nI 0) (nI 5)) (fun r7 h8 n9 =>
if r7 = 0 then
(F_X11_told_27 G h8 n9)
else
cl (F_X11_within G h8 n9 a2 (nI 0) (nI 999)) (fun r10 h11 n12 =>
if r10 = 0 then
(F_X11_told_50 G h11 n12)
else
cl (F_X11_within G h11 n12 a3 (nI 0) (nI 99)) (fun r13 h14 n15 =>
if r13 = 0 then
(F_X11_told_50 G h14 n15)
else
gfR h14 a0 [11] 0 (fun v16 =>
nn v16 (fun p17 =>
gfR h14 p17 [0] 2 (fun v18 =>
nn v18 (fun p19 =>
alR (g_c G 4) h14 p19 a1 (fun v20 =>
if a4 = 0 then
(F_X11_told_75 G h14 n15 a2 a3 a4 v20)
else
if a4 = (nI 1) then
(F_X11_told_75 G h14 n15 a2 a3 a4 v20)
else
nn v20 (fun p21 =>
gfR h14 p21 [7] 0 (fun v22 =>
nn v22 (fun p23 =>
alI (g_c G 0) h14 p23 a4 (fun v24 =>
(F_X11_told_95 G h14 n15 v24)))))))))))))))))
set_option maxRecDepth 100000 in
set_option maxHeartbeats 4000000 in
theorem k_X11_told {G : Gx} {d : Nat} {h : Hp} {nx : Nat} {a0 : Nat} {a1 : Int32} {a2 : Int32} {a3 : Int32} {a4 : Int32} {v' : Int32} {h' : Hp} {n' : Nat} (e : F_X11_told G h nx a0 a1 a2 a3 a4 = some (v', h', n')) : Ct G mX11_told (d + 2) (Same (some (.int v')) h' n') [.ref a0, .int a1, .int a2, .int a3, .int a4] h nx := by
  unfold F_X11_told at e
  refine Ct.of (ls := [some (.ref a0), some (.int a1), some (.int a2), some (.int a3), some (.int a4), none]) (by decide +kernel) rfl (Nat.le_of_ble_eq_true rfl) rfl ?_
  refine Ok.iload_n dX11_told_0 rfl ?_
  refine Ok.iconstV (v := (nI 0)) dX11_told_1 (by decide +kernel) ?_
  refine Ok.aload_n dX11_told_2 rfl ?_
  refine X.rgfR fl_RX11_14 dX11_told_3 e (fun v1 e1 => ?_)
  clear e
  refine X.rnn e1 (fun p2 q e2 => ?_)
  clear e1
  subst q
  refine X.rgfI fl_RX11_58 dX11_told_6 e2 (fun v3 e3 => ?_)
  clear e2
  refine Ok.iconstV (v := (nI 1)) dX11_told_9 (by decide +kernel) ?_
  refine Ok.isub dX11_told_10 ?_
  refine X.callS (My := mX11_within) (n := 3) (As := [.int a1, .int (nI 0), .int ((v3 - (nI 1)))]) (T := (fun v => (some (.int v)))) (stk' := (fun v => [.int v])) (rest := []) (kc' := 0) (ks' := 0) dX11_told_11 e3 (fun v h n e => k_X11_within (d := d + 1) e) wd495 wd76 wd494 wd493 (by decide +kernel) rfl (by decide) rfl rfl (Nat.le_of_ble_eq_true rfl) (Nat.le_of_ble_eq_true rfl) (Nat.le_of_ble_eq_true rfl) rfl rfl (fun _ => rfl) (fun r4 h5 n6 e4 => ?_)
  clear e3
  refine X.if_eq (tgt := 27) dX11_told_14 (by decide) e4 (fun e5 => ?_) (fun e5 => ?_)
  · clear e4
    exact Ok.weakL (k_X11_told_27 (d := d) e5) trivial
  · clear e4
    refine Ok.iload dX11_told_17 rfl ?_
    refine Ok.iconstV (v := (nI 0)) dX11_told_19 (by decide +kernel) ?_
    refine Ok.iconstV (v := (nI 5)) dX11_told_20 (by decide +kernel) ?_
    refine X.callS (My := mX11_within) (n := 3) (As := [.int a4, .int (nI 0), .int (nI 5)]) (T := (fun v => (some (.int v)))) (stk' := (fun v => [.int v])) (rest := []) (kc' := 0) (ks' := 0) dX11_told_21 e5 (fun v h n e => k_X11_within (d := d + 1) e) wd495 wd76 wd494 wd493 (by decide +kernel) rfl (by decide) rfl rfl (Nat.le_of_ble_eq_true rfl) (Nat.le_of_ble_eq_true rfl) (Nat.le_of_ble_eq_true rfl) rfl rfl (fun _ => rfl) (fun r7 h8 n9 e6 => ?_)
    clear e5
    refine X.if_ne (tgt := 29) dX11_told_24 (by decide) e6 (fun e7 => ?_) (fun e7 => ?_)
    · clear e6
      refine Ok.iload_n dX11_told_29 rfl ?_
      refine Ok.iconstV (v := (nI 0)) dX11_told_30 (by decide +kernel) ?_
      refine Ok.sipushV (v := (nI 999)) dX11_told_31 (by decide +kernel) ?_
      refine X.callS (My := mX11_within) (n := 3) (As := [.int a2, .int (nI 0), .int (nI 999)]) (T := (fun v => (some (.int v)))) (stk' := (fun v => [.int v])) (rest := []) (kc' := 0) (ks' := 0) dX11_told_34 e7 (fun v h n e => k_X11_within (d := d + 1) e) wd495 wd76 wd494 wd493 (by decide +kernel) rfl (by decide) rfl rfl (Nat.le_of_ble_eq_true rfl) (Nat.le_of_ble_eq_true rfl) (Nat.le_of_ble_eq_true rfl) rfl rfl (fun _ => rfl) (fun r10 h11 n12 e8 => ?_)
      clear e7
      refine X.if_eq (tgt := 50) dX11_told_37 (by decide) e8 (fun e9 => ?_) (fun e9 => ?_)
      · clear e8
        exact Ok.weakL (k_X11_told_50 (d := d) e9) trivial
      · clear e8
        refine Ok.iload_n dX11_told_40 rfl ?_
        refine Ok.iconstV (v := (nI 0)) dX11_told_41 (by decide +kernel) ?_
        refine Ok.bipushV (v := (nI 99)) dX11_told_42 (by decide +kernel) ?_
        refine X.callS (My := mX11_within) (n := 3) (As := [.int a3, .int (nI 0), .int (nI 99)]) (T := (fun v => (some (.int v)))) (stk' := (fun v => [.int v])) (rest := []) (kc' := 0) (ks' := 0) dX11_told_44 e9 (fun v h n e => k_X11_within (d := d + 1) e) wd495 wd76 wd494 wd493 (by decide +kernel) rfl (by decide) rfl rfl (Nat.le_of_ble_eq_true rfl) (Nat.le_of_ble_eq_true rfl) (Nat.le_of_ble_eq_true rfl) rfl rfl (fun _ => rfl) (fun r13 h14 n15 e10 => ?_)
        clear e9
        refine X.if_ne (tgt := 53) dX11_told_47 (by decide) e10 (fun e11 => ?_) (fun e11 => ?_)
        · clear e10
          refine Ok.aload_n dX11_told_53 rfl ?_
          refine X.rgfR fl_RX11_14 dX11_told_54 e11 (fun v16 e12 => ?_)
          clear e11
          refine X.rnn e12 (fun p17 q e13 => ?_)
          clear e12
          subst q
          refine X.rgfR fl_RX11_70 dX11_told_57 e13 (fun v18 e14 => ?_)
          clear e13
          refine Ok.iload_n dX11_told_60 rfl ?_
          refine X.rnn e14 (fun p19 q e15 => ?_)
          clear e14
          subst q
          refine X.sald dX11_told_61 e15 (fun v20 e16 => ?_)
          clear e15
          refine XL.astoreQ (r := v20) dX11_told_62 (by decide) (L := [some (.ref a0), some (.int a1), some (.int a2), some (.int a3), some (.int a4), some (va_rf v20)]) rfl ?_
          refine Ok.iload dX11_told_64 rfl ?_
          refine X.if_eq (tgt := 75) dX11_told_66 (by decide) e16 (fun e17 => ?_) (fun e17 => ?_)
          · clear e16
            exact Ok.weakL (k_X11_told_75 (d := d) e17) ⟨rfl, ⟨rfl, ⟨rfl, ⟨rfl, trivial⟩⟩⟩⟩
          · clear e16
            refine Ok.iload dX11_told_69 rfl ?_
            refine Ok.iconstV (v := (nI 1)) dX11_told_71 (by decide +kernel) ?_
            refine X.icmp_ne (tgt := 87) dX11_told_72 (by decide) e17 (fun e18 => ?_) (fun e18 => ?_)
            · clear e17
              refine Ok.aloadQ dX11_told_87 rfl ?_
              refine X.rnn e18 (fun p21 q e19 => ?_)
              clear e18
              subst q
              refine X.rgfR fl_RX11_82 dX11_told_89 e19 (fun v22 e20 => ?_)
              clear e19
              refine Ok.iload dX11_told_92 rfl ?_
              refine X.rnn e20 (fun p23 q e21 => ?_)
              clear e20
              subst q
              refine X.iald dX11_told_94 e21 (fun v24 e22 => ?_)
              clear e21
              exact Ok.weakL (k_X11_told_95 (d := d) e22) trivial
            · clear e17
              exact Ok.weakL (k_X11_told_75 (d := d) e18) ⟨rfl, ⟨rfl, ⟨rfl, ⟨rfl, trivial⟩⟩⟩⟩
        · clear e10
          exact Ok.weakL (k_X11_told_50 (d := d) e11) trivial
    · clear e6
      exact Ok.weakL (k_X11_told_27 (d := d) e7) trivial
noncomputable def F_X11_thing (G : Gx) (h : Hp) (nx : Nat) (a0 : Nat) (a1 : Int32) (a2 : Int32) : Rz Int32 :=
gfR h a0 [11] 0 (fun v1 =>
nn v1 (fun p2 =>
gfI h p2 [0] 3 (fun v3 =>
cl (F_X11_within G h nx a1 (nI 0) ((v3 - (nI 1)))) (fun r4 h5 n6 =>
if r4 = 0 then
some ((-1 : Int32), h5, n6)
else
cl (F_X11_within G h5 n6 a2 (nI 0) (nI 99)) (fun r7 h8 n9 =>
if r7 = 0 then
some ((-2 : Int32), h8, n9)
else
gfR h8 a0 [11] 0 (fun v10 =>
nn v10 (fun p11 =>
gfI h8 p11 [0] 11 (fun v12 =>
if v12 < (nI 8) then
gfR h8 a0 [11] 0 (fun v13 =>
nn v13 (fun p14 =>
ck h8 p14 [0] (fun _ =>
cl (F_X0_addThing G h8 n9 p14 a1 a2) (fun r15 h16 n17 =>
some (r15, h16, n17)))))
else
some ((-4 : Int32), h8, n9)))))))))
set_option maxRecDepth 100000 in
set_option maxHeartbeats 4000000 in
theorem k_X11_thing {G : Gx} {d : Nat} {h : Hp} {nx : Nat} {a0 : Nat} {a1 : Int32} {a2 : Int32} {v' : Int32} {h' : Hp} {n' : Nat} (e : F_X11_thing G h nx a0 a1 a2 = some (v', h', n')) : Ct G mX11_thing (d + 1) (Same (some (.int v')) h' n') [.ref a0, .int a1, .int a2] h nx := by
  unfold F_X11_thing at e
  refine Ct.of (ls := [some (.ref a0), some (.int a1), some (.int a2)]) (by decide +kernel) rfl (Nat.le_of_ble_eq_true rfl) rfl ?_
  refine Ok.iload_n dX11_thing_0 rfl ?_
  refine Ok.iconstV (v := (nI 0)) dX11_thing_1 (by decide +kernel) ?_
  refine Ok.aload_n dX11_thing_2 rfl ?_
  refine X.rgfR fl_RX11_14 dX11_thing_3 e (fun v1 e1 => ?_)
  clear e
  refine X.rnn e1 (fun p2 q e2 => ?_)
  clear e1
  subst q
  refine X.rgfI fl_RX11_58 dX11_thing_6 e2 (fun v3 e3 => ?_)
  clear e2
  refine Ok.iconstV (v := (nI 1)) dX11_thing_9 (by decide +kernel) ?_
  refine Ok.isub dX11_thing_10 ?_
  refine X.callS (My := mX11_within) (n := 3) (As := [.int a1, .int (nI 0), .int ((v3 - (nI 1)))]) (T := (fun v => (some (.int v)))) (stk' := (fun v => [.int v])) (rest := []) (kc' := 0) (ks' := 0) dX11_thing_11 e3 (fun v h n e => k_X11_within (d := d + 0) e) wd495 wd76 wd494 wd493 (by decide +kernel) rfl (by decide) rfl rfl (Nat.le_of_ble_eq_true rfl) (Nat.le_of_ble_eq_true rfl) (Nat.le_of_ble_eq_true rfl) rfl rfl (fun _ => rfl) (fun r4 h5 n6 e4 => ?_)
  clear e3
  refine X.if_ne (tgt := 19) dX11_thing_14 (by decide) e4 (fun e5 => ?_) (fun e5 => ?_)
  · clear e4
    refine Ok.iload_n dX11_thing_19 rfl ?_
    refine Ok.iconstV (v := (nI 0)) dX11_thing_20 (by decide +kernel) ?_
    refine Ok.bipushV (v := (nI 99)) dX11_thing_21 (by decide +kernel) ?_
    refine X.callS (My := mX11_within) (n := 3) (As := [.int a2, .int (nI 0), .int (nI 99)]) (T := (fun v => (some (.int v)))) (stk' := (fun v => [.int v])) (rest := []) (kc' := 0) (ks' := 0) dX11_thing_23 e5 (fun v h n e => k_X11_within (d := d + 0) e) wd495 wd76 wd494 wd493 (by decide +kernel) rfl (by decide) rfl rfl (Nat.le_of_ble_eq_true rfl) (Nat.le_of_ble_eq_true rfl) (Nat.le_of_ble_eq_true rfl) rfl rfl (fun _ => rfl) (fun r7 h8 n9 e6 => ?_)
    clear e5
    refine X.if_ne (tgt := 32) dX11_thing_26 (by decide) e6 (fun e7 => ?_) (fun e7 => ?_)
    · clear e6
      refine Ok.aload_n dX11_thing_32 rfl ?_
      refine X.rgfR fl_RX11_14 dX11_thing_33 e7 (fun v10 e8 => ?_)
      clear e7
      refine X.rnn e8 (fun p11 q e9 => ?_)
      clear e8
      subst q
      refine X.rgfI fl_RX11_85 dX11_thing_36 e9 (fun v12 e10 => ?_)
      clear e9
      refine Ok.bipushV (v := (nI 8)) dX11_thing_39 (by decide +kernel) ?_
      refine X.icmp_lt (tgt := 47) dX11_thing_41 (by decide) e10 (fun e11 => ?_) (fun e11 => ?_)
      · clear e10
        refine Ok.aload_n dX11_thing_47 rfl ?_
        refine X.rgfR fl_RX11_14 dX11_thing_48 e11 (fun v13 e12 => ?_)
        clear e11
        refine Ok.iload_n dX11_thing_51 rfl ?_
        refine Ok.iload_n dX11_thing_52 rfl ?_
        refine X.rnn e12 (fun p14 q e13 => ?_)
        clear e12
        subst q
        refine X.rck e13 (fun c fs hb hc e14 => ?_)
        clear e13
        obtain rfl := List.mem_singleton.mp hc
        refine X.callV (My := mX0_addThing) (n := 2) (As := [.int a1, .int a2]) (T := (fun v => (some (.int v)))) (stk' := (fun v => [.int v])) (rest := []) (kc' := 0) (ks' := 0) dX11_thing_53 e14 (fun v h n e => k_X0_addThing (d := d + 0) e) hb rfl wd512 wd77 wd510 wd511 wd509 (by decide +kernel) rfl (by decide) rfl rfl (Nat.le_of_ble_eq_true rfl) (Nat.le_of_ble_eq_true rfl) (Nat.le_of_ble_eq_true rfl) rfl rfl (fun _ => rfl) (fun r15 h16 n17 e15 => ?_)
        clear e14
        exact X.iret dX11_thing_56 rfl (Nat.le_of_ble_eq_true rfl) (Nat.le_of_ble_eq_true rfl) e15
      · clear e10
        refine Ok.bipushV (v := (-4 : Int32)) dX11_thing_44 (by decide +kernel) ?_
        exact X.iret dX11_thing_46 rfl (Nat.le_of_ble_eq_true rfl) (Nat.le_of_ble_eq_true rfl) e11
    · clear e6
      refine Ok.bipushV (v := (-2 : Int32)) dX11_thing_29 (by decide +kernel) ?_
      exact X.iret dX11_thing_31 rfl (Nat.le_of_ble_eq_true rfl) (Nat.le_of_ble_eq_true rfl) e7
  · clear e4
    refine Ok.iconstV (v := (-1 : Int32)) dX11_thing_17 (by decide +kernel) ?_
    exact X.iret dX11_thing_18 rfl (Nat.le_of_ble_eq_true rfl) (Nat.le_of_ble_eq_true rfl) e5
noncomputable def F_X11_of (G : Gx) (h : Hp) (nx : Nat) (a0 : Nat) (a1 : Int32) (a2 : Int32) : Rz Int32 :=
gfR h a0 [11] 0 (fun v1 =>
nn v1 (fun p2 =>
ck h p2 [0] (fun _ =>
cl (F_X0_hasThing G h nx p2 a1) (fun r3 h4 n5 =>
if r3 = 0 then
some ((-1 : Int32), h4, n5)
else
if a2 = (nI 0) then
gfR h4 a0 [11] 0 (fun v6 =>
nn v6 (fun p7 =>
gfR h4 p7 [0] 4 (fun v8 =>
nn v8 (fun p9 =>
alI (g_c G 0) h4 p9 a1 (fun v10 =>
some (v10, h4, n5))))))
else
if a2 = (nI 1) then
gfR h4 a0 [11] 0 (fun v11 =>
nn v11 (fun p12 =>
gfR h4 p12 [0] 5 (fun v13 =>
nn v13 (fun p14 =>
alI (g_c G 0) h4 p14 a1 (fun v15 =>
some (v15, h4, n5))))))
else
if a2 = (nI 2) then
gfR h4 a0 [11] 0 (fun v16 =>
nn v16 (fun p17 =>
gfR h4 p17 [0] 6 (fun v18 =>
nn v18 (fun p19 =>
alI (g_c G 0) h4 p19 a1 (fun v20 =>
some (v20, h4, n5))))))
else
if a2 = (nI 3) then
gfR h4 a0 [11] 0 (fun v21 =>
nn v21 (fun p22 =>
gfR h4 p22 [0] 7 (fun v23 =>
nn v23 (fun p24 =>
alI (g_c G 0) h4 p24 a1 (fun v25 =>
some (v25, h4, n5))))))
else
if a2 = (nI 4) then
gfR h4 a0 [11] 0 (fun v26 =>
nn v26 (fun p27 =>
gfR h4 p27 [0] 8 (fun v28 =>
nn v28 (fun p29 =>
alI (g_c G 0) h4 p29 a1 (fun v30 =>
some (v30, h4, n5))))))
else
if a2 = (nI 5) then
gfR h4 a0 [11] 0 (fun v31 =>
nn v31 (fun p32 =>
gfR h4 p32 [0] 9 (fun v33 =>
nn v33 (fun p34 =>
alI (g_c G 0) h4 p34 a1 (fun v35 =>
some (v35, h4, n5))))))
else
some ((-1 : Int32), h4, n5)))))
set_option maxRecDepth 100000 in
set_option maxHeartbeats 4000000 in
theorem k_X11_of {G : Gx} {d : Nat} {h : Hp} {nx : Nat} {a0 : Nat} {a1 : Int32} {a2 : Int32} {v' : Int32} {h' : Hp} {n' : Nat} (e : F_X11_of G h nx a0 a1 a2 = some (v', h', n')) : Ct G mX11_of (d + 1) (Same (some (.int v')) h' n') [.ref a0, .int a1, .int a2] h nx := by
  unfold F_X11_of at e
  refine Ct.of (ls := [some (.ref a0), some (.int a1), some (.int a2)]) (by decide +kernel) rfl (Nat.le_of_ble_eq_true rfl) rfl ?_
  refine Ok.aload_n dX11_of_0 rfl ?_
  refine X.rgfR fl_RX11_14 dX11_of_1 e (fun v1 e1 => ?_)
  clear e
  refine Ok.iload_n dX11_of_4 rfl ?_
  refine X.rnn e1 (fun p2 q e2 => ?_)
  clear e1
  subst q
  refine X.rck e2 (fun c fs hb hc e3 => ?_)
  clear e2
  obtain rfl := List.mem_singleton.mp hc
  refine X.callV (My := mX0_hasThing) (n := 1) (As := [.int a1]) (T := (fun v => (some (.int v)))) (stk' := (fun v => [.int v])) (rest := []) (kc' := 0) (ks' := 0) dX11_of_5 e3 (fun v h n e => k_X0_hasThing (d := d + 0) e) hb rfl wd521 wd77 wd519 wd520 wd518 (by decide +kernel) rfl (by decide) rfl rfl (Nat.le_of_ble_eq_true rfl) (Nat.le_of_ble_eq_true rfl) (Nat.le_of_ble_eq_true rfl) rfl rfl (fun _ => rfl) (fun r3 h4 n5 e4 => ?_)
  clear e3
  refine X.if_ne (tgt := 13) dX11_of_8 (by decide) e4 (fun e5 => ?_) (fun e5 => ?_)
  · clear e4
    refine Ok.iload_n dX11_of_13 rfl ?_
    refine X.sw e5 (fun c0 e6 => ?_) (fun c0 e6 => ?_)
    · clear e5
      rw [c0]
      refine Ok.tableIn (off := 38) (tgt := 52) dX11_of_14 (by decide) (by decide) (by decide +kernel) (by decide) ?_
      refine Ok.aload_n dX11_of_52 rfl ?_
      refine X.rgfR fl_RX11_14 dX11_of_53 e6 (fun v6 e7 => ?_)
      clear e6
      refine X.rnn e7 (fun p7 q e8 => ?_)
      clear e7
      subst q
      refine X.rgfR fl_RX11_96 dX11_of_56 e8 (fun v8 e9 => ?_)
      clear e8
      refine Ok.iload_n dX11_of_59 rfl ?_
      refine X.rnn e9 (fun p9 q e10 => ?_)
      clear e9
      subst q
      refine X.iald dX11_of_60 e10 (fun v10 e11 => ?_)
      clear e10
      exact X.iret dX11_of_61 rfl (Nat.le_of_ble_eq_true rfl) (Nat.le_of_ble_eq_true rfl) e11
    refine X.sw e6 (fun c1 e7 => ?_) (fun c1 e7 => ?_)
    · clear e6
      rw [c1]
      refine Ok.tableIn (off := 48) (tgt := 62) dX11_of_14 (by decide) (by decide) (by decide +kernel) (by decide) ?_
      refine Ok.aload_n dX11_of_62 rfl ?_
      refine X.rgfR fl_RX11_14 dX11_of_63 e7 (fun v11 e8 => ?_)
      clear e7
      refine X.rnn e8 (fun p12 q e9 => ?_)
      clear e8
      subst q
      refine X.rgfR fl_RX11_99 dX11_of_66 e9 (fun v13 e10 => ?_)
      clear e9
      refine Ok.iload_n dX11_of_69 rfl ?_
      refine X.rnn e10 (fun p14 q e11 => ?_)
      clear e10
      subst q
      refine X.iald dX11_of_70 e11 (fun v15 e12 => ?_)
      clear e11
      exact X.iret dX11_of_71 rfl (Nat.le_of_ble_eq_true rfl) (Nat.le_of_ble_eq_true rfl) e12
    refine X.sw e7 (fun c2 e8 => ?_) (fun c2 e8 => ?_)
    · clear e7
      rw [c2]
      refine Ok.tableIn (off := 58) (tgt := 72) dX11_of_14 (by decide) (by decide) (by decide +kernel) (by decide) ?_
      refine Ok.aload_n dX11_of_72 rfl ?_
      refine X.rgfR fl_RX11_14 dX11_of_73 e8 (fun v16 e9 => ?_)
      clear e8
      refine X.rnn e9 (fun p17 q e10 => ?_)
      clear e9
      subst q
      refine X.rgfR fl_RX11_102 dX11_of_76 e10 (fun v18 e11 => ?_)
      clear e10
      refine Ok.iload_n dX11_of_79 rfl ?_
      refine X.rnn e11 (fun p19 q e12 => ?_)
      clear e11
      subst q
      refine X.iald dX11_of_80 e12 (fun v20 e13 => ?_)
      clear e12
      exact X.iret dX11_of_81 rfl (Nat.le_of_ble_eq_true rfl) (Nat.le_of_ble_eq_true rfl) e13
    refine X.sw e8 (fun c3 e9 => ?_) (fun c3 e9 => ?_)
    · clear e8
      rw [c3]
      refine Ok.tableIn (off := 68) (tgt := 82) dX11_of_14 (by decide) (by decide) (by decide +kernel) (by decide) ?_
      refine Ok.aload_n dX11_of_82 rfl ?_
      refine X.rgfR fl_RX11_14 dX11_of_83 e9 (fun v21 e10 => ?_)
      clear e9
      refine X.rnn e10 (fun p22 q e11 => ?_)
      clear e10
      subst q
      refine X.rgfR fl_RX11_105 dX11_of_86 e11 (fun v23 e12 => ?_)
      clear e11
      refine Ok.iload_n dX11_of_89 rfl ?_
      refine X.rnn e12 (fun p24 q e13 => ?_)
      clear e12
      subst q
      refine X.iald dX11_of_90 e13 (fun v25 e14 => ?_)
      clear e13
      exact X.iret dX11_of_91 rfl (Nat.le_of_ble_eq_true rfl) (Nat.le_of_ble_eq_true rfl) e14
    refine X.sw e9 (fun c4 e10 => ?_) (fun c4 e10 => ?_)
    · clear e9
      rw [c4]
      refine Ok.tableIn (off := 78) (tgt := 92) dX11_of_14 (by decide) (by decide) (by decide +kernel) (by decide) ?_
      refine Ok.aload_n dX11_of_92 rfl ?_
      refine X.rgfR fl_RX11_14 dX11_of_93 e10 (fun v26 e11 => ?_)
      clear e10
      refine X.rnn e11 (fun p27 q e12 => ?_)
      clear e11
      subst q
      refine X.rgfR fl_RX11_108 dX11_of_96 e12 (fun v28 e13 => ?_)
      clear e12
      refine Ok.iload_n dX11_of_99 rfl ?_
      refine X.rnn e13 (fun p29 q e14 => ?_)
      clear e13
      subst q
      refine X.iald dX11_of_100 e14 (fun v30 e15 => ?_)
      clear e14
      exact X.iret dX11_of_101 rfl (Nat.le_of_ble_eq_true rfl) (Nat.le_of_ble_eq_true rfl) e15
    refine X.sw e10 (fun c5 e11 => ?_) (fun c5 e11 => ?_)
    · clear e10
      rw [c5]
      refine Ok.tableIn (off := 88) (tgt := 102) dX11_of_14 (by decide) (by decide) (by decide +kernel) (by decide) ?_
      refine Ok.aload_n dX11_of_102 rfl ?_
      refine X.rgfR fl_RX11_14 dX11_of_103 e11 (fun v31 e12 => ?_)
      clear e11
      refine X.rnn e12 (fun p32 q e13 => ?_)
      clear e12
      subst q
      refine X.rgfR fl_RX11_111 dX11_of_106 e13 (fun v33 e14 => ?_)
      clear e13
      refine Ok.iload_n dX11_of_109 rfl ?_
      refine X.rnn e14 (fun p34 q e15 => ?_)
      clear e14
      subst q
      refine X.iald dX11_of_110 e15 (fun v35 e16 => ?_)
      clear e15
      exact X.iret dX11_of_111 rfl (Nat.le_of_ble_eq_true rfl) (Nat.le_of_ble_eq_true rfl) e16
    refine Ok.tableOut (tgt := 112) dX11_of_14 (sw_out 0 6 (fun i hi => match i, hi with | 0, _ => c0 | 1, _ => c1 | 2, _ => c2 | 3, _ => c3 | 4, _ => c4 | 5, _ => c5 | _ + 6, q => absurd q (by omega))) (by decide) ?_
    refine Ok.iconstV (v := (-1 : Int32)) dX11_of_112 (by decide +kernel) ?_
    exact X.iret dX11_of_113 rfl (Nat.le_of_ble_eq_true rfl) (Nat.le_of_ble_eq_true rfl) e11
  · clear e4
    refine Ok.iconstV (v := (-1 : Int32)) dX11_of_11 (by decide +kernel) ?_
    exact X.iret dX11_of_12 rfl (Nat.le_of_ble_eq_true rfl) (Nat.le_of_ble_eq_true rfl) e5
noncomputable def F_X11_days_25 (G : Gx) (h : Hp) (nx : Nat) : Rz Int32 :=
some ((-2 : Int32), h, nx)
set_option maxRecDepth 100000 in
set_option maxHeartbeats 4000000 in
theorem k_X11_days_25 {G : Gx} {d : Nat} {v' : Int32} {h' : Hp} {n' : Nat} {h : Hp} {nx : Nat} (e : F_X11_days_25 G h nx = some (v', h', n')) : Ok G mX11_days (d + 4) (Same (some (.int v')) h' n') 25 [none, none, none] [] h nx 0 0 := by
  unfold F_X11_days_25 at e
  refine Ok.bipushV (v := (-2 : Int32)) dX11_days_25 (by decide +kernel) ?_
  exact X.iret dX11_days_27 rfl (Nat.le_of_ble_eq_true rfl) (Nat.le_of_ble_eq_true rfl) e
noncomputable def F_X11_days_30 (G : Gx) : Nat → Hp → Nat → Nat → Int32 → Int32 → Rz Int32 := fun n => Nat.rec (motive := fun _ => Hp → Nat → Nat → Int32 → Int32 → Rz Int32) (fun _ _ _ _ _ => none) (fun _ k30 => fun h nx l0 l1 l2 =>
if l1 ≤ l2 then
gfR h l0 [11] 0 (fun v1 =>
nn v1 (fun p2 =>
gfI h p2 [0] 16 (fun v3 =>
some (v3, h, nx))))
else
gfR h l0 [11] 0 (fun v4 =>
nn v4 (fun p5 =>
ck h p5 [0] (fun _ =>
cl (F_X0_goOver G h nx p5) (fun _ h7 n8 =>
nm (l2 + (nI 1)) (fun v9 =>
(k30 h7 n8 l0 l1 v9))))))) n
theorem F_X11_days_30_0 {G : Gx} {h : Hp} {nx : Nat} {l0 : Nat} {l1 : Int32} {l2 : Int32} : F_X11_days_30 G 0 h nx l0 l1 l2 = none := rfl
theorem F_X11_days_30_s {G : Gx} {n : Nat} {h : Hp} {nx : Nat} {l0 : Nat} {l1 : Int32} {l2 : Int32} : F_X11_days_30 G (n + 1) h nx l0 l1 l2 = (
if l1 ≤ l2 then
gfR h l0 [11] 0 (fun v1 =>
nn v1 (fun p2 =>
gfI h p2 [0] 16 (fun v3 =>
some (v3, h, nx))))
else
gfR h l0 [11] 0 (fun v4 =>
nn v4 (fun p5 =>
ck h p5 [0] (fun _ =>
cl (F_X0_goOver G h nx p5) (fun _ h7 n8 =>
nm (l2 + (nI 1)) (fun v9 =>
((F_X11_days_30 G n) h7 n8 l0 l1 v9))))))) := rfl
set_option maxRecDepth 100000 in
set_option maxHeartbeats 4000000 in
theorem k_X11_days_30 {G : Gx} {d : Nat} {v' : Int32} {h' : Hp} {n' : Nat} : ∀ (n : Nat) {h : Hp} {nx : Nat} {l0 : Nat} {l1 : Int32} {l2 : Int32}, F_X11_days_30 G n h nx l0 l1 l2 = some (v', h', n') → Ok G mX11_days (d + 4) (Same (some (.int v')) h' n') 30 [some (.ref l0), some (.int l1), some (.int l2)] [] h nx 0 0 := by
  intro n
  induction n with
  | zero =>
    intro h nx l0 l1 l2 e
    rw [F_X11_days_30_0] at e
    cases e
  | succ n K30 =>
    intro h nx l0 l1 l2 e
    rw [F_X11_days_30_s] at e
    refine Ok.iload_n dX11_days_30 rfl ?_
    refine Ok.iload_n dX11_days_31 rfl ?_
    refine X.icmp_ge (tgt := 48) dX11_days_32 (by decide) e (fun e1 => ?_) (fun e1 => ?_)
    · clear e
      refine Ok.aload_n dX11_days_48 rfl ?_
      refine X.rgfR fl_RX11_14 dX11_days_49 e1 (fun v1 e2 => ?_)
      clear e1
      refine X.rnn e2 (fun p2 q e3 => ?_)
      clear e2
      subst q
      refine X.rgfI fl_RX11_114 dX11_days_52 e3 (fun v3 e4 => ?_)
      clear e3
      exact X.iret dX11_days_55 rfl (Nat.le_of_ble_eq_true rfl) (Nat.le_of_ble_eq_true rfl) e4
    · clear e
      refine Ok.aload_n dX11_days_35 rfl ?_
      refine X.rgfR fl_RX11_14 dX11_days_36 e1 (fun v4 e2 => ?_)
      clear e1
      refine X.rnn e2 (fun p5 q e3 => ?_)
      clear e2
      subst q
      refine X.rck e3 (fun c fs hb hc e4 => ?_)
      clear e3
      obtain rfl := List.mem_singleton.mp hc
      refine X.callV (My := mX0_goOver) (n := 0) (As := []) (T := (fun v => none)) (stk' := (fun _ => [])) (rest := []) (kc' := 0) (ks' := 0) dX11_days_39 e4 (fun v h n e => k_X0_goOver (d := d + 0) e) hb rfl wd529 wd77 wd527 wd528 wd526 (by decide +kernel) rfl (by decide) rfl rfl (Nat.le_of_ble_eq_true rfl) (Nat.le_of_ble_eq_true rfl) (Nat.le_of_ble_eq_true rfl) rfl rfl (fun _ => rfl) (fun _ h7 n8 e5 => ?_)
      clear e4
      refine X.iinc dX11_days_42 rfl (by decide) (by decide +kernel) e5 (L := fun v9 => [some (.ref l0), some (.int l1), some (.int v9)]) (fun _ => rfl) (fun v9 e6 => ?_)
      clear e5
      refine Ok.goto (tgt := 30) dX11_days_45 (by decide) ?_
      exact Ok.weakL (K30 e6) ⟨rfl, ⟨rfl, ⟨rfl, trivial⟩⟩⟩
noncomputable def F_X11_days (G : Gx) (h : Hp) (nx : Nat) (a0 : Nat) (a1 : Int32) : Rz Int32 :=
cl (F_X11_within G h nx a1 (nI 1) (nI 20)) (fun r1 h2 n3 =>
if r1 = 0 then
(F_X11_days_25 G h2 n3)
else
gfR h2 a0 [11] 0 (fun v4 =>
nn v4 (fun p5 =>
gfI h2 p5 [0] 16 (fun v6 =>
if ((v6 + a1)) ≤ (nI 999) then
(F_X11_days_30 G fuelL h2 n3 a0 a1 (nI 0))
else
(F_X11_days_25 G h2 n3)))))
set_option maxRecDepth 100000 in
set_option maxHeartbeats 4000000 in
theorem k_X11_days {G : Gx} {d : Nat} {h : Hp} {nx : Nat} {a0 : Nat} {a1 : Int32} {v' : Int32} {h' : Hp} {n' : Nat} (e : F_X11_days G h nx a0 a1 = some (v', h', n')) : Ct G mX11_days (d + 4) (Same (some (.int v')) h' n') [.ref a0, .int a1] h nx := by
  unfold F_X11_days at e
  refine Ct.of (ls := [some (.ref a0), some (.int a1), none]) (by decide +kernel) rfl (Nat.le_of_ble_eq_true rfl) rfl ?_
  refine Ok.iload_n dX11_days_0 rfl ?_
  refine Ok.iconstV (v := (nI 1)) dX11_days_1 (by decide +kernel) ?_
  refine Ok.bipushV (v := (nI 20)) dX11_days_2 (by decide +kernel) ?_
  refine X.callS (My := mX11_within) (n := 3) (As := [.int a1, .int (nI 1), .int (nI 20)]) (T := (fun v => (some (.int v)))) (stk' := (fun v => [.int v])) (rest := []) (kc' := 0) (ks' := 0) dX11_days_4 e (fun v h n e => k_X11_within (d := d + 3) e) wd495 wd76 wd494 wd493 (by decide +kernel) rfl (by decide) rfl rfl (Nat.le_of_ble_eq_true rfl) (Nat.le_of_ble_eq_true rfl) (Nat.le_of_ble_eq_true rfl) rfl rfl (fun _ => rfl) (fun r1 h2 n3 e1 => ?_)
  clear e
  refine X.if_eq (tgt := 25) dX11_days_7 (by decide) e1 (fun e2 => ?_) (fun e2 => ?_)
  · clear e1
    exact Ok.weakL (k_X11_days_25 (d := d) e2) trivial
  · clear e1
    refine Ok.aload_n dX11_days_10 rfl ?_
    refine X.rgfR fl_RX11_14 dX11_days_11 e2 (fun v4 e3 => ?_)
    clear e2
    refine X.rnn e3 (fun p5 q e4 => ?_)
    clear e3
    subst q
    refine X.rgfI fl_RX11_114 dX11_days_14 e4 (fun v6 e5 => ?_)
    clear e4
    refine Ok.iload_n dX11_days_17 rfl ?_
    refine Ok.iadd dX11_days_18 ?_
    refine Ok.sipushV (v := (nI 999)) dX11_days_19 (by decide +kernel) ?_
    refine X.icmp_le (tgt := 28) dX11_days_22 (by decide) e5 (fun e6 => ?_) (fun e6 => ?_)
    · clear e5
      refine Ok.iconstV (v := (nI 0)) dX11_days_28 (by decide +kernel) ?_
      refine XL.istore_n dX11_days_29 (by decide) (L := [some (.ref a0), some (.int a1), some (.int (nI 0))]) rfl ?_
      exact Ok.weakL (k_X11_days_30 (d := d) fuelL e6) ⟨rfl, ⟨rfl, ⟨rfl, trivial⟩⟩⟩
    · clear e5
      exact Ok.weakL (k_X11_days_25 (d := d) e6) trivial
noncomputable def F_X11_seen_51 (G : Gx) (h : Hp) (nx : Nat) (s0 : Option Nat) (s1 : Int32) (s2 : Int32) (l0 : Nat) (l1 : Int32) (l3 : Int32) : Rz Int32 :=
nn s0 (fun p1 =>
asI (g_c G 0) id h p1 s1 s2 (fun h2 =>
gfR h2 l0 [11] 0 (fun v3 =>
nn v3 (fun p4 =>
gfR h2 p4 [0] 7 (fun v5 =>
nn v5 (fun p6 =>
asI (g_c G 0) id h2 p6 l1 (nI 0) (fun h7 =>
some (l3, h7, nx))))))))
set_option maxRecDepth 100000 in
set_option maxHeartbeats 4000000 in
theorem k_X11_seen_51 {G : Gx} {d : Nat} {v' : Int32} {h' : Hp} {n' : Nat} {h : Hp} {nx : Nat} {s0 : Option Nat} {s1 : Int32} {s2 : Int32} {l0 : Nat} {l1 : Int32} {l3 : Int32} (e : F_X11_seen_51 G h nx s0 s1 s2 l0 l1 l3 = some (v', h', n')) : Ok G mX11_seen (d + 1) (Same (some (.int v')) h' n') 51 [some (.ref l0), some (.int l1), none, some (.int l3)] [.int s2, .int s1, va_rf s0] h nx 0 0 := by
  unfold F_X11_seen_51 at e
  refine X.rnn e (fun p1 q e1 => ?_)
  clear e
  subst q
  refine X.iast dX11_seen_51 e1 (fun h2 e2 => ?_)
  clear e1
  refine Ok.aload_n dX11_seen_52 rfl ?_
  refine X.rgfR fl_RX11_14 dX11_seen_53 e2 (fun v3 e3 => ?_)
  clear e2
  refine X.rnn e3 (fun p4 q e4 => ?_)
  clear e3
  subst q
  refine X.rgfR fl_RX11_105 dX11_seen_56 e4 (fun v5 e5 => ?_)
  clear e4
  refine Ok.iload_n dX11_seen_59 rfl ?_
  refine Ok.iconstV (v := (nI 0)) dX11_seen_60 (by decide +kernel) ?_
  refine X.rnn e5 (fun p6 q e6 => ?_)
  clear e5
  subst q
  refine X.iast dX11_seen_61 e6 (fun h7 e7 => ?_)
  clear e6
  refine Ok.iload_n dX11_seen_62 rfl ?_
  exact X.iret dX11_seen_63 rfl (Nat.le_of_ble_eq_true rfl) (Nat.le_of_ble_eq_true rfl) e7
noncomputable def F_X11_seen (G : Gx) (h : Hp) (nx : Nat) (a0 : Nat) (a1 : Int32) (a2 : Int32) : Rz Int32 :=
gfR h a0 [11] 0 (fun v1 =>
nn v1 (fun p2 =>
ck h p2 [0] (fun _ =>
cl (F_X0_hasThing G h nx p2 a1) (fun r3 h4 n5 =>
if r3 = 0 then
some ((-1 : Int32), h4, n5)
else
gfR h4 a0 [11] 0 (fun v6 =>
nn v6 (fun p7 =>
gfR h4 p7 [0] 6 (fun v8 =>
nn v8 (fun p9 =>
alI (g_c G 0) h4 p9 a1 (fun v10 =>
gfR h4 a0 [11] 0 (fun v11 =>
nn v11 (fun p12 =>
gfR h4 p12 [0] 10 (fun v13 =>
nn v13 (fun p14 =>
asI (g_c G 3) (vp_nar .boolean) h4 p14 a1 a2 (fun h15 =>
gfR h15 a0 [11] 0 (fun v16 =>
nn v16 (fun p17 =>
gfR h15 p17 [0] 6 (fun v18 =>
if a2 = 0 then
(F_X11_seen_51 G h15 n5 v18 a1 (nI 0) a0 a1 v10)
else
(F_X11_seen_51 G h15 n5 v18 a1 (nI 1000000) a0 a1 v10))))))))))))))))))
set_option maxRecDepth 100000 in
set_option maxHeartbeats 4000000 in
theorem k_X11_seen {G : Gx} {d : Nat} {h : Hp} {nx : Nat} {a0 : Nat} {a1 : Int32} {a2 : Int32} {v' : Int32} {h' : Hp} {n' : Nat} (e : F_X11_seen G h nx a0 a1 a2 = some (v', h', n')) : Ct G mX11_seen (d + 1) (Same (some (.int v')) h' n') [.ref a0, .int a1, .int a2] h nx := by
  unfold F_X11_seen at e
  refine Ct.of (ls := [some (.ref a0), some (.int a1), some (.int a2), none]) (by decide +kernel) rfl (Nat.le_of_ble_eq_true rfl) rfl ?_
  refine Ok.aload_n dX11_seen_0 rfl ?_
  refine X.rgfR fl_RX11_14 dX11_seen_1 e (fun v1 e1 => ?_)
  clear e
  refine Ok.iload_n dX11_seen_4 rfl ?_
  refine X.rnn e1 (fun p2 q e2 => ?_)
  clear e1
  subst q
  refine X.rck e2 (fun c fs hb hc e3 => ?_)
  clear e2
  obtain rfl := List.mem_singleton.mp hc
  refine X.callV (My := mX0_hasThing) (n := 1) (As := [.int a1]) (T := (fun v => (some (.int v)))) (stk' := (fun v => [.int v])) (rest := []) (kc' := 0) (ks' := 0) dX11_seen_5 e3 (fun v h n e => k_X0_hasThing (d := d + 0) e) hb rfl wd521 wd77 wd519 wd520 wd518 (by decide +kernel) rfl (by decide) rfl rfl (Nat.le_of_ble_eq_true rfl) (Nat.le_of_ble_eq_true rfl) (Nat.le_of_ble_eq_true rfl) rfl rfl (fun _ => rfl) (fun r3 h4 n5 e4 => ?_)
  clear e3
  refine X.if_ne (tgt := 13) dX11_seen_8 (by decide) e4 (fun e5 => ?_) (fun e5 => ?_)
  · clear e4
    refine Ok.aload_n dX11_seen_13 rfl ?_
    refine X.rgfR fl_RX11_14 dX11_seen_14 e5 (fun v6 e6 => ?_)
    clear e5
    refine X.rnn e6 (fun p7 q e7 => ?_)
    clear e6
    subst q
    refine X.rgfR fl_RX11_102 dX11_seen_17 e7 (fun v8 e8 => ?_)
    clear e7
    refine Ok.iload_n dX11_seen_20 rfl ?_
    refine X.rnn e8 (fun p9 q e9 => ?_)
    clear e8
    subst q
    refine X.iald dX11_seen_21 e9 (fun v10 e10 => ?_)
    clear e9
    refine XL.istore_n dX11_seen_22 (by decide) (L := [some (.ref a0), some (.int a1), some (.int a2), some (.int v10)]) rfl ?_
    refine Ok.aload_n dX11_seen_23 rfl ?_
    refine X.rgfR fl_RX11_14 dX11_seen_24 e10 (fun v11 e11 => ?_)
    clear e10
    refine X.rnn e11 (fun p12 q e12 => ?_)
    clear e11
    subst q
    refine X.rgfR fl_RX11_120 dX11_seen_27 e12 (fun v13 e13 => ?_)
    clear e12
    refine Ok.iload_n dX11_seen_30 rfl ?_
    refine Ok.iload_n dX11_seen_31 rfl ?_
    refine X.rnn e13 (fun p14 q e14 => ?_)
    clear e13
    subst q
    refine X.zast dX11_seen_32 e14 (fun h15 e15 => ?_)
    clear e14
    refine Ok.aload_n dX11_seen_33 rfl ?_
    refine X.rgfR fl_RX11_14 dX11_seen_34 e15 (fun v16 e16 => ?_)
    clear e15
    refine X.rnn e16 (fun p17 q e17 => ?_)
    clear e16
    subst q
    refine X.rgfR fl_RX11_102 dX11_seen_37 e17 (fun v18 e18 => ?_)
    clear e17
    refine Ok.iload_n dX11_seen_40 rfl ?_
    refine Ok.iload_n dX11_seen_41 rfl ?_
    refine X.if_eq (tgt := 50) dX11_seen_42 (by decide) e18 (fun e19 => ?_) (fun e19 => ?_)
    · clear e18
      refine Ok.iconstV (v := (nI 0)) dX11_seen_50 (by decide +kernel) ?_
      exact Ok.weakL (k_X11_seen_51 (d := d) e19) ⟨rfl, ⟨rfl, ⟨rfl, trivial⟩⟩⟩
    · clear e18
      refine Ok.ldc (v := (nI 1000000)) dX11_seen_45 wd545 ?_
      refine Ok.goto (tgt := 51) dX11_seen_47 (by decide) ?_
      exact Ok.weakL (k_X11_seen_51 (d := d) e19) ⟨rfl, ⟨rfl, ⟨rfl, trivial⟩⟩⟩
  · clear e4
    refine Ok.iconstV (v := (-1 : Int32)) dX11_seen_11 (by decide +kernel) ?_
    exact X.iret dX11_seen_12 rfl (Nat.le_of_ble_eq_true rfl) (Nat.le_of_ble_eq_true rfl) e5
noncomputable def F_X11_best_42 (G : Gx) (h : Hp) (nx : Nat) : Rz Int64 :=
some ((-9223372036854775808 : Int64), h, nx)
set_option maxRecDepth 100000 in
set_option maxHeartbeats 4000000 in
theorem k_X11_best_42 {G : Gx} {d : Nat} {v' : Int64} {h' : Hp} {n' : Nat} {h : Hp} {nx : Nat} (e : F_X11_best_42 G h nx = some (v', h', n')) : Ok G mX11_best (d + 5) (Same (some (.long v')) h' n') 42 [none, none, none, none, none] [] h nx 0 0 := by
  unfold F_X11_best_42 at e
  refine Ok.ldc2_w (v := -9223372036854775808) dX11_best_42 wd550 ?_
  exact X.lret dX11_best_45 rfl (Nat.le_of_ble_eq_true rfl) (Nat.le_of_ble_eq_true rfl) e
noncomputable def F_X11_best_113 (G : Gx) (h : Hp) (nx : Nat) (s0 : Int64) : Rz Int64 :=
some (s0, h, nx)
set_option maxRecDepth 100000 in
set_option maxHeartbeats 4000000 in
theorem k_X11_best_113 {G : Gx} {d : Nat} {v' : Int64} {h' : Hp} {n' : Nat} {h : Hp} {nx : Nat} {s0 : Int64} (e : F_X11_best_113 G h nx s0 = some (v', h', n')) : Ok G mX11_best (d + 5) (Same (some (.long v')) h' n') 113 [none, none, none, none, none] [.long s0] h nx 0 0 := by
  unfold F_X11_best_113 at e
  exact X.lret dX11_best_113 rfl (Nat.le_of_ble_eq_true rfl) (Nat.le_of_ble_eq_true rfl) e
noncomputable def F_X11_best (G : Gx) (h : Hp) (nx : Nat) (a0 : Nat) (a1 : Int32) (a2 : Int32) (a3 : Int32) (a4 : Int32) : Rz Int64 :=
gfR h a0 [11] 0 (fun v1 =>
nn v1 (fun p2 =>
ck h p2 [0] (fun _ =>
cl (F_X0_hasThing G h nx p2 a1) (fun r3 h4 n5 =>
if r3 = 0 then
(F_X11_best_42 G h4 n5)
else
cl (F_X11_within G h4 n5 a2 (nI 0) (nI 200)) (fun r6 h7 n8 =>
if r6 = 0 then
(F_X11_best_42 G h7 n8)
else
cl (F_X11_within G h7 n8 a3 (nI 1) (nI 8)) (fun r9 h10 n11 =>
if r9 = 0 then
(F_X11_best_42 G h10 n11)
else
cl (F_X11_within G h10 n11 a4 (nI 0) (nI 2)) (fun r12 h13 n14 =>
if r12 = 0 then
(F_X11_best_42 G h13 n14)
else
gfR h13 a0 [11] 3 (fun v15 =>
nn v15 (fun p16 =>
ck h13 p16 [5] (fun _ =>
cl (F_X5_lay G h13 n14 p16 a1 a3 (nI 0)) (fun _ h18 n19 =>
gfR h18 a0 [11] 3 (fun v20 =>
nn v20 (fun p21 =>
ck h18 p21 [5] (fun _ =>
cl (F_X5_weigh G h18 n19 p21 a1 (nI 0) a2 a3) (fun _ h23 n24 =>
if a4 = 0 then
gfR h23 a0 [11] 3 (fun v31 =>
nn v31 (fun p32 =>
gfJ h23 p32 [5] 7 (fun v33 =>
gfR h23 a0 [11] 3 (fun v34 =>
nn v34 (fun p35 =>
gfJ h23 p35 [5] 8 (fun v36 =>
some ((mxJ v33 v36), h23, n24)))))))
else
if a4 = (nI 1) then
gfR h23 a0 [11] 3 (fun v28 =>
nn v28 (fun p29 =>
gfJ h23 p29 [5] 7 (fun v30 =>
(F_X11_best_113 G h23 n24 v30))))
else
gfR h23 a0 [11] 3 (fun v25 =>
nn v25 (fun p26 =>
gfJ h23 p26 [5] 8 (fun v27 =>
(F_X11_best_113 G h23 n24 v27)))))))))))))))))))
set_option maxRecDepth 100000 in
set_option maxHeartbeats 4000000 in
theorem k_X11_best {G : Gx} {d : Nat} {h : Hp} {nx : Nat} {a0 : Nat} {a1 : Int32} {a2 : Int32} {a3 : Int32} {a4 : Int32} {v' : Int64} {h' : Hp} {n' : Nat} (e : F_X11_best G h nx a0 a1 a2 a3 a4 = some (v', h', n')) : Ct G mX11_best (d + 5) (Same (some (.long v')) h' n') [.ref a0, .int a1, .int a2, .int a3, .int a4] h nx := by
  unfold F_X11_best at e
  refine Ct.of (ls := [some (.ref a0), some (.int a1), some (.int a2), some (.int a3), some (.int a4)]) (by decide +kernel) rfl (Nat.le_of_ble_eq_true rfl) rfl ?_
  refine Ok.aload_n dX11_best_0 rfl ?_
  refine X.rgfR fl_RX11_14 dX11_best_1 e (fun v1 e1 => ?_)
  clear e
  refine Ok.iload_n dX11_best_4 rfl ?_
  refine X.rnn e1 (fun p2 q e2 => ?_)
  clear e1
  subst q
  refine X.rck e2 (fun c fs hb hc e3 => ?_)
  clear e2
  obtain rfl := List.mem_singleton.mp hc
  refine X.callV (My := mX0_hasThing) (n := 1) (As := [.int a1]) (T := (fun v => (some (.int v)))) (stk' := (fun v => [.int v])) (rest := []) (kc' := 0) (ks' := 0) dX11_best_5 e3 (fun v h n e => k_X0_hasThing (d := d + 4) e) hb rfl wd521 wd77 wd519 wd520 wd518 (by decide +kernel) rfl (by decide) rfl rfl (Nat.le_of_ble_eq_true rfl) (Nat.le_of_ble_eq_true rfl) (Nat.le_of_ble_eq_true rfl) rfl rfl (fun _ => rfl) (fun r3 h4 n5 e4 => ?_)
  clear e3
  refine X.if_eq (tgt := 42) dX11_best_8 (by decide) e4 (fun e5 => ?_) (fun e5 => ?_)
  · clear e4
    exact Ok.weakL (k_X11_best_42 (d := d) e5) trivial
  · clear e4
    refine Ok.iload_n dX11_best_11 rfl ?_
    refine Ok.iconstV (v := (nI 0)) dX11_best_12 (by decide +kernel) ?_
    refine Ok.sipushV (v := (nI 200)) dX11_best_13 (by decide +kernel) ?_
    refine X.callS (My := mX11_within) (n := 3) (As := [.int a2, .int (nI 0), .int (nI 200)]) (T := (fun v => (some (.int v)))) (stk' := (fun v => [.int v])) (rest := []) (kc' := 0) (ks' := 0) dX11_best_16 e5 (fun v h n e => k_X11_within (d := d + 4) e) wd495 wd76 wd494 wd493 (by decide +kernel) rfl (by decide) rfl rfl (Nat.le_of_ble_eq_true rfl) (Nat.le_of_ble_eq_true rfl) (Nat.le_of_ble_eq_true rfl) rfl rfl (fun _ => rfl) (fun r6 h7 n8 e6 => ?_)
    clear e5
    refine X.if_eq (tgt := 42) dX11_best_19 (by decide) e6 (fun e7 => ?_) (fun e7 => ?_)
    · clear e6
      exact Ok.weakL (k_X11_best_42 (d := d) e7) trivial
    · clear e6
      refine Ok.iload_n dX11_best_22 rfl ?_
      refine Ok.iconstV (v := (nI 1)) dX11_best_23 (by decide +kernel) ?_
      refine Ok.bipushV (v := (nI 8)) dX11_best_24 (by decide +kernel) ?_
      refine X.callS (My := mX11_within) (n := 3) (As := [.int a3, .int (nI 1), .int (nI 8)]) (T := (fun v => (some (.int v)))) (stk' := (fun v => [.int v])) (rest := []) (kc' := 0) (ks' := 0) dX11_best_26 e7 (fun v h n e => k_X11_within (d := d + 4) e) wd495 wd76 wd494 wd493 (by decide +kernel) rfl (by decide) rfl rfl (Nat.le_of_ble_eq_true rfl) (Nat.le_of_ble_eq_true rfl) (Nat.le_of_ble_eq_true rfl) rfl rfl (fun _ => rfl) (fun r9 h10 n11 e8 => ?_)
      clear e7
      refine X.if_eq (tgt := 42) dX11_best_29 (by decide) e8 (fun e9 => ?_) (fun e9 => ?_)
      · clear e8
        exact Ok.weakL (k_X11_best_42 (d := d) e9) trivial
      · clear e8
        refine Ok.iload dX11_best_32 rfl ?_
        refine Ok.iconstV (v := (nI 0)) dX11_best_34 (by decide +kernel) ?_
        refine Ok.iconstV (v := (nI 2)) dX11_best_35 (by decide +kernel) ?_
        refine X.callS (My := mX11_within) (n := 3) (As := [.int a4, .int (nI 0), .int (nI 2)]) (T := (fun v => (some (.int v)))) (stk' := (fun v => [.int v])) (rest := []) (kc' := 0) (ks' := 0) dX11_best_36 e9 (fun v h n e => k_X11_within (d := d + 4) e) wd495 wd76 wd494 wd493 (by decide +kernel) rfl (by decide) rfl rfl (Nat.le_of_ble_eq_true rfl) (Nat.le_of_ble_eq_true rfl) (Nat.le_of_ble_eq_true rfl) rfl rfl (fun _ => rfl) (fun r12 h13 n14 e10 => ?_)
        clear e9
        refine X.if_ne (tgt := 46) dX11_best_39 (by decide) e10 (fun e11 => ?_) (fun e11 => ?_)
        · clear e10
          refine Ok.aload_n dX11_best_46 rfl ?_
          refine X.rgfR fl_RX11_30 dX11_best_47 e11 (fun v15 e12 => ?_)
          clear e11
          refine Ok.iload_n dX11_best_50 rfl ?_
          refine Ok.iload_n dX11_best_51 rfl ?_
          refine Ok.iconstV (v := (nI 0)) dX11_best_52 (by decide +kernel) ?_
          refine X.rnn e12 (fun p16 q e13 => ?_)
          clear e12
          subst q
          refine X.rck e13 (fun c fs hb hc e14 => ?_)
          clear e13
          obtain rfl := List.mem_singleton.mp hc
          refine X.callV (My := mX5_lay) (n := 3) (As := [.int a1, .int a3, .int (nI 0)]) (T := (fun v => none)) (stk' := (fun _ => [])) (rest := []) (kc' := 0) (ks' := 0) dX11_best_53 e14 (fun v h n e => k_X5_lay (d := d + 0) e) hb rfl wd554 wd78 wd552 wd553 wd551 (by decide +kernel) rfl (by decide) rfl rfl (Nat.le_of_ble_eq_true rfl) (Nat.le_of_ble_eq_true rfl) (Nat.le_of_ble_eq_true rfl) rfl rfl (fun _ => rfl) (fun _ h18 n19 e15 => ?_)
          clear e14
          refine Ok.aload_n dX11_best_56 rfl ?_
          refine X.rgfR fl_RX11_30 dX11_best_57 e15 (fun v20 e16 => ?_)
          clear e15
          refine Ok.iload_n dX11_best_60 rfl ?_
          refine Ok.iconstV (v := (nI 0)) dX11_best_61 (by decide +kernel) ?_
          refine Ok.iload_n dX11_best_62 rfl ?_
          refine Ok.iload_n dX11_best_63 rfl ?_
          refine X.rnn e16 (fun p21 q e17 => ?_)
          clear e16
          subst q
          refine X.rck e17 (fun c fs hb hc e18 => ?_)
          clear e17
          obtain rfl := List.mem_singleton.mp hc
          refine X.callV (My := mX5_weigh) (n := 4) (As := [.int a1, .int (nI 0), .int a2, .int a3]) (T := (fun v => none)) (stk' := (fun _ => [])) (rest := []) (kc' := 0) (ks' := 0) dX11_best_64 e18 (fun v h n e => k_X5_weigh (d := d + 3) e) hb rfl wd573 wd78 wd571 wd572 wd570 (by decide +kernel) rfl (by decide) rfl rfl (Nat.le_of_ble_eq_true rfl) (Nat.le_of_ble_eq_true rfl) (Nat.le_of_ble_eq_true rfl) rfl rfl (fun _ => rfl) (fun _ h23 n24 e19 => ?_)
          clear e18
          refine Ok.iload dX11_best_67 rfl ?_
          refine X.if_ne (tgt := 90) dX11_best_69 (by decide) e19 (fun e20 => ?_) (fun e20 => ?_)
          · clear e19
            refine Ok.iload dX11_best_90 rfl ?_
            refine Ok.iconstV (v := (nI 1)) dX11_best_92 (by decide +kernel) ?_
            refine X.icmp_ne (tgt := 106) dX11_best_93 (by decide) e20 (fun e21 => ?_) (fun e21 => ?_)
            · clear e20
              refine Ok.aload_n dX11_best_106 rfl ?_
              refine X.rgfR fl_RX11_30 dX11_best_107 e21 (fun v25 e22 => ?_)
              clear e21
              refine X.rnn e22 (fun p26 q e23 => ?_)
              clear e22
              subst q
              refine X.rgfJ fl_RX11_139 dX11_best_110 e23 (fun v27 e24 => ?_)
              clear e23
              exact Ok.weakL (k_X11_best_113 (d := d) e24) trivial
            · clear e20
              refine Ok.aload_n dX11_best_96 rfl ?_
              refine X.rgfR fl_RX11_30 dX11_best_97 e21 (fun v28 e22 => ?_)
              clear e21
              refine X.rnn e22 (fun p29 q e23 => ?_)
              clear e22
              subst q
              refine X.rgfJ fl_RX11_135 dX11_best_100 e23 (fun v30 e24 => ?_)
              clear e23
              refine Ok.goto (tgt := 113) dX11_best_103 (by decide) ?_
              exact Ok.weakL (k_X11_best_113 (d := d) e24) trivial
          · clear e19
            refine Ok.aload_n dX11_best_72 rfl ?_
            refine X.rgfR fl_RX11_30 dX11_best_73 e20 (fun v31 e21 => ?_)
            clear e20
            refine X.rnn e21 (fun p32 q e22 => ?_)
            clear e21
            subst q
            refine X.rgfJ fl_RX11_135 dX11_best_76 e22 (fun v33 e23 => ?_)
            clear e22
            refine Ok.aload_n dX11_best_79 rfl ?_
            refine X.rgfR fl_RX11_30 dX11_best_80 e23 (fun v34 e24 => ?_)
            clear e23
            refine X.rnn e24 (fun p35 q e25 => ?_)
            clear e24
            subst q
            refine X.rgfJ fl_RX11_139 dX11_best_83 e25 (fun v36 e26 => ?_)
            clear e25
            refine Ok.mmaxJ dX11_best_86 wd598 wd596 wd83 wd597 (Nat.le_of_ble_eq_true rfl) (Nat.le_of_ble_eq_true rfl) (Nat.le_of_ble_eq_true rfl) ?_
            exact X.lret dX11_best_89 rfl (Nat.le_of_ble_eq_true rfl) (Nat.le_of_ble_eq_true rfl) e26
        · clear e10
          exact Ok.weakL (k_X11_best_42 (d := d) e11) trivial
noncomputable def F_X11_number_60 (G : Gx) (h : Hp) (nx : Nat) (s0 : Int32) : Rz Int32 :=
some (s0, h, nx)
set_option maxRecDepth 100000 in
set_option maxHeartbeats 4000000 in
theorem k_X11_number_60 {G : Gx} {d : Nat} {v' : Int32} {h' : Hp} {n' : Nat} {h : Hp} {nx : Nat} {s0 : Int32} (e : F_X11_number_60 G h nx s0 = some (v', h', n')) : Ok G mX11_number (d + 5) (Same (some (.int v')) h' n') 60 [none, none, none, none] [.int s0] h nx 0 0 := by
  unfold F_X11_number_60 at e
  exact X.iret dX11_number_60 rfl (Nat.le_of_ble_eq_true rfl) (Nat.le_of_ble_eq_true rfl) e
noncomputable def F_X11_number (G : Gx) (h : Hp) (nx : Nat) (a0 : Nat) (a1 : Int32) (a2 : Int32) : Rz Int32 :=
gfR h a0 [11] 0 (fun v1 =>
nn v1 (fun p2 =>
ck h p2 [0] (fun _ =>
cl (F_X0_hasThing G h nx p2 a1) (fun r3 h4 n5 =>
if r3 = 0 then
some ((-1 : Int32), h4, n5)
else
cl (F_X11_within G h4 n5 a2 (nI 1) (nI 8)) (fun r6 h7 n8 =>
if r6 = 0 then
some ((-2 : Int32), h7, n8)
else
gfR h7 a0 [11] 3 (fun v9 =>
nn v9 (fun p10 =>
ck h7 p10 [5] (fun _ =>
cl (F_X5_lay G h7 n8 p10 a1 a2 (nI 0)) (fun _ h12 n13 =>
gfR h12 a0 [11] 3 (fun v14 =>
nn v14 (fun p15 =>
ck h12 p15 [5] (fun _ =>
cl (F_X5_leastWage G h12 n13 p15 a1 (nI 0) a2) (fun r16 h17 n18 =>
if r16 ≤ (nI 200) then
(F_X11_number_60 G h17 n18 r16)
else
(F_X11_number_60 G h17 n18 (-5 : Int32)))))))))))))))
set_option maxRecDepth 100000 in
set_option maxHeartbeats 4000000 in
theorem k_X11_number {G : Gx} {d : Nat} {h : Hp} {nx : Nat} {a0 : Nat} {a1 : Int32} {a2 : Int32} {v' : Int32} {h' : Hp} {n' : Nat} (e : F_X11_number G h nx a0 a1 a2 = some (v', h', n')) : Ct G mX11_number (d + 5) (Same (some (.int v')) h' n') [.ref a0, .int a1, .int a2] h nx := by
  unfold F_X11_number at e
  refine Ct.of (ls := [some (.ref a0), some (.int a1), some (.int a2), none]) (by decide +kernel) rfl (Nat.le_of_ble_eq_true rfl) rfl ?_
  refine Ok.aload_n dX11_number_0 rfl ?_
  refine X.rgfR fl_RX11_14 dX11_number_1 e (fun v1 e1 => ?_)
  clear e
  refine Ok.iload_n dX11_number_4 rfl ?_
  refine X.rnn e1 (fun p2 q e2 => ?_)
  clear e1
  subst q
  refine X.rck e2 (fun c fs hb hc e3 => ?_)
  clear e2
  obtain rfl := List.mem_singleton.mp hc
  refine X.callV (My := mX0_hasThing) (n := 1) (As := [.int a1]) (T := (fun v => (some (.int v)))) (stk' := (fun v => [.int v])) (rest := []) (kc' := 0) (ks' := 0) dX11_number_5 e3 (fun v h n e => k_X0_hasThing (d := d + 4) e) hb rfl wd521 wd77 wd519 wd520 wd518 (by decide +kernel) rfl (by decide) rfl rfl (Nat.le_of_ble_eq_true rfl) (Nat.le_of_ble_eq_true rfl) (Nat.le_of_ble_eq_true rfl) rfl rfl (fun _ => rfl) (fun r3 h4 n5 e4 => ?_)
  clear e3
  refine X.if_ne (tgt := 13) dX11_number_8 (by decide) e4 (fun e5 => ?_) (fun e5 => ?_)
  · clear e4
    refine Ok.iload_n dX11_number_13 rfl ?_
    refine Ok.iconstV (v := (nI 1)) dX11_number_14 (by decide +kernel) ?_
    refine Ok.bipushV (v := (nI 8)) dX11_number_15 (by decide +kernel) ?_
    refine X.callS (My := mX11_within) (n := 3) (As := [.int a2, .int (nI 1), .int (nI 8)]) (T := (fun v => (some (.int v)))) (stk' := (fun v => [.int v])) (rest := []) (kc' := 0) (ks' := 0) dX11_number_17 e5 (fun v h n e => k_X11_within (d := d + 4) e) wd495 wd76 wd494 wd493 (by decide +kernel) rfl (by decide) rfl rfl (Nat.le_of_ble_eq_true rfl) (Nat.le_of_ble_eq_true rfl) (Nat.le_of_ble_eq_true rfl) rfl rfl (fun _ => rfl) (fun r6 h7 n8 e6 => ?_)
    clear e5
    refine X.if_ne (tgt := 26) dX11_number_20 (by decide) e6 (fun e7 => ?_) (fun e7 => ?_)
    · clear e6
      refine Ok.aload_n dX11_number_26 rfl ?_
      refine X.rgfR fl_RX11_30 dX11_number_27 e7 (fun v9 e8 => ?_)
      clear e7
      refine Ok.iload_n dX11_number_30 rfl ?_
      refine Ok.iload_n dX11_number_31 rfl ?_
      refine Ok.iconstV (v := (nI 0)) dX11_number_32 (by decide +kernel) ?_
      refine X.rnn e8 (fun p10 q e9 => ?_)
      clear e8
      subst q
      refine X.rck e9 (fun c fs hb hc e10 => ?_)
      clear e9
      obtain rfl := List.mem_singleton.mp hc
      refine X.callV (My := mX5_lay) (n := 3) (As := [.int a1, .int a2, .int (nI 0)]) (T := (fun v => none)) (stk' := (fun _ => [])) (rest := []) (kc' := 0) (ks' := 0) dX11_number_33 e10 (fun v h n e => k_X5_lay (d := d + 0) e) hb rfl wd554 wd78 wd552 wd553 wd551 (by decide +kernel) rfl (by decide) rfl rfl (Nat.le_of_ble_eq_true rfl) (Nat.le_of_ble_eq_true rfl) (Nat.le_of_ble_eq_true rfl) rfl rfl (fun _ => rfl) (fun _ h12 n13 e11 => ?_)
      clear e10
      refine Ok.aload_n dX11_number_36 rfl ?_
      refine X.rgfR fl_RX11_30 dX11_number_37 e11 (fun v14 e12 => ?_)
      clear e11
      refine Ok.iload_n dX11_number_40 rfl ?_
      refine Ok.iconstV (v := (nI 0)) dX11_number_41 (by decide +kernel) ?_
      refine Ok.iload_n dX11_number_42 rfl ?_
      refine X.rnn e12 (fun p15 q e13 => ?_)
      clear e12
      subst q
      refine X.rck e13 (fun c fs hb hc e14 => ?_)
      clear e13
      obtain rfl := List.mem_singleton.mp hc
      refine X.callV (My := mX5_leastWage) (n := 3) (As := [.int a1, .int (nI 0), .int a2]) (T := (fun v => (some (.int v)))) (stk' := (fun v => [.int v])) (rest := []) (kc' := 0) (ks' := 0) dX11_number_43 e14 (fun v h n e => k_X5_leastWage (d := d + 2) e) hb rfl wd606 wd78 wd604 wd605 wd603 (by decide +kernel) rfl (by decide) rfl rfl (Nat.le_of_ble_eq_true rfl) (Nat.le_of_ble_eq_true rfl) (Nat.le_of_ble_eq_true rfl) rfl rfl (fun _ => rfl) (fun r16 h17 n18 e15 => ?_)
      clear e14
      refine XL.istore_n dX11_number_46 (by decide) (L := [some (.ref a0), some (.int a1), some (.int a2), some (.int r16)]) rfl ?_
      refine Ok.iload_n dX11_number_47 rfl ?_
      refine Ok.sipushV (v := (nI 200)) dX11_number_48 (by decide +kernel) ?_
      refine X.icmp_le (tgt := 59) dX11_number_51 (by decide) e15 (fun e16 => ?_) (fun e16 => ?_)
      · clear e15
        refine Ok.iload_n dX11_number_59 rfl ?_
        exact Ok.weakL (k_X11_number_60 (d := d) e16) trivial
      · clear e15
        refine Ok.bipushV (v := (-5 : Int32)) dX11_number_54 (by decide +kernel) ?_
        refine Ok.goto (tgt := 60) dX11_number_56 (by decide) ?_
        exact Ok.weakL (k_X11_number_60 (d := d) e16) trivial
    · clear e6
      refine Ok.bipushV (v := (-2 : Int32)) dX11_number_23 (by decide +kernel) ?_
      exact X.iret dX11_number_25 rfl (Nat.le_of_ble_eq_true rfl) (Nat.le_of_ble_eq_true rfl) e7
  · clear e4
    refine Ok.iconstV (v := (-1 : Int32)) dX11_number_11 (by decide +kernel) ?_
    exact X.iret dX11_number_12 rfl (Nat.le_of_ble_eq_true rfl) (Nat.le_of_ble_eq_true rfl) e5
noncomputable def F_X11_such_18 (G : Gx) : Nat → Hp → Nat → Nat → Int32 → Int32 → Int32 → Rz Int32 := fun n => Nat.rec (motive := fun _ => Hp → Nat → Nat → Int32 → Int32 → Int32 → Rz Int32) (fun _ _ _ _ _ _ => none) (fun _ k18 => fun h nx l0 l1 l2 l4 =>
if (nI 200) < l4 then
some ((nI 1), h, nx)
else
gfR h l0 [11] 3 (fun v1 =>
nn v1 (fun p2 =>
ck h p2 [5] (fun _ =>
cl (F_X5_weigh G h nx p2 l1 (nI 0) l4 l2) (fun _ h4 n5 =>
gfR h4 l0 [11] 3 (fun v6 =>
nn v6 (fun p7 =>
gfJ h4 p7 [5] 7 (fun v8 =>
gfR h4 l0 [11] 3 (fun v9 =>
nn v9 (fun p10 =>
gfJ h4 p10 [5] 8 (fun v11 =>
if 0 ≤ ((lg_cmp v8 v11)) then
nm (l4 + (nI 1)) (fun v12 =>
(k18 h4 n5 l0 l1 l2 v12))
else
some ((nI 0), h4, n5)))))))))))) n
theorem F_X11_such_18_0 {G : Gx} {h : Hp} {nx : Nat} {l0 : Nat} {l1 : Int32} {l2 : Int32} {l4 : Int32} : F_X11_such_18 G 0 h nx l0 l1 l2 l4 = none := rfl
theorem F_X11_such_18_s {G : Gx} {n : Nat} {h : Hp} {nx : Nat} {l0 : Nat} {l1 : Int32} {l2 : Int32} {l4 : Int32} : F_X11_such_18 G (n + 1) h nx l0 l1 l2 l4 = (
if (nI 200) < l4 then
some ((nI 1), h, nx)
else
gfR h l0 [11] 3 (fun v1 =>
nn v1 (fun p2 =>
ck h p2 [5] (fun _ =>
cl (F_X5_weigh G h nx p2 l1 (nI 0) l4 l2) (fun _ h4 n5 =>
gfR h4 l0 [11] 3 (fun v6 =>
nn v6 (fun p7 =>
gfJ h4 p7 [5] 7 (fun v8 =>
gfR h4 l0 [11] 3 (fun v9 =>
nn v9 (fun p10 =>
gfJ h4 p10 [5] 8 (fun v11 =>
if 0 ≤ ((lg_cmp v8 v11)) then
nm (l4 + (nI 1)) (fun v12 =>
((F_X11_such_18 G n) h4 n5 l0 l1 l2 v12))
else
some ((nI 0), h4, n5)))))))))))) := rfl
set_option maxRecDepth 100000 in
set_option maxHeartbeats 4000000 in
theorem k_X11_such_18 {G : Gx} {d : Nat} {v' : Int32} {h' : Hp} {n' : Nat} : ∀ (n : Nat) {h : Hp} {nx : Nat} {l0 : Nat} {l1 : Int32} {l2 : Int32} {l4 : Int32}, F_X11_such_18 G n h nx l0 l1 l2 l4 = some (v', h', n') → Ok G mX11_such (d + 6) (Same (some (.int v')) h' n') 18 [some (.ref l0), some (.int l1), some (.int l2), none, some (.int l4)] [] h nx 0 0 := by
  intro n
  induction n with
  | zero =>
    intro h nx l0 l1 l2 l4 e
    rw [F_X11_such_18_0] at e
    cases e
  | succ n K18 =>
    intro h nx l0 l1 l2 l4 e
    rw [F_X11_such_18_s] at e
    refine Ok.iload dX11_such_18 rfl ?_
    refine Ok.sipushV (v := (nI 200)) dX11_such_20 (by decide +kernel) ?_
    refine X.icmp_gt (tgt := 64) dX11_such_23 (by decide) e (fun e1 => ?_) (fun e1 => ?_)
    · clear e
      refine Ok.iconstV (v := (nI 1)) dX11_such_64 (by decide +kernel) ?_
      exact X.iret dX11_such_65 rfl (Nat.le_of_ble_eq_true rfl) (Nat.le_of_ble_eq_true rfl) e1
    · clear e
      refine Ok.aload_n dX11_such_26 rfl ?_
      refine X.rgfR fl_RX11_30 dX11_such_27 e1 (fun v1 e2 => ?_)
      clear e1
      refine Ok.iload_n dX11_such_30 rfl ?_
      refine Ok.iconstV (v := (nI 0)) dX11_such_31 (by decide +kernel) ?_
      refine Ok.iload dX11_such_32 rfl ?_
      refine Ok.iload_n dX11_such_34 rfl ?_
      refine X.rnn e2 (fun p2 q e3 => ?_)
      clear e2
      subst q
      refine X.rck e3 (fun c fs hb hc e4 => ?_)
      clear e3
      obtain rfl := List.mem_singleton.mp hc
      refine X.callV (My := mX5_weigh) (n := 4) (As := [.int l1, .int (nI 0), .int l4, .int l2]) (T := (fun v => none)) (stk' := (fun _ => [])) (rest := []) (kc' := 0) (ks' := 0) dX11_such_35 e4 (fun v h n e => k_X5_weigh (d := d + 4) e) hb rfl wd573 wd78 wd571 wd572 wd570 (by decide +kernel) rfl (by decide) rfl rfl (Nat.le_of_ble_eq_true rfl) (Nat.le_of_ble_eq_true rfl) (Nat.le_of_ble_eq_true rfl) rfl rfl (fun _ => rfl) (fun _ h4 n5 e5 => ?_)
      clear e4
      refine Ok.aload_n dX11_such_38 rfl ?_
      refine X.rgfR fl_RX11_30 dX11_such_39 e5 (fun v6 e6 => ?_)
      clear e5
      refine X.rnn e6 (fun p7 q e7 => ?_)
      clear e6
      subst q
      refine X.rgfJ fl_RX11_135 dX11_such_42 e7 (fun v8 e8 => ?_)
      clear e7
      refine Ok.aload_n dX11_such_45 rfl ?_
      refine X.rgfR fl_RX11_30 dX11_such_46 e8 (fun v9 e9 => ?_)
      clear e8
      refine X.rnn e9 (fun p10 q e10 => ?_)
      clear e9
      subst q
      refine X.rgfJ fl_RX11_139 dX11_such_49 e10 (fun v11 e11 => ?_)
      clear e10
      refine Ok.lcmp dX11_such_52 ?_
      refine X.if_ge (tgt := 58) dX11_such_53 (by decide) e11 (fun e12 => ?_) (fun e12 => ?_)
      · clear e11
        refine X.iinc dX11_such_58 rfl (by decide) (by decide +kernel) e12 (L := fun v12 => [some (.ref l0), some (.int l1), some (.int l2), none, some (.int v12)]) (fun _ => rfl) (fun v12 e13 => ?_)
        clear e12
        refine Ok.goto (tgt := 18) dX11_such_61 (by decide) ?_
        exact Ok.weakL (K18 e13) ⟨rfl, ⟨rfl, ⟨rfl, ⟨rfl, trivial⟩⟩⟩⟩
      · clear e11
        refine Ok.iconstV (v := (nI 0)) dX11_such_56 (by decide +kernel) ?_
        exact X.iret dX11_such_57 rfl (Nat.le_of_ble_eq_true rfl) (Nat.le_of_ble_eq_true rfl) e12
noncomputable def F_X11_such (G : Gx) (h : Hp) (nx : Nat) (a0 : Nat) (a1 : Int32) (a2 : Int32) : Rz Int32 :=
ck h a0 [11] (fun _ =>
cl (F_X11_number G h nx a0 a1 a2) (fun r1 h2 n3 =>
if 0 ≤ r1 then
nm ((r1 + (nI 1))) (fun v4 =>
(F_X11_such_18 G fuelL h2 n3 a0 a1 a2 v4))
else
some (r1, h2, n3)))
set_option maxRecDepth 100000 in
set_option maxHeartbeats 4000000 in
theorem k_X11_such {G : Gx} {d : Nat} {h : Hp} {nx : Nat} {a0 : Nat} {a1 : Int32} {a2 : Int32} {v' : Int32} {h' : Hp} {n' : Nat} (e : F_X11_such G h nx a0 a1 a2 = some (v', h', n')) : Ct G mX11_such (d + 6) (Same (some (.int v')) h' n') [.ref a0, .int a1, .int a2] h nx := by
  unfold F_X11_such at e
  refine Ct.of (ls := [some (.ref a0), some (.int a1), some (.int a2), none, none]) (by decide +kernel) rfl (Nat.le_of_ble_eq_true rfl) rfl ?_
  refine Ok.aload_n dX11_such_0 rfl ?_
  refine Ok.iload_n dX11_such_1 rfl ?_
  refine Ok.iload_n dX11_such_2 rfl ?_
  refine X.rck e (fun c fs hb hc e1 => ?_)
  clear e
  obtain rfl := List.mem_singleton.mp hc
  refine X.callV (My := mX11_number) (n := 2) (As := [.int a1, .int a2]) (T := (fun v => (some (.int v)))) (stk' := (fun v => [.int v])) (rest := []) (kc' := 0) (ks' := 0) dX11_such_3 e1 (fun v h n e => k_X11_number (d := d + 0) e) hb rfl wd602 wd76 wd600 wd601 wd612 (by decide +kernel) rfl (by decide) rfl rfl (Nat.le_of_ble_eq_true rfl) (Nat.le_of_ble_eq_true rfl) (Nat.le_of_ble_eq_true rfl) rfl rfl (fun _ => rfl) (fun r1 h2 n3 e2 => ?_)
  clear e1
  refine XL.istore_n dX11_such_6 (by decide) (L := [some (.ref a0), some (.int a1), some (.int a2), some (.int r1), none]) rfl ?_
  refine Ok.iload_n dX11_such_7 rfl ?_
  refine X.if_ge (tgt := 13) dX11_such_8 (by decide) e2 (fun e3 => ?_) (fun e3 => ?_)
  · clear e2
    refine Ok.iload_n dX11_such_13 rfl ?_
    refine Ok.iconstV (v := (nI 1)) dX11_such_14 (by decide +kernel) ?_
    refine Ok.iadd dX11_such_15 ?_
    refine X.istore dX11_such_16 (by decide) e3 (L := fun v4 => [some (.ref a0), some (.int a1), some (.int a2), some (.int r1), some (.int v4)]) (fun _ => rfl) (fun v4 e4 => ?_)
    clear e3
    exact Ok.weakL (k_X11_such_18 (d := d) fuelL e4) ⟨rfl, ⟨rfl, ⟨rfl, ⟨rfl, trivial⟩⟩⟩⟩
  · clear e2
    refine Ok.iload_n dX11_such_11 rfl ?_
    exact X.iret dX11_such_12 rfl (Nat.le_of_ble_eq_true rfl) (Nat.le_of_ble_eq_true rfl) e3
noncomputable def F_X11_looks (G : Gx) (h : Hp) (nx : Nat) (a0 : Nat) (a1 : Int32) : Rz Int32 :=
cl (F_X11_within G h nx a1 (nI 1) (nI 3)) (fun r1 h2 n3 =>
if r1 = 0 then
some ((-2 : Int32), h2, n3)
else
gfR h2 a0 [11] 0 (fun v4 =>
nn v4 (fun p5 =>
gfI h2 p5 [0] 17 (fun v6 =>
gfR h2 a0 [11] 0 (fun v7 =>
nn v7 (fun p8 =>
pfV h2 p8 [0] 17 (.int a1) (fun h9 =>
some (v6, h9, n3))))))))
set_option maxRecDepth 100000 in
set_option maxHeartbeats 4000000 in
theorem k_X11_looks {G : Gx} {d : Nat} {h : Hp} {nx : Nat} {a0 : Nat} {a1 : Int32} {v' : Int32} {h' : Hp} {n' : Nat} (e : F_X11_looks G h nx a0 a1 = some (v', h', n')) : Ct G mX11_looks (d + 1) (Same (some (.int v')) h' n') [.ref a0, .int a1] h nx := by
  unfold F_X11_looks at e
  refine Ct.of (ls := [some (.ref a0), some (.int a1), none]) (by decide +kernel) rfl (Nat.le_of_ble_eq_true rfl) rfl ?_
  refine Ok.iload_n dX11_looks_0 rfl ?_
  refine Ok.iconstV (v := (nI 1)) dX11_looks_1 (by decide +kernel) ?_
  refine Ok.iconstV (v := (nI 3)) dX11_looks_2 (by decide +kernel) ?_
  refine X.callS (My := mX11_within) (n := 3) (As := [.int a1, .int (nI 1), .int (nI 3)]) (T := (fun v => (some (.int v)))) (stk' := (fun v => [.int v])) (rest := []) (kc' := 0) (ks' := 0) dX11_looks_3 e (fun v h n e => k_X11_within (d := d + 0) e) wd495 wd76 wd494 wd493 (by decide +kernel) rfl (by decide) rfl rfl (Nat.le_of_ble_eq_true rfl) (Nat.le_of_ble_eq_true rfl) (Nat.le_of_ble_eq_true rfl) rfl rfl (fun _ => rfl) (fun r1 h2 n3 e1 => ?_)
  clear e
  refine X.if_ne (tgt := 12) dX11_looks_6 (by decide) e1 (fun e2 => ?_) (fun e2 => ?_)
  · clear e1
    refine Ok.aload_n dX11_looks_12 rfl ?_
    refine X.rgfR fl_RX11_14 dX11_looks_13 e2 (fun v4 e3 => ?_)
    clear e2
    refine X.rnn e3 (fun p5 q e4 => ?_)
    clear e3
    subst q
    refine X.rgfI fl_RX11_154 dX11_looks_16 e4 (fun v6 e5 => ?_)
    clear e4
    refine XL.istore_n dX11_looks_19 (by decide) (L := [some (.ref a0), some (.int a1), some (.int v6)]) rfl ?_
    refine Ok.aload_n dX11_looks_20 rfl ?_
    refine X.rgfR fl_RX11_14 dX11_looks_21 e5 (fun v7 e6 => ?_)
    clear e5
    refine Ok.iload_n dX11_looks_24 rfl ?_
    refine X.rnn e6 (fun p8 q e7 => ?_)
    clear e6
    subst q
    refine X.rpfV (v := (.int a1)) fp_RX11_154 rfl rfl dX11_looks_25 e7 (fun h9 e8 => ?_)
    clear e7
    refine Ok.iload_n dX11_looks_28 rfl ?_
    exact X.iret dX11_looks_29 rfl (Nat.le_of_ble_eq_true rfl) (Nat.le_of_ble_eq_true rfl) e8
  · clear e1
    refine Ok.bipushV (v := (-2 : Int32)) dX11_looks_9 (by decide +kernel) ?_
    exact X.iret dX11_looks_11 rfl (Nat.le_of_ble_eq_true rfl) (Nat.le_of_ble_eq_true rfl) e2
noncomputable def F_X11_planOf (G : Gx) (h : Hp) (nx : Nat) (a0 : Int32) (a1 : Int32) (a2 : Int32) : Rz (Option Nat) :=
if a0 = (nI 1) then
nwO G h nx 4 [.int 0, .int 0] (fun p1 h2 n3 =>
cl (F_X4_init G h2 n3 p1 a1 a2) (fun _ h5 n6 =>
some ((some p1), h5, n6)))
else
if a0 = (nI 2) then
nwO G h nx 10 [.int 0, .int 0] (fun p7 h8 n9 =>
cl (F_X10_init G h8 n9 p7 a1 a2) (fun _ h11 n12 =>
some ((some p7), h11, n12)))
else
if a0 = (nI 3) then
nwO G h nx 3 [.int 0, .int 0] (fun p13 h14 n15 =>
cl (F_X3_init G h14 n15 p13 a1 a2) (fun _ h17 n18 =>
some ((some p13), h17, n18)))
else
if a0 = (nI 4) then
nwO G h nx 1 [.int 0, .int 0] (fun p19 h20 n21 =>
cl (F_X1_init G h20 n21 p19 a1 a2) (fun _ h23 n24 =>
some ((some p19), h23, n24)))
else
if a0 = (nI 5) then
nwO G h nx 2 [.int 0, .int 0] (fun p25 h26 n27 =>
cl (F_X2_init G h26 n27 p25 a1 a2) (fun _ h29 n30 =>
some ((some p25), h29, n30)))
else
if a0 = (nI 6) then
nwO G h nx 8 [.int 0, .int 0] (fun p31 h32 n33 =>
cl (F_X8_init G h32 n33 p31 a1 a2) (fun _ h35 n36 =>
some ((some p31), h35, n36)))
else
nwO G h nx 6 [.int 0, .int 0] (fun p37 h38 n39 =>
cl (F_X6_init G h38 n39 p37 a1 a2) (fun _ h41 n42 =>
some ((some p37), h41, n42)))
set_option maxRecDepth 100000 in
set_option maxHeartbeats 4000000 in
theorem k_X11_planOf {G : Gx} {d : Nat} {h : Hp} {nx : Nat} {a0 : Int32} {a1 : Int32} {a2 : Int32} {v' : Option Nat} {h' : Hp} {n' : Nat} (e : F_X11_planOf G h nx a0 a1 a2 = some (v', h', n')) : Ct G mX11_planOf (d + 3) (Same (some (va_rf v')) h' n') [.int a0, .int a1, .int a2] h nx := by
  unfold F_X11_planOf at e
  refine Ct.of (ls := [some (.int a0), some (.int a1), some (.int a2)]) (by decide +kernel) rfl (Nat.le_of_ble_eq_true rfl) rfl ?_
  refine Ok.iload_n dX11_planOf_0 rfl ?_
  refine X.sw e (fun c0 e1 => ?_) (fun c0 e1 => ?_)
  · clear e
    rw [c0]
    refine Ok.tableIn (off := 39) (tgt := 40) dX11_planOf_1 (by decide) (by decide) (by decide +kernel) (by decide) ?_
    refine X.rnwO (fs := [.int 0, .int 0]) dX11_planOf_40 rfl inX4 tyX4 tyX4_ok wd624 wd625 wd90 (fun j hj => match j, hj with | 0, _ => rfl | 1, _ => rfl | _ + 2, q => absurd q (by omega)) (Nat.le_of_ble_eq_true rfl) (Nat.le_of_ble_eq_true rfl) e1 (fun p1 h2 n3 e2 => ?_)
    clear e1
    refine Ok.mono (kc' := 1) (ks' := 2) ?_ (by decide) (by decide)
    refine Ok.dup dX11_planOf_43 rfl ?_
    refine Ok.iload_n dX11_planOf_44 rfl ?_
    refine Ok.iload_n dX11_planOf_45 rfl ?_
    refine X.callI (My := mX4_init) (n := 2) (As := [.int a1, .int a2]) (T := (fun v => none)) (stk' := (fun _ => [.ref p1])) (rest := [.ref p1]) (kc' := 1) (ks' := 2) dX11_planOf_46 e2 (fun v h n e => k_X4_init (d := d + 1) e) rfl wd628 wd90 wd627 rfl wd626 (by decide +kernel) rfl (by decide) rfl rfl (Nat.le_of_ble_eq_true rfl) (Nat.le_of_ble_eq_true rfl) (Nat.le_of_ble_eq_true rfl) rfl rfl (fun _ => rfl) (fun _ h5 n6 e3 => ?_)
    clear e2
    exact X.aret (v := (some p1)) dX11_planOf_49 rfl (Or.inl ⟨_, rfl⟩) (Nat.le_of_ble_eq_true rfl) (Nat.le_of_ble_eq_true rfl) e3
  refine X.sw e1 (fun c1 e2 => ?_) (fun c1 e2 => ?_)
  · clear e1
    rw [c1]
    refine Ok.tableIn (off := 49) (tgt := 50) dX11_planOf_1 (by decide) (by decide) (by decide +kernel) (by decide) ?_
    refine X.rnwO (fs := [.int 0, .int 0]) dX11_planOf_50 rfl inX10 tyX10 tyX10_ok wd653 wd654 wd91 (fun j hj => match j, hj with | 0, _ => rfl | 1, _ => rfl | _ + 2, q => absurd q (by omega)) (Nat.le_of_ble_eq_true rfl) (Nat.le_of_ble_eq_true rfl) e2 (fun p7 h8 n9 e3 => ?_)
    clear e2
    refine Ok.mono (kc' := 1) (ks' := 2) ?_ (by decide) (by decide)
    refine Ok.dup dX11_planOf_53 rfl ?_
    refine Ok.iload_n dX11_planOf_54 rfl ?_
    refine Ok.iload_n dX11_planOf_55 rfl ?_
    refine X.callI (My := mX10_init) (n := 2) (As := [.int a1, .int a2]) (T := (fun v => none)) (stk' := (fun _ => [.ref p7])) (rest := [.ref p7]) (kc' := 1) (ks' := 2) dX11_planOf_56 e3 (fun v h n e => k_X10_init (d := d + 1) e) rfl wd657 wd91 wd656 rfl wd655 (by decide +kernel) rfl (by decide) rfl rfl (Nat.le_of_ble_eq_true rfl) (Nat.le_of_ble_eq_true rfl) (Nat.le_of_ble_eq_true rfl) rfl rfl (fun _ => rfl) (fun _ h11 n12 e4 => ?_)
    clear e3
    exact X.aret (v := (some p7)) dX11_planOf_59 rfl (Or.inl ⟨_, rfl⟩) (Nat.le_of_ble_eq_true rfl) (Nat.le_of_ble_eq_true rfl) e4
  refine X.sw e2 (fun c2 e3 => ?_) (fun c2 e3 => ?_)
  · clear e2
    rw [c2]
    refine Ok.tableIn (off := 59) (tgt := 60) dX11_planOf_1 (by decide) (by decide) (by decide +kernel) (by decide) ?_
    refine X.rnwO (fs := [.int 0, .int 0]) dX11_planOf_60 rfl inX3 tyX3 tyX3_ok wd662 wd663 wd92 (fun j hj => match j, hj with | 0, _ => rfl | 1, _ => rfl | _ + 2, q => absurd q (by omega)) (Nat.le_of_ble_eq_true rfl) (Nat.le_of_ble_eq_true rfl) e3 (fun p13 h14 n15 e4 => ?_)
    clear e3
    refine Ok.mono (kc' := 1) (ks' := 2) ?_ (by decide) (by decide)
    refine Ok.dup dX11_planOf_63 rfl ?_
    refine Ok.iload_n dX11_planOf_64 rfl ?_
    refine Ok.iload_n dX11_planOf_65 rfl ?_
    refine X.callI (My := mX3_init) (n := 2) (As := [.int a1, .int a2]) (T := (fun v => none)) (stk' := (fun _ => [.ref p13])) (rest := [.ref p13]) (kc' := 1) (ks' := 2) dX11_planOf_66 e4 (fun v h n e => k_X3_init (d := d + 1) e) rfl wd666 wd92 wd665 rfl wd664 (by decide +kernel) rfl (by decide) rfl rfl (Nat.le_of_ble_eq_true rfl) (Nat.le_of_ble_eq_true rfl) (Nat.le_of_ble_eq_true rfl) rfl rfl (fun _ => rfl) (fun _ h17 n18 e5 => ?_)
    clear e4
    exact X.aret (v := (some p13)) dX11_planOf_69 rfl (Or.inl ⟨_, rfl⟩) (Nat.le_of_ble_eq_true rfl) (Nat.le_of_ble_eq_true rfl) e5
  refine X.sw e3 (fun c3 e4 => ?_) (fun c3 e4 => ?_)
  · clear e3
    rw [c3]
    refine Ok.tableIn (off := 69) (tgt := 70) dX11_planOf_1 (by decide) (by decide) (by decide +kernel) (by decide) ?_
    refine X.rnwO (fs := [.int 0, .int 0]) dX11_planOf_70 rfl inX1 tyX1 tyX1_ok wd671 wd672 wd93 (fun j hj => match j, hj with | 0, _ => rfl | 1, _ => rfl | _ + 2, q => absurd q (by omega)) (Nat.le_of_ble_eq_true rfl) (Nat.le_of_ble_eq_true rfl) e4 (fun p19 h20 n21 e5 => ?_)
    clear e4
    refine Ok.mono (kc' := 1) (ks' := 2) ?_ (by decide) (by decide)
    refine Ok.dup dX11_planOf_73 rfl ?_
    refine Ok.iload_n dX11_planOf_74 rfl ?_
    refine Ok.iload_n dX11_planOf_75 rfl ?_
    refine X.callI (My := mX1_init) (n := 2) (As := [.int a1, .int a2]) (T := (fun v => none)) (stk' := (fun _ => [.ref p19])) (rest := [.ref p19]) (kc' := 1) (ks' := 2) dX11_planOf_76 e5 (fun v h n e => k_X1_init (d := d + 0) e) rfl wd675 wd93 wd674 rfl wd673 (by decide +kernel) rfl (by decide) rfl rfl (Nat.le_of_ble_eq_true rfl) (Nat.le_of_ble_eq_true rfl) (Nat.le_of_ble_eq_true rfl) rfl rfl (fun _ => rfl) (fun _ h23 n24 e6 => ?_)
    clear e5
    exact X.aret (v := (some p19)) dX11_planOf_79 rfl (Or.inl ⟨_, rfl⟩) (Nat.le_of_ble_eq_true rfl) (Nat.le_of_ble_eq_true rfl) e6
  refine X.sw e4 (fun c4 e5 => ?_) (fun c4 e5 => ?_)
  · clear e4
    rw [c4]
    refine Ok.tableIn (off := 79) (tgt := 80) dX11_planOf_1 (by decide) (by decide) (by decide +kernel) (by decide) ?_
    refine X.rnwO (fs := [.int 0, .int 0]) dX11_planOf_80 rfl inX2 tyX2 tyX2_ok wd680 wd681 wd94 (fun j hj => match j, hj with | 0, _ => rfl | 1, _ => rfl | _ + 2, q => absurd q (by omega)) (Nat.le_of_ble_eq_true rfl) (Nat.le_of_ble_eq_true rfl) e5 (fun p25 h26 n27 e6 => ?_)
    clear e5
    refine Ok.mono (kc' := 1) (ks' := 2) ?_ (by decide) (by decide)
    refine Ok.dup dX11_planOf_83 rfl ?_
    refine Ok.iload_n dX11_planOf_84 rfl ?_
    refine Ok.iload_n dX11_planOf_85 rfl ?_
    refine X.callI (My := mX2_init) (n := 2) (As := [.int a1, .int a2]) (T := (fun v => none)) (stk' := (fun _ => [.ref p25])) (rest := [.ref p25]) (kc' := 1) (ks' := 2) dX11_planOf_86 e6 (fun v h n e => k_X2_init (d := d + 0) e) rfl wd684 wd94 wd683 rfl wd682 (by decide +kernel) rfl (by decide) rfl rfl (Nat.le_of_ble_eq_true rfl) (Nat.le_of_ble_eq_true rfl) (Nat.le_of_ble_eq_true rfl) rfl rfl (fun _ => rfl) (fun _ h29 n30 e7 => ?_)
    clear e6
    exact X.aret (v := (some p25)) dX11_planOf_89 rfl (Or.inl ⟨_, rfl⟩) (Nat.le_of_ble_eq_true rfl) (Nat.le_of_ble_eq_true rfl) e7
  refine X.sw e5 (fun c5 e6 => ?_) (fun c5 e6 => ?_)
  · clear e5
    rw [c5]
    refine Ok.tableIn (off := 89) (tgt := 90) dX11_planOf_1 (by decide) (by decide) (by decide +kernel) (by decide) ?_
    refine X.rnwO (fs := [.int 0, .int 0]) dX11_planOf_90 rfl inX8 tyX8 tyX8_ok wd689 wd690 wd95 (fun j hj => match j, hj with | 0, _ => rfl | 1, _ => rfl | _ + 2, q => absurd q (by omega)) (Nat.le_of_ble_eq_true rfl) (Nat.le_of_ble_eq_true rfl) e6 (fun p31 h32 n33 e7 => ?_)
    clear e6
    refine Ok.mono (kc' := 1) (ks' := 2) ?_ (by decide) (by decide)
    refine Ok.dup dX11_planOf_93 rfl ?_
    refine Ok.iload_n dX11_planOf_94 rfl ?_
    refine Ok.iload_n dX11_planOf_95 rfl ?_
    refine X.callI (My := mX8_init) (n := 2) (As := [.int a1, .int a2]) (T := (fun v => none)) (stk' := (fun _ => [.ref p31])) (rest := [.ref p31]) (kc' := 1) (ks' := 2) dX11_planOf_96 e7 (fun v h n e => k_X8_init (d := d + 1) e) rfl wd693 wd95 wd692 rfl wd691 (by decide +kernel) rfl (by decide) rfl rfl (Nat.le_of_ble_eq_true rfl) (Nat.le_of_ble_eq_true rfl) (Nat.le_of_ble_eq_true rfl) rfl rfl (fun _ => rfl) (fun _ h35 n36 e8 => ?_)
    clear e7
    exact X.aret (v := (some p31)) dX11_planOf_99 rfl (Or.inl ⟨_, rfl⟩) (Nat.le_of_ble_eq_true rfl) (Nat.le_of_ble_eq_true rfl) e8
  refine Ok.tableOut (tgt := 100) dX11_planOf_1 (sw_out 1 6 (fun i hi => match i, hi with | 0, _ => c0 | 1, _ => c1 | 2, _ => c2 | 3, _ => c3 | 4, _ => c4 | 5, _ => c5 | _ + 6, q => absurd q (by omega))) (by decide) ?_
  refine X.rnwO (fs := [.int 0, .int 0]) dX11_planOf_100 rfl inX6 tyX6 tyX6_ok wd698 wd699 wd89 (fun j hj => match j, hj with | 0, _ => rfl | 1, _ => rfl | _ + 2, q => absurd q (by omega)) (Nat.le_of_ble_eq_true rfl) (Nat.le_of_ble_eq_true rfl) e6 (fun p37 h38 n39 e7 => ?_)
  clear e6
  refine Ok.mono (kc' := 1) (ks' := 2) ?_ (by decide) (by decide)
  refine Ok.dup dX11_planOf_103 rfl ?_
  refine Ok.iload_n dX11_planOf_104 rfl ?_
  refine Ok.iload_n dX11_planOf_105 rfl ?_
  refine X.callI (My := mX6_init) (n := 2) (As := [.int a1, .int a2]) (T := (fun v => none)) (stk' := (fun _ => [.ref p37])) (rest := [.ref p37]) (kc' := 1) (ks' := 2) dX11_planOf_106 e7 (fun v h n e => k_X6_init (d := d + 2) e) rfl wd631 wd89 wd630 rfl wd700 (by decide +kernel) rfl (by decide) rfl rfl (Nat.le_of_ble_eq_true rfl) (Nat.le_of_ble_eq_true rfl) (Nat.le_of_ble_eq_true rfl) rfl rfl (fun _ => rfl) (fun _ h41 n42 e8 => ?_)
  clear e7
  exact X.aret (v := (some p37)) dX11_planOf_109 rfl (Or.inl ⟨_, rfl⟩) (Nat.le_of_ble_eq_true rfl) (Nat.le_of_ble_eq_true rfl) e8
noncomputable def F_X11_plan (G : Gx) (h : Hp) (nx : Nat) (a0 : Nat) (a1 : Int32) (a2 : Int32) : Rz Int32 :=
cl (F_X11_within G h nx a1 (nI 0) (nI 6)) (fun r1 h2 n3 =>
if r1 = 0 then
some ((-1 : Int32), h2, n3)
else
cl (F_X11_within G h2 n3 a2 (nI 0) (nI 99)) (fun r4 h5 n6 =>
if r4 = 0 then
some ((-2 : Int32), h5, n6)
else
gfR h5 a0 [11] 0 (fun v7 =>
nn v7 (fun p8 =>
gfI h5 p8 [0] 15 (fun v9 =>
if v9 < (nI 12) then
gfR h5 a0 [11] 0 (fun v10 =>
gfR h5 a0 [11] 0 (fun v11 =>
nn v11 (fun p12 =>
gfI h5 p12 [0] 15 (fun v13 =>
cl (F_X11_planOf G h5 n6 a1 v13 a2) (fun r14 h15 n16 =>
nn r14 (fun p17 =>
nn v10 (fun p18 =>
ck h15 p18 [0] (fun _ =>
cl (F_X0_addPlan G h15 n16 p18 p17) (fun r19 h20 n21 =>
some (r19, h20, n21))))))))))
else
some ((-4 : Int32), h5, n6))))))
set_option maxRecDepth 100000 in
set_option maxHeartbeats 4000000 in
theorem k_X11_plan {G : Gx} {d : Nat} {h : Hp} {nx : Nat} {a0 : Nat} {a1 : Int32} {a2 : Int32} {v' : Int32} {h' : Hp} {n' : Nat} (e : F_X11_plan G h nx a0 a1 a2 = some (v', h', n')) : Ct G mX11_plan (d + 4) (Same (some (.int v')) h' n') [.ref a0, .int a1, .int a2] h nx := by
  unfold F_X11_plan at e
  refine Ct.of (ls := [some (.ref a0), some (.int a1), some (.int a2)]) (by decide +kernel) rfl (Nat.le_of_ble_eq_true rfl) rfl ?_
  refine Ok.iload_n dX11_plan_0 rfl ?_
  refine Ok.iconstV (v := (nI 0)) dX11_plan_1 (by decide +kernel) ?_
  refine Ok.bipushV (v := (nI 6)) dX11_plan_2 (by decide +kernel) ?_
  refine X.callS (My := mX11_within) (n := 3) (As := [.int a1, .int (nI 0), .int (nI 6)]) (T := (fun v => (some (.int v)))) (stk' := (fun v => [.int v])) (rest := []) (kc' := 0) (ks' := 0) dX11_plan_4 e (fun v h n e => k_X11_within (d := d + 3) e) wd495 wd76 wd494 wd493 (by decide +kernel) rfl (by decide) rfl rfl (Nat.le_of_ble_eq_true rfl) (Nat.le_of_ble_eq_true rfl) (Nat.le_of_ble_eq_true rfl) rfl rfl (fun _ => rfl) (fun r1 h2 n3 e1 => ?_)
  clear e
  refine X.if_ne (tgt := 12) dX11_plan_7 (by decide) e1 (fun e2 => ?_) (fun e2 => ?_)
  · clear e1
    refine Ok.iload_n dX11_plan_12 rfl ?_
    refine Ok.iconstV (v := (nI 0)) dX11_plan_13 (by decide +kernel) ?_
    refine Ok.bipushV (v := (nI 99)) dX11_plan_14 (by decide +kernel) ?_
    refine X.callS (My := mX11_within) (n := 3) (As := [.int a2, .int (nI 0), .int (nI 99)]) (T := (fun v => (some (.int v)))) (stk' := (fun v => [.int v])) (rest := []) (kc' := 0) (ks' := 0) dX11_plan_16 e2 (fun v h n e => k_X11_within (d := d + 3) e) wd495 wd76 wd494 wd493 (by decide +kernel) rfl (by decide) rfl rfl (Nat.le_of_ble_eq_true rfl) (Nat.le_of_ble_eq_true rfl) (Nat.le_of_ble_eq_true rfl) rfl rfl (fun _ => rfl) (fun r4 h5 n6 e3 => ?_)
    clear e2
    refine X.if_ne (tgt := 25) dX11_plan_19 (by decide) e3 (fun e4 => ?_) (fun e4 => ?_)
    · clear e3
      refine Ok.aload_n dX11_plan_25 rfl ?_
      refine X.rgfR fl_RX11_14 dX11_plan_26 e4 (fun v7 e5 => ?_)
      clear e4
      refine X.rnn e5 (fun p8 q e6 => ?_)
      clear e5
      subst q
      refine X.rgfI fl_RX11_157 dX11_plan_29 e6 (fun v9 e7 => ?_)
      clear e6
      refine Ok.bipushV (v := (nI 12)) dX11_plan_32 (by decide +kernel) ?_
      refine X.icmp_lt (tgt := 40) dX11_plan_34 (by decide) e7 (fun e8 => ?_) (fun e8 => ?_)
      · clear e7
        refine Ok.aload_n dX11_plan_40 rfl ?_
        refine X.rgfR fl_RX11_14 dX11_plan_41 e8 (fun v10 e9 => ?_)
        clear e8
        refine Ok.iload_n dX11_plan_44 rfl ?_
        refine Ok.aload_n dX11_plan_45 rfl ?_
        refine X.rgfR fl_RX11_14 dX11_plan_46 e9 (fun v11 e10 => ?_)
        clear e9
        refine X.rnn e10 (fun p12 q e11 => ?_)
        clear e10
        subst q
        refine X.rgfI fl_RX11_157 dX11_plan_49 e11 (fun v13 e12 => ?_)
        clear e11
        refine Ok.iload_n dX11_plan_52 rfl ?_
        refine X.callS (My := mX11_planOf) (n := 3) (As := [.int a1, .int v13, .int a2]) (T := (fun v => (some (va_rf v)))) (stk' := (fun v => [va_rf v, va_rf v10])) (rest := [va_rf v10]) (kc' := 7) (ks' := 14) dX11_plan_53 e12 (fun v h n e => k_X11_planOf (d := d + 0) e) wd623 wd76 wd622 wd621 (by decide +kernel) rfl (by decide) rfl rfl (cs_le (cs_c (a := 1) (va_rf_cat _) cs_n) (by decide)) (Nat.le_of_ble_eq_true rfl) (Nat.le_of_ble_eq_true rfl) rfl rfl (fun _ => rfl) (fun r14 h15 n16 e13 => ?_)
        clear e12
        refine X.rnn e13 (fun p17 q e14 => ?_)
        clear e13
        subst q
        refine X.rnn e14 (fun p18 q e15 => ?_)
        clear e14
        subst q
        refine X.rck e15 (fun c fs hb hc e16 => ?_)
        clear e15
        obtain rfl := List.mem_singleton.mp hc
        refine X.callV (My := mX0_addPlan) (n := 1) (As := [.ref p17]) (T := (fun v => (some (.int v)))) (stk' := (fun v => [.int v])) (rest := []) (kc' := 7) (ks' := 14) dX11_plan_56 e16 (fun v h n e => k_X0_addPlan (d := d + 3) e) hb rfl wd707 wd77 wd705 wd706 wd704 (by decide +kernel) rfl (by decide) rfl rfl (Nat.le_of_ble_eq_true rfl) (Nat.le_of_ble_eq_true rfl) (Nat.le_of_ble_eq_true rfl) rfl rfl (fun _ => rfl) (fun r19 h20 n21 e17 => ?_)
        clear e16
        exact X.iret dX11_plan_59 rfl (Nat.le_of_ble_eq_true rfl) (Nat.le_of_ble_eq_true rfl) e17
      · clear e7
        refine Ok.bipushV (v := (-4 : Int32)) dX11_plan_37 (by decide +kernel) ?_
        exact X.iret dX11_plan_39 rfl (Nat.le_of_ble_eq_true rfl) (Nat.le_of_ble_eq_true rfl) e8
    · clear e3
      refine Ok.bipushV (v := (-2 : Int32)) dX11_plan_22 (by decide +kernel) ?_
      exact X.iret dX11_plan_24 rfl (Nat.le_of_ble_eq_true rfl) (Nat.le_of_ble_eq_true rfl) e4
  · clear e1
    refine Ok.iconstV (v := (-1 : Int32)) dX11_plan_10 (by decide +kernel) ?_
    exact X.iret dX11_plan_11 rfl (Nat.le_of_ble_eq_true rfl) (Nat.le_of_ble_eq_true rfl) e2
noncomputable def F_X11_row (G : Gx) (h : Hp) (nx : Nat) (a0 : Nat) (a1 : Int32) (a2 : Int32) : Rz Int32 :=
gfR h a0 [11] 0 (fun v1 =>
nn v1 (fun p2 =>
ck h p2 [0] (fun _ =>
cl (F_X0_planAt G h nx p2 a1) (fun r3 h4 n5 =>
qn r3 (some ((-1 : Int32), h4, n5)) (fun p6 =>
gfR h4 a0 [11] 0 (fun v7 =>
nn v7 (fun p8 =>
gfI h4 p8 [0] 11 (fun v9 =>
cl (F_X11_within G h4 n5 a2 (nI 0) (((((nI 1) <<< (v9 &&& 31))) - (nI 1)))) (fun r10 h11 n12 =>
if r10 = 0 then
some ((-2 : Int32), h11, n12)
else
inC h11 p6 [1, 2, 3, 4, 6, 8, 10] [8] (fun v13 =>
if v13 = 0 then
some ((-3 : Int32), h11, n12)
else
gfR h11 a0 [11] 0 (fun v14 =>
nn v14 (fun p15 =>
gfR h11 p15 [0] 13 (fun v16 =>
nn v16 (fun p17 =>
alI (g_c G 0) h11 p17 a1 (fun v18 =>
if v18 < (nI 10) then
gfR h11 a0 [11] 0 (fun v19 =>
nn v19 (fun p20 =>
gfR h11 p20 [0] 14 (fun v21 =>
nn v21 (fun p22 =>
alR (g_c G 6) h11 p22 a1 (fun v23 =>
nn v23 (fun p24 =>
asI (g_c G 0) id h11 p24 v18 a2 (fun h25 =>
gfR h25 a0 [11] 0 (fun v26 =>
nn v26 (fun p27 =>
gfR h25 p27 [0] 13 (fun v28 =>
nn v28 (fun p29 =>
asI (g_c G 0) id h25 p29 a1 ((v18 + (nI 1))) (fun h30 =>
some (((v18 + (nI 1))), h30, n12)))))))))))))
else
some ((-4 : Int32), h11, n12))))))))))))))))
set_option maxRecDepth 100000 in
set_option maxHeartbeats 4000000 in
theorem k_X11_row {G : Gx} {d : Nat} {h : Hp} {nx : Nat} {a0 : Nat} {a1 : Int32} {a2 : Int32} {v' : Int32} {h' : Hp} {n' : Nat} (e : F_X11_row G h nx a0 a1 a2 = some (v', h', n')) : Ct G mX11_row (d + 1) (Same (some (.int v')) h' n') [.ref a0, .int a1, .int a2] h nx := by
  unfold F_X11_row at e
  refine Ct.of (ls := [some (.ref a0), some (.int a1), some (.int a2), none, none]) (by decide +kernel) rfl (Nat.le_of_ble_eq_true rfl) rfl ?_
  refine Ok.aload_n dX11_row_0 rfl ?_
  refine X.rgfR fl_RX11_14 dX11_row_1 e (fun v1 e1 => ?_)
  clear e
  refine Ok.iload_n dX11_row_4 rfl ?_
  refine X.rnn e1 (fun p2 q e2 => ?_)
  clear e1
  subst q
  refine X.rck e2 (fun c fs hb hc e3 => ?_)
  clear e2
  obtain rfl := List.mem_singleton.mp hc
  refine X.callV (My := mX0_planAt) (n := 1) (As := [.int a1]) (T := (fun v => (some (va_rf v)))) (stk' := (fun v => [va_rf v])) (rest := []) (kc' := 0) (ks' := 0) dX11_row_5 e3 (fun v h n e => k_X0_planAt (d := d + 0) e) hb rfl wd715 wd77 wd713 wd714 wd712 (by decide +kernel) rfl (by decide) rfl rfl (Nat.le_of_ble_eq_true rfl) (Nat.le_of_ble_eq_true rfl) (Nat.le_of_ble_eq_true rfl) rfl rfl (fun _ => rfl) (fun r3 h4 n5 e4 => ?_)
  clear e3
  refine XL.astore_nQ (r := r3) dX11_row_8 (by decide) (L := [some (.ref a0), some (.int a1), some (.int a2), some (va_rf r3), none]) rfl ?_
  refine Ok.aload_nQ dX11_row_9 rfl ?_
  refine X.ifnonnull (tgt := 15) dX11_row_10 (by decide) e4 (fun q e5 => ?_) (fun p6 q e5 => ?_)
  · clear e4
    subst q
    refine Ok.iconstV (v := (-1 : Int32)) dX11_row_13 (by decide +kernel) ?_
    exact X.iret dX11_row_14 rfl (Nat.le_of_ble_eq_true rfl) (Nat.le_of_ble_eq_true rfl) e5
  · clear e4
    subst q
    refine Ok.iload_n dX11_row_15 rfl ?_
    refine Ok.iconstV (v := (nI 0)) dX11_row_16 (by decide +kernel) ?_
    refine Ok.iconstV (v := (nI 1)) dX11_row_17 (by decide +kernel) ?_
    refine Ok.aload_n dX11_row_18 rfl ?_
    refine X.rgfR fl_RX11_14 dX11_row_19 e5 (fun v7 e6 => ?_)
    clear e5
    refine X.rnn e6 (fun p8 q e7 => ?_)
    clear e6
    subst q
    refine X.rgfI fl_RX11_85 dX11_row_22 e7 (fun v9 e8 => ?_)
    clear e7
    refine Ok.ishl dX11_row_25 ?_
    refine Ok.iconstV (v := (nI 1)) dX11_row_26 (by decide +kernel) ?_
    refine Ok.isub dX11_row_27 ?_
    refine X.callS (My := mX11_within) (n := 3) (As := [.int a2, .int (nI 0), .int (((((nI 1) <<< (v9 &&& 31))) - (nI 1)))]) (T := (fun v => (some (.int v)))) (stk' := (fun v => [.int v])) (rest := []) (kc' := 0) (ks' := 0) dX11_row_28 e8 (fun v h n e => k_X11_within (d := d + 0) e) wd495 wd76 wd494 wd493 (by decide +kernel) rfl (by decide) rfl rfl (Nat.le_of_ble_eq_true rfl) (Nat.le_of_ble_eq_true rfl) (Nat.le_of_ble_eq_true rfl) rfl rfl (fun _ => rfl) (fun r10 h11 n12 e9 => ?_)
    clear e8
    refine X.if_ne (tgt := 37) dX11_row_31 (by decide) e9 (fun e10 => ?_) (fun e10 => ?_)
    · clear e9
      refine Ok.aload_n dX11_row_37 rfl ?_
      refine X.rinC dX11_row_38 fi_RX11_172 e10 (fun v13 e11 => ?_)
      clear e10
      refine X.if_ne (tgt := 47) dX11_row_41 (by decide) e11 (fun e12 => ?_) (fun e12 => ?_)
      · clear e11
        refine Ok.aload_n dX11_row_47 rfl ?_
        refine X.rgfR fl_RX11_14 dX11_row_48 e12 (fun v14 e13 => ?_)
        clear e12
        refine X.rnn e13 (fun p15 q e14 => ?_)
        clear e13
        subst q
        refine X.rgfR fl_RX11_174 dX11_row_51 e14 (fun v16 e15 => ?_)
        clear e14
        refine Ok.iload_n dX11_row_54 rfl ?_
        refine X.rnn e15 (fun p17 q e16 => ?_)
        clear e15
        subst q
        refine X.iald dX11_row_55 e16 (fun v18 e17 => ?_)
        clear e16
        refine XL.istore dX11_row_56 (by decide) (L := [some (.ref a0), some (.int a1), some (.int a2), some (.ref p6), some (.int v18)]) rfl ?_
        refine Ok.iload dX11_row_58 rfl ?_
        refine Ok.bipushV (v := (nI 10)) dX11_row_60 (by decide +kernel) ?_
        refine X.icmp_lt (tgt := 68) dX11_row_62 (by decide) e17 (fun e18 => ?_) (fun e18 => ?_)
        · clear e17
          refine Ok.aload_n dX11_row_68 rfl ?_
          refine X.rgfR fl_RX11_14 dX11_row_69 e18 (fun v19 e19 => ?_)
          clear e18
          refine X.rnn e19 (fun p20 q e20 => ?_)
          clear e19
          subst q
          refine X.rgfR fl_RX11_177 dX11_row_72 e20 (fun v21 e21 => ?_)
          clear e20
          refine Ok.iload_n dX11_row_75 rfl ?_
          refine X.rnn e21 (fun p22 q e22 => ?_)
          clear e21
          subst q
          refine X.gald dX11_row_76 e22 (fun v23 e23 => ?_)
          clear e22
          refine Ok.iload dX11_row_77 rfl ?_
          refine Ok.iload_n dX11_row_79 rfl ?_
          refine X.rnn e23 (fun p24 q e24 => ?_)
          clear e23
          subst q
          refine X.iast dX11_row_80 e24 (fun h25 e25 => ?_)
          clear e24
          refine Ok.aload_n dX11_row_81 rfl ?_
          refine X.rgfR fl_RX11_14 dX11_row_82 e25 (fun v26 e26 => ?_)
          clear e25
          refine X.rnn e26 (fun p27 q e27 => ?_)
          clear e26
          subst q
          refine X.rgfR fl_RX11_174 dX11_row_85 e27 (fun v28 e28 => ?_)
          clear e27
          refine Ok.iload_n dX11_row_88 rfl ?_
          refine Ok.iload dX11_row_89 rfl ?_
          refine Ok.iconstV (v := (nI 1)) dX11_row_91 (by decide +kernel) ?_
          refine Ok.iadd dX11_row_92 ?_
          refine X.rnn e28 (fun p29 q e29 => ?_)
          clear e28
          subst q
          refine X.iast dX11_row_93 e29 (fun h30 e30 => ?_)
          clear e29
          refine Ok.iload dX11_row_94 rfl ?_
          refine Ok.iconstV (v := (nI 1)) dX11_row_96 (by decide +kernel) ?_
          refine Ok.iadd dX11_row_97 ?_
          exact X.iret dX11_row_98 rfl (Nat.le_of_ble_eq_true rfl) (Nat.le_of_ble_eq_true rfl) e30
        · clear e17
          refine Ok.bipushV (v := (-4 : Int32)) dX11_row_65 (by decide +kernel) ?_
          exact X.iret dX11_row_67 rfl (Nat.le_of_ble_eq_true rfl) (Nat.le_of_ble_eq_true rfl) e18
      · clear e11
        refine Ok.bipushV (v := (-3 : Int32)) dX11_row_44 (by decide +kernel) ?_
        exact X.iret dX11_row_46 rfl (Nat.le_of_ble_eq_true rfl) (Nat.le_of_ble_eq_true rfl) e12
    · clear e9
      refine Ok.bipushV (v := (-2 : Int32)) dX11_row_34 (by decide +kernel) ?_
      exact X.iret dX11_row_36 rfl (Nat.le_of_ble_eq_true rfl) (Nat.le_of_ble_eq_true rfl) e10
noncomputable def F_X11_whomNow (G : Gx) (h : Hp) (nx : Nat) (a0 : Nat) (a1 : Nat) : Rz Int32 :=
gfR h a0 [11] 3 (fun v1 =>
cl (ck h a1 [1, 2, 3, 4, 6, 8, 10] (fun c => match c with
| 1 => F_X6_daysAhead G h nx a1
| 2 => F_X6_daysAhead G h nx a1
| 3 => F_X6_daysAhead G h nx a1
| 4 => F_X4_daysAhead G h nx a1
| 6 => F_X6_daysAhead G h nx a1
| 8 => F_X6_daysAhead G h nx a1
| 10 => F_X6_daysAhead G h nx a1
| _ => none)) (fun r2 h3 n4 =>
nn v1 (fun p5 =>
ck h3 p5 [5] (fun _ =>
cl (F_X5_layAll G h3 n4 p5 r2) (fun _ h7 n8 =>
gfR h7 a0 [11] 3 (fun v9 =>
gfR h7 a0 [11] 5 (fun v10 =>
gfR h7 a0 [11] 0 (fun v11 =>
nn v11 (fun p12 =>
gfI h7 p12 [0] 16 (fun v13 =>
nn v10 (fun p14 =>
nn v9 (fun p15 =>
cl (ck h7 a1 [1, 2, 3, 4, 6, 8, 10] (fun c => match c with
| 1 => F_X10_chosen G h7 n8 a1 p15 p14 v13
| 2 => F_X6_chosen G h7 n8 a1 p15 p14 v13
| 3 => F_X6_chosen G h7 n8 a1 p15 p14 v13
| 4 => F_X6_chosen G h7 n8 a1 p15 p14 v13
| 6 => F_X6_chosen G h7 n8 a1 p15 p14 v13
| 8 => F_X8_chosen G h7 n8 a1 p15 p14 v13
| 10 => F_X10_chosen G h7 n8 a1 p15 p14 v13
| _ => none)) (fun r16 h17 n18 =>
some (r16, h17, n18))))))))))))))
set_option maxRecDepth 100000 in
set_option maxHeartbeats 4000000 in
theorem k_X11_whomNow {G : Gx} {d : Nat} {h : Hp} {nx : Nat} {a0 : Nat} {a1 : Nat} {v' : Int32} {h' : Hp} {n' : Nat} (e : F_X11_whomNow G h nx a0 a1 = some (v', h', n')) : Ct G mX11_whomNow (d + 6) (Same (some (.int v')) h' n') [.ref a0, .ref a1] h nx := by
  unfold F_X11_whomNow at e
  refine Ct.of (ls := [some (.ref a0), some (.ref a1)]) (by decide +kernel) rfl (Nat.le_of_ble_eq_true rfl) rfl ?_
  refine Ok.aload_n dX11_whomNow_0 rfl ?_
  refine X.rgfR fl_RX11_30 dX11_whomNow_1 e (fun v1 e1 => ?_)
  clear e
  refine Ok.aload_n dX11_whomNow_4 rfl ?_
  refine X.callC (n := 0) (As := []) (T := (fun v => (some (.int v)))) (stk' := (fun v => [.int v, va_rf v1])) (rest := [va_rf v1]) dX11_whomNow_5 (cs_le (cs_c (a := 1) (va_rf_cat _) cs_n) (by decide)) e1 (fun c hc => ?_) rfl rfl (Nat.le_of_ble_eq_true rfl) (Nat.le_of_ble_eq_true rfl) (fun _ => rfl) (fun r2 h3 n4 e2 => ?_)
  · simp only [List.mem_cons, List.not_mem_nil, or_false] at hc
    rcases hc with rfl | rfl | rfl | rfl | rfl | rfl | rfl
    · exact ⟨mX6_daysAhead, vu_RX11_184_1, fun v h n e2 => k_X6_daysAhead (d := d + 5) e2⟩
    · exact ⟨mX6_daysAhead, vu_RX11_184_2, fun v h n e2 => k_X6_daysAhead (d := d + 5) e2⟩
    · exact ⟨mX6_daysAhead, vu_RX11_184_3, fun v h n e2 => k_X6_daysAhead (d := d + 5) e2⟩
    · exact ⟨mX4_daysAhead, vu_RX11_184_4, fun v h n e2 => k_X4_daysAhead (d := d + 5) e2⟩
    · exact ⟨mX6_daysAhead, vu_RX11_184_6, fun v h n e2 => k_X6_daysAhead (d := d + 5) e2⟩
    · exact ⟨mX6_daysAhead, vu_RX11_184_8, fun v h n e2 => k_X6_daysAhead (d := d + 5) e2⟩
    · exact ⟨mX6_daysAhead, vu_RX11_184_10, fun v h n e2 => k_X6_daysAhead (d := d + 5) e2⟩
  clear e1
  refine X.rnn e2 (fun p5 q e3 => ?_)
  clear e2
  subst q
  refine X.rck e3 (fun c fs hb hc e4 => ?_)
  clear e3
  obtain rfl := List.mem_singleton.mp hc
  refine X.callV (My := mX5_layAll) (n := 1) (As := [.int r2]) (T := (fun v => none)) (stk' := (fun _ => [])) (rest := []) (kc' := 0) (ks' := 0) dX11_whomNow_8 e4 (fun v h n e => k_X5_layAll (d := d + 0) e) hb rfl wd740 wd78 wd738 wd739 wd737 (by decide +kernel) rfl (by decide) rfl rfl (Nat.le_of_ble_eq_true rfl) (Nat.le_of_ble_eq_true rfl) (Nat.le_of_ble_eq_true rfl) rfl rfl (fun _ => rfl) (fun _ h7 n8 e5 => ?_)
  clear e4
  refine Ok.aload_n dX11_whomNow_11 rfl ?_
  refine Ok.aload_n dX11_whomNow_12 rfl ?_
  refine X.rgfR fl_RX11_30 dX11_whomNow_13 e5 (fun v9 e6 => ?_)
  clear e5
  refine Ok.aload_n dX11_whomNow_16 rfl ?_
  refine X.rgfR fl_RX11_43 dX11_whomNow_17 e6 (fun v10 e7 => ?_)
  clear e6
  refine Ok.aload_n dX11_whomNow_20 rfl ?_
  refine X.rgfR fl_RX11_14 dX11_whomNow_21 e7 (fun v11 e8 => ?_)
  clear e7
  refine X.rnn e8 (fun p12 q e9 => ?_)
  clear e8
  subst q
  refine X.rgfI fl_RX11_114 dX11_whomNow_24 e9 (fun v13 e10 => ?_)
  clear e9
  refine X.rnn e10 (fun p14 q e11 => ?_)
  clear e10
  subst q
  refine X.rnn e11 (fun p15 q e12 => ?_)
  clear e11
  subst q
  refine X.callC (n := 3) (As := [.ref p15, .ref p14, .int v13]) (T := (fun v => (some (.int v)))) (stk' := (fun v => [.int v])) (rest := []) dX11_whomNow_27 (Nat.le_of_ble_eq_true rfl) e12 (fun c hc => ?_) rfl rfl (Nat.le_of_ble_eq_true rfl) (Nat.le_of_ble_eq_true rfl) (fun _ => rfl) (fun r16 h17 n18 e13 => ?_)
  · simp only [List.mem_cons, List.not_mem_nil, or_false] at hc
    rcases hc with rfl | rfl | rfl | rfl | rfl | rfl | rfl
    · exact ⟨mX10_chosen, vu_RX11_295_1, fun v h n e13 => k_X10_chosen (d := d + 4) e13⟩
    · exact ⟨mX6_chosen, vu_RX11_295_2, fun v h n e13 => k_X6_chosen (d := d + 1) e13⟩
    · exact ⟨mX6_chosen, vu_RX11_295_3, fun v h n e13 => k_X6_chosen (d := d + 1) e13⟩
    · exact ⟨mX6_chosen, vu_RX11_295_4, fun v h n e13 => k_X6_chosen (d := d + 1) e13⟩
    · exact ⟨mX6_chosen, vu_RX11_295_6, fun v h n e13 => k_X6_chosen (d := d + 1) e13⟩
    · exact ⟨mX8_chosen, vu_RX11_295_8, fun v h n e13 => k_X8_chosen (d := d + 3) e13⟩
    · exact ⟨mX10_chosen, vu_RX11_295_10, fun v h n e13 => k_X10_chosen (d := d + 4) e13⟩
  clear e12
  exact X.iret dX11_whomNow_30 rfl (Nat.le_of_ble_eq_true rfl) (Nat.le_of_ble_eq_true rfl) e13
noncomputable def F_X11_whom_22 (G : Gx) (h : Hp) (nx : Nat) (s0 : Int32) : Rz Int32 :=
some (s0, h, nx)
set_option maxRecDepth 100000 in
set_option maxHeartbeats 4000000 in
theorem k_X11_whom_22 {G : Gx} {d : Nat} {v' : Int32} {h' : Hp} {n' : Nat} {h : Hp} {nx : Nat} {s0 : Int32} (e : F_X11_whom_22 G h nx s0 = some (v', h', n')) : Ok G mX11_whom (d + 7) (Same (some (.int v')) h' n') 22 [none, none, none] [.int s0] h nx 0 0 := by
  unfold F_X11_whom_22 at e
  exact X.iret dX11_whom_22 rfl (Nat.le_of_ble_eq_true rfl) (Nat.le_of_ble_eq_true rfl) e
noncomputable def F_X11_whom (G : Gx) (h : Hp) (nx : Nat) (a0 : Nat) (a1 : Int32) : Rz Int32 :=
gfR h a0 [11] 0 (fun v1 =>
nn v1 (fun p2 =>
ck h p2 [0] (fun _ =>
cl (F_X0_planAt G h nx p2 a1) (fun r3 h4 n5 =>
qn r3 ((F_X11_whom_22 G h4 n5 (-1 : Int32))) (fun p6 =>
ck h4 a0 [11] (fun _ =>
cl (F_X11_whomNow G h4 n5 a0 p6) (fun r7 h8 n9 =>
(F_X11_whom_22 G h8 n9 r7))))))))
set_option maxRecDepth 100000 in
set_option maxHeartbeats 4000000 in
theorem k_X11_whom {G : Gx} {d : Nat} {h : Hp} {nx : Nat} {a0 : Nat} {a1 : Int32} {v' : Int32} {h' : Hp} {n' : Nat} (e : F_X11_whom G h nx a0 a1 = some (v', h', n')) : Ct G mX11_whom (d + 7) (Same (some (.int v')) h' n') [.ref a0, .int a1] h nx := by
  unfold F_X11_whom at e
  refine Ct.of (ls := [some (.ref a0), some (.int a1), none]) (by decide +kernel) rfl (Nat.le_of_ble_eq_true rfl) rfl ?_
  refine Ok.aload_n dX11_whom_0 rfl ?_
  refine X.rgfR fl_RX11_14 dX11_whom_1 e (fun v1 e1 => ?_)
  clear e
  refine Ok.iload_n dX11_whom_4 rfl ?_
  refine X.rnn e1 (fun p2 q e2 => ?_)
  clear e1
  subst q
  refine X.rck e2 (fun c fs hb hc e3 => ?_)
  clear e2
  obtain rfl := List.mem_singleton.mp hc
  refine X.callV (My := mX0_planAt) (n := 1) (As := [.int a1]) (T := (fun v => (some (va_rf v)))) (stk' := (fun v => [va_rf v])) (rest := []) (kc' := 0) (ks' := 0) dX11_whom_5 e3 (fun v h n e => k_X0_planAt (d := d + 6) e) hb rfl wd715 wd77 wd713 wd714 wd712 (by decide +kernel) rfl (by decide) rfl rfl (Nat.le_of_ble_eq_true rfl) (Nat.le_of_ble_eq_true rfl) (Nat.le_of_ble_eq_true rfl) rfl rfl (fun _ => rfl) (fun r3 h4 n5 e4 => ?_)
  clear e3
  refine XL.astore_nQ (r := r3) dX11_whom_8 (by decide) (L := [some (.ref a0), some (.int a1), some (va_rf r3)]) rfl ?_
  refine Ok.aload_nQ dX11_whom_9 rfl ?_
  refine X.ifnonnull (tgt := 17) dX11_whom_10 (by decide) e4 (fun q e5 => ?_) (fun p6 q e5 => ?_)
  · clear e4
    subst q
    refine Ok.iconstV (v := (-1 : Int32)) dX11_whom_13 (by decide +kernel) ?_
    refine Ok.goto (tgt := 22) dX11_whom_14 (by decide) ?_
    exact Ok.weakL (k_X11_whom_22 (d := d) e5) trivial
  · clear e4
    subst q
    refine Ok.aload_n dX11_whom_17 rfl ?_
    refine Ok.aload_n dX11_whom_18 rfl ?_
    refine X.rck e5 (fun c fs hb hc e6 => ?_)
    clear e5
    obtain rfl := List.mem_singleton.mp hc
    refine X.callV (My := mX11_whomNow) (n := 1) (As := [.ref p6]) (T := (fun v => (some (.int v)))) (stk' := (fun v => [.int v])) (rest := []) (kc' := 0) (ks' := 0) dX11_whom_19 e6 (fun v h n e => k_X11_whomNow (d := d + 0) e) hb rfl wd723 wd76 wd722 wd13 wd720 (by decide +kernel) rfl (by decide) rfl rfl (Nat.le_of_ble_eq_true rfl) (Nat.le_of_ble_eq_true rfl) (Nat.le_of_ble_eq_true rfl) rfl rfl (fun _ => rfl) (fun r7 h8 n9 e7 => ?_)
    clear e6
    exact Ok.weakL (k_X11_whom_22 (d := d) e7) trivial
noncomputable def F_X11_mean_22 (G : Gx) (h : Hp) (nx : Nat) : Rz Int64 :=
some ((-9223372036854775808 : Int64), h, nx)
set_option maxRecDepth 100000 in
set_option maxHeartbeats 4000000 in
theorem k_X11_mean_22 {G : Gx} {d : Nat} {v' : Int64} {h' : Hp} {n' : Nat} {h : Hp} {nx : Nat} (e : F_X11_mean_22 G h nx = some (v', h', n')) : Ok G mX11_mean (d + 71) (Same (some (.long v')) h' n') 22 [none, none, none, none] [] h nx 0 0 := by
  unfold F_X11_mean_22 at e
  refine Ok.ldc2_w (v := -9223372036854775808) dX11_mean_22 wd550 ?_
  exact X.lret dX11_mean_25 rfl (Nat.le_of_ble_eq_true rfl) (Nat.le_of_ble_eq_true rfl) e
noncomputable def F_X11_mean (G : Gx) (h : Hp) (nx : Nat) (a0 : Nat) (a1 : Int32) (a2 : Int32) : Rz Int64 :=
gfR h a0 [11] 0 (fun v1 =>
nn v1 (fun p2 =>
ck h p2 [0] (fun _ =>
cl (F_X0_planAt G h nx p2 a1) (fun r3 h4 n5 =>
qn r3 ((F_X11_mean_22 G h4 n5)) (fun p6 =>
cl (F_X11_within G h4 n5 a2 (nI 1) (nI 3)) (fun r7 h8 n9 =>
if r7 = 0 then
(F_X11_mean_22 G h8 n9)
else
gfR h8 a0 [11] 3 (fun v10 =>
cl (ck h8 p6 [1, 2, 3, 4, 6, 8, 10] (fun c => match c with
| 1 => F_X6_daysAhead G h8 n9 p6
| 2 => F_X6_daysAhead G h8 n9 p6
| 3 => F_X6_daysAhead G h8 n9 p6
| 4 => F_X4_daysAhead G h8 n9 p6
| 6 => F_X6_daysAhead G h8 n9 p6
| 8 => F_X6_daysAhead G h8 n9 p6
| 10 => F_X6_daysAhead G h8 n9 p6
| _ => none)) (fun r11 h12 n13 =>
nn v10 (fun p14 =>
ck h12 p14 [5] (fun _ =>
cl (F_X5_layAll G h12 n13 p14 ((a2 + r11))) (fun _ h16 n17 =>
gfR h16 a0 [11] 4 (fun v18 =>
nn v18 (fun p19 =>
ck h16 p19 [9] (fun _ =>
cl (F_X9_meanOf G h16 n17 p19 p6 a2) (fun r20 h21 n22 =>
some (r20, h21, n22))))))))))))))))
set_option maxRecDepth 100000 in
set_option maxHeartbeats 4000000 in
theorem k_X11_mean {G : Gx} {d : Nat} {h : Hp} {nx : Nat} {a0 : Nat} {a1 : Int32} {a2 : Int32} {v' : Int64} {h' : Hp} {n' : Nat} (e : F_X11_mean G h nx a0 a1 a2 = some (v', h', n')) : Ct G mX11_mean (d + 71) (Same (some (.long v')) h' n') [.ref a0, .int a1, .int a2] h nx := by
  unfold F_X11_mean at e
  refine Ct.of (ls := [some (.ref a0), some (.int a1), some (.int a2), none]) (by decide +kernel) rfl (Nat.le_of_ble_eq_true rfl) rfl ?_
  refine Ok.aload_n dX11_mean_0 rfl ?_
  refine X.rgfR fl_RX11_14 dX11_mean_1 e (fun v1 e1 => ?_)
  clear e
  refine Ok.iload_n dX11_mean_4 rfl ?_
  refine X.rnn e1 (fun p2 q e2 => ?_)
  clear e1
  subst q
  refine X.rck e2 (fun c fs hb hc e3 => ?_)
  clear e2
  obtain rfl := List.mem_singleton.mp hc
  refine X.callV (My := mX0_planAt) (n := 1) (As := [.int a1]) (T := (fun v => (some (va_rf v)))) (stk' := (fun v => [va_rf v])) (rest := []) (kc' := 0) (ks' := 0) dX11_mean_5 e3 (fun v h n e => k_X0_planAt (d := d + 70) e) hb rfl wd715 wd77 wd713 wd714 wd712 (by decide +kernel) rfl (by decide) rfl rfl (Nat.le_of_ble_eq_true rfl) (Nat.le_of_ble_eq_true rfl) (Nat.le_of_ble_eq_true rfl) rfl rfl (fun _ => rfl) (fun r3 h4 n5 e4 => ?_)
  clear e3
  refine XL.astore_nQ (r := r3) dX11_mean_8 (by decide) (L := [some (.ref a0), some (.int a1), some (.int a2), some (va_rf r3)]) rfl ?_
  refine Ok.aload_nQ dX11_mean_9 rfl ?_
  refine X.ifnull (tgt := 22) dX11_mean_10 (by decide) e4 (fun q e5 => ?_) (fun p6 q e5 => ?_)
  · clear e4
    subst q
    exact Ok.weakL (k_X11_mean_22 (d := d) e5) trivial
  · clear e4
    subst q
    refine Ok.iload_n dX11_mean_13 rfl ?_
    refine Ok.iconstV (v := (nI 1)) dX11_mean_14 (by decide +kernel) ?_
    refine Ok.iconstV (v := (nI 3)) dX11_mean_15 (by decide +kernel) ?_
    refine X.callS (My := mX11_within) (n := 3) (As := [.int a2, .int (nI 1), .int (nI 3)]) (T := (fun v => (some (.int v)))) (stk' := (fun v => [.int v])) (rest := []) (kc' := 0) (ks' := 0) dX11_mean_16 e5 (fun v h n e => k_X11_within (d := d + 70) e) wd495 wd76 wd494 wd493 (by decide +kernel) rfl (by decide) rfl rfl (Nat.le_of_ble_eq_true rfl) (Nat.le_of_ble_eq_true rfl) (Nat.le_of_ble_eq_true rfl) rfl rfl (fun _ => rfl) (fun r7 h8 n9 e6 => ?_)
    clear e5
    refine X.if_ne (tgt := 26) dX11_mean_19 (by decide) e6 (fun e7 => ?_) (fun e7 => ?_)
    · clear e6
      refine Ok.aload_n dX11_mean_26 rfl ?_
      refine X.rgfR fl_RX11_30 dX11_mean_27 e7 (fun v10 e8 => ?_)
      clear e7
      refine Ok.iload_n dX11_mean_30 rfl ?_
      refine Ok.aload_n dX11_mean_31 rfl ?_
      refine X.callC (n := 0) (As := []) (T := (fun v => (some (.int v)))) (stk' := (fun v => [.int v, .int a2, va_rf v10])) (rest := [.int a2, va_rf v10]) dX11_mean_32 (cs_le (cs_c (a := 1) rfl (cs_c (a := 1) (va_rf_cat _) cs_n)) (by decide)) e8 (fun c hc => ?_) rfl rfl (Nat.le_of_ble_eq_true rfl) (Nat.le_of_ble_eq_true rfl) (fun _ => rfl) (fun r11 h12 n13 e9 => ?_)
      · simp only [List.mem_cons, List.not_mem_nil, or_false] at hc
        rcases hc with rfl | rfl | rfl | rfl | rfl | rfl | rfl
        · exact ⟨mX6_daysAhead, vu_RX11_184_1, fun v h n e9 => k_X6_daysAhead (d := d + 70) e9⟩
        · exact ⟨mX6_daysAhead, vu_RX11_184_2, fun v h n e9 => k_X6_daysAhead (d := d + 70) e9⟩
        · exact ⟨mX6_daysAhead, vu_RX11_184_3, fun v h n e9 => k_X6_daysAhead (d := d + 70) e9⟩
        · exact ⟨mX4_daysAhead, vu_RX11_184_4, fun v h n e9 => k_X4_daysAhead (d := d + 70) e9⟩
        · exact ⟨mX6_daysAhead, vu_RX11_184_6, fun v h n e9 => k_X6_daysAhead (d := d + 70) e9⟩
        · exact ⟨mX6_daysAhead, vu_RX11_184_8, fun v h n e9 => k_X6_daysAhead (d := d + 70) e9⟩
        · exact ⟨mX6_daysAhead, vu_RX11_184_10, fun v h n e9 => k_X6_daysAhead (d := d + 70) e9⟩
      clear e8
      refine Ok.iadd dX11_mean_35 ?_
      refine X.rnn e9 (fun p14 q e10 => ?_)
      clear e9
      subst q
      refine X.rck e10 (fun c fs hb hc e11 => ?_)
      clear e10
      obtain rfl := List.mem_singleton.mp hc
      refine X.callV (My := mX5_layAll) (n := 1) (As := [.int ((a2 + r11))]) (T := (fun v => none)) (stk' := (fun _ => [])) (rest := []) (kc' := 0) (ks' := 0) dX11_mean_36 e11 (fun v h n e => k_X5_layAll (d := d + 65) e) hb rfl wd740 wd78 wd738 wd739 wd737 (by decide +kernel) rfl (by decide) rfl rfl (Nat.le_of_ble_eq_true rfl) (Nat.le_of_ble_eq_true rfl) (Nat.le_of_ble_eq_true rfl) rfl rfl (fun _ => rfl) (fun _ h16 n17 e12 => ?_)
      clear e11
      refine Ok.aload_n dX11_mean_39 rfl ?_
      refine X.rgfR fl_RX11_39 dX11_mean_40 e12 (fun v18 e13 => ?_)
      clear e12
      refine Ok.aload_n dX11_mean_43 rfl ?_
      refine Ok.iload_n dX11_mean_44 rfl ?_
      refine X.rnn e13 (fun p19 q e14 => ?_)
      clear e13
      subst q
      refine X.rck e14 (fun c fs hb hc e15 => ?_)
      clear e14
      obtain rfl := List.mem_singleton.mp hc
      refine X.callV (My := mX9_meanOf) (n := 2) (As := [.ref p6, .int a2]) (T := (fun v => (some (.long v)))) (stk' := (fun v => [.long v])) (rest := []) (kc' := 0) (ks' := 0) dX11_mean_45 e15 (fun v h n e => k_X9_meanOf (d := d + 0) e) hb rfl wd815 wd79 wd813 wd814 wd812 (by decide +kernel) rfl (by decide) rfl rfl (Nat.le_of_ble_eq_true rfl) (Nat.le_of_ble_eq_true rfl) (Nat.le_of_ble_eq_true rfl) rfl rfl (fun _ => rfl) (fun r20 h21 n22 e16 => ?_)
      clear e15
      exact X.lret dX11_mean_48 rfl (Nat.le_of_ble_eq_true rfl) (Nat.le_of_ble_eq_true rfl) e16
    · clear e6
      exact Ok.weakL (k_X11_mean_22 (d := d) e7) trivial
noncomputable def F_X11_all_28 (G : Gx) (h : Hp) (nx : Nat) : Rz Int64 :=
some ((-9223372036854775808 : Int64), h, nx)
set_option maxRecDepth 100000 in
set_option maxHeartbeats 4000000 in
theorem k_X11_all_28 {G : Gx} {d : Nat} {v' : Int64} {h' : Hp} {n' : Nat} {h : Hp} {nx : Nat} (e : F_X11_all_28 G h nx = some (v', h', n')) : Ok G mX11_all (d + 71) (Same (some (.long v')) h' n') 28 [none, none, none, none, none] [] h nx 0 0 := by
  unfold F_X11_all_28 at e
  refine Ok.ldc2_w (v := -9223372036854775808) dX11_all_28 wd550 ?_
  exact X.lret dX11_all_31 rfl (Nat.le_of_ble_eq_true rfl) (Nat.le_of_ble_eq_true rfl) e
noncomputable def F_X11_all_65 (G : Gx) (h : Hp) (nx : Nat) (s0 : Int64) : Rz Int64 :=
some (s0, h, nx)
set_option maxRecDepth 100000 in
set_option maxHeartbeats 4000000 in
theorem k_X11_all_65 {G : Gx} {d : Nat} {v' : Int64} {h' : Hp} {n' : Nat} {h : Hp} {nx : Nat} {s0 : Int64} (e : F_X11_all_65 G h nx s0 = some (v', h', n')) : Ok G mX11_all (d + 71) (Same (some (.long v')) h' n') 65 [none, none, none, none, none] [.long s0] h nx 0 0 := by
  unfold F_X11_all_65 at e
  exact X.lret dX11_all_65 rfl (Nat.le_of_ble_eq_true rfl) (Nat.le_of_ble_eq_true rfl) e
noncomputable def F_X11_all (G : Gx) (h : Hp) (nx : Nat) (a0 : Nat) (a1 : Int32) (a2 : Int32) : Rz Int64 :=
cl (F_X11_within G h nx a1 (nI 1) (nI 2)) (fun r1 h2 n3 =>
if r1 = 0 then
(F_X11_all_28 G h2 n3)
else
cl (F_X11_within G h2 n3 a2 (nI 0) (nI 1)) (fun r4 h5 n6 =>
if r4 = 0 then
(F_X11_all_28 G h5 n6)
else
gfR h5 a0 [11] 0 (fun v7 =>
nn v7 (fun p8 =>
gfI h5 p8 [0] 11 (fun v9 =>
if v9 = 0 then
(F_X11_all_28 G h5 n6)
else
gfR h5 a0 [11] 3 (fun v10 =>
nn v10 (fun p11 =>
ck h5 p11 [5] (fun _ =>
cl (F_X5_layAll G h5 n6 p11 a1) (fun _ h13 n14 =>
gfR h13 a0 [11] 4 (fun v15 =>
nn v15 (fun p16 =>
ck h13 p16 [9] (fun _ =>
cl (F_X9_greatestMean G h13 n14 p16 a1) (fun r17 h18 n19 =>
if a2 = 0 then
(F_X11_all_65 G h18 n19 r17)
else
gfR h18 a0 [11] 4 (fun v20 =>
nn v20 (fun p21 =>
gfI h18 p21 [9] 9 (fun v22 =>
(F_X11_all_65 G h18 n19 (v22.toInt64))))))))))))))))))
set_option maxRecDepth 100000 in
set_option maxHeartbeats 4000000 in
theorem k_X11_all {G : Gx} {d : Nat} {h : Hp} {nx : Nat} {a0 : Nat} {a1 : Int32} {a2 : Int32} {v' : Int64} {h' : Hp} {n' : Nat} (e : F_X11_all G h nx a0 a1 a2 = some (v', h', n')) : Ct G mX11_all (d + 71) (Same (some (.long v')) h' n') [.ref a0, .int a1, .int a2] h nx := by
  unfold F_X11_all at e
  refine Ct.of (ls := [some (.ref a0), some (.int a1), some (.int a2), none, none]) (by decide +kernel) rfl (Nat.le_of_ble_eq_true rfl) rfl ?_
  refine Ok.iload_n dX11_all_0 rfl ?_
  refine Ok.iconstV (v := (nI 1)) dX11_all_1 (by decide +kernel) ?_
  refine Ok.iconstV (v := (nI 2)) dX11_all_2 (by decide +kernel) ?_
  refine X.callS (My := mX11_within) (n := 3) (As := [.int a1, .int (nI 1), .int (nI 2)]) (T := (fun v => (some (.int v)))) (stk' := (fun v => [.int v])) (rest := []) (kc' := 0) (ks' := 0) dX11_all_3 e (fun v h n e => k_X11_within (d := d + 70) e) wd495 wd76 wd494 wd493 (by decide +kernel) rfl (by decide) rfl rfl (Nat.le_of_ble_eq_true rfl) (Nat.le_of_ble_eq_true rfl) (Nat.le_of_ble_eq_true rfl) rfl rfl (fun _ => rfl) (fun r1 h2 n3 e1 => ?_)
  clear e
  refine X.if_eq (tgt := 28) dX11_all_6 (by decide) e1 (fun e2 => ?_) (fun e2 => ?_)
  · clear e1
    exact Ok.weakL (k_X11_all_28 (d := d) e2) trivial
  · clear e1
    refine Ok.iload_n dX11_all_9 rfl ?_
    refine Ok.iconstV (v := (nI 0)) dX11_all_10 (by decide +kernel) ?_
    refine Ok.iconstV (v := (nI 1)) dX11_all_11 (by decide +kernel) ?_
    refine X.callS (My := mX11_within) (n := 3) (As := [.int a2, .int (nI 0), .int (nI 1)]) (T := (fun v => (some (.int v)))) (stk' := (fun v => [.int v])) (rest := []) (kc' := 0) (ks' := 0) dX11_all_12 e2 (fun v h n e => k_X11_within (d := d + 70) e) wd495 wd76 wd494 wd493 (by decide +kernel) rfl (by decide) rfl rfl (Nat.le_of_ble_eq_true rfl) (Nat.le_of_ble_eq_true rfl) (Nat.le_of_ble_eq_true rfl) rfl rfl (fun _ => rfl) (fun r4 h5 n6 e3 => ?_)
    clear e2
    refine X.if_eq (tgt := 28) dX11_all_15 (by decide) e3 (fun e4 => ?_) (fun e4 => ?_)
    · clear e3
      exact Ok.weakL (k_X11_all_28 (d := d) e4) trivial
    · clear e3
      refine Ok.aload_n dX11_all_18 rfl ?_
      refine X.rgfR fl_RX11_14 dX11_all_19 e4 (fun v7 e5 => ?_)
      clear e4
      refine X.rnn e5 (fun p8 q e6 => ?_)
      clear e5
      subst q
      refine X.rgfI fl_RX11_85 dX11_all_22 e6 (fun v9 e7 => ?_)
      clear e6
      refine X.if_ne (tgt := 32) dX11_all_25 (by decide) e7 (fun e8 => ?_) (fun e8 => ?_)
      · clear e7
        refine Ok.aload_n dX11_all_32 rfl ?_
        refine X.rgfR fl_RX11_30 dX11_all_33 e8 (fun v10 e9 => ?_)
        clear e8
        refine Ok.iload_n dX11_all_36 rfl ?_
        refine X.rnn e9 (fun p11 q e10 => ?_)
        clear e9
        subst q
        refine X.rck e10 (fun c fs hb hc e11 => ?_)
        clear e10
        obtain rfl := List.mem_singleton.mp hc
        refine X.callV (My := mX5_layAll) (n := 1) (As := [.int a1]) (T := (fun v => none)) (stk' := (fun _ => [])) (rest := []) (kc' := 0) (ks' := 0) dX11_all_37 e11 (fun v h n e => k_X5_layAll (d := d + 65) e) hb rfl wd740 wd78 wd738 wd739 wd737 (by decide +kernel) rfl (by decide) rfl rfl (Nat.le_of_ble_eq_true rfl) (Nat.le_of_ble_eq_true rfl) (Nat.le_of_ble_eq_true rfl) rfl rfl (fun _ => rfl) (fun _ h13 n14 e12 => ?_)
        clear e11
        refine Ok.aload_n dX11_all_40 rfl ?_
        refine X.rgfR fl_RX11_39 dX11_all_41 e12 (fun v15 e13 => ?_)
        clear e12
        refine Ok.iload_n dX11_all_44 rfl ?_
        refine X.rnn e13 (fun p16 q e14 => ?_)
        clear e13
        subst q
        refine X.rck e14 (fun c fs hb hc e15 => ?_)
        clear e14
        obtain rfl := List.mem_singleton.mp hc
        refine X.callV (My := mX9_greatestMean) (n := 1) (As := [.int a1]) (T := (fun v => (some (.long v)))) (stk' := (fun v => [.long v])) (rest := []) (kc' := 0) (ks' := 0) dX11_all_45 e15 (fun v h n e => k_X9_greatestMean (d := d + 0) e) hb rfl wd863 wd79 wd861 wd862 wd860 (by decide +kernel) rfl (by decide) rfl rfl (Nat.le_of_ble_eq_true rfl) (Nat.le_of_ble_eq_true rfl) (Nat.le_of_ble_eq_true rfl) rfl rfl (fun _ => rfl) (fun r17 h18 n19 e16 => ?_)
        clear e15
        refine XL.lstore_n dX11_all_48 (by decide) (L := [some (.ref a0), some (.int a1), some (.int a2), some (.long r17), none]) rfl ?_
        refine Ok.iload_n dX11_all_49 rfl ?_
        refine X.if_ne (tgt := 57) dX11_all_50 (by decide) e16 (fun e17 => ?_) (fun e17 => ?_)
        · clear e16
          refine Ok.aload_n dX11_all_57 rfl ?_
          refine X.rgfR fl_RX11_39 dX11_all_58 e17 (fun v20 e18 => ?_)
          clear e17
          refine X.rnn e18 (fun p21 q e19 => ?_)
          clear e18
          subst q
          refine X.rgfI fl_RX11_201 dX11_all_61 e19 (fun v22 e20 => ?_)
          clear e19
          refine Ok.i2l dX11_all_64 ?_
          exact Ok.weakL (k_X11_all_65 (d := d) e20) trivial
        · clear e16
          refine Ok.lload_n dX11_all_53 rfl ?_
          refine Ok.goto (tgt := 65) dX11_all_54 (by decide) ?_
          exact Ok.weakL (k_X11_all_65 (d := d) e17) trivial
      · clear e7
        exact Ok.weakL (k_X11_all_28 (d := d) e8) trivial
noncomputable def F_X11_loses_32 (G : Gx) (h : Hp) (nx : Nat) : Rz Int64 :=
some ((-9223372036854775808 : Int64), h, nx)
set_option maxRecDepth 100000 in
set_option maxHeartbeats 4000000 in
theorem k_X11_loses_32 {G : Gx} {d : Nat} {v' : Int64} {h' : Hp} {n' : Nat} {h : Hp} {nx : Nat} (e : F_X11_loses_32 G h nx = some (v', h', n')) : Ok G mX11_loses (d + 71) (Same (some (.long v')) h' n') 32 [none, none, none, none] [] h nx 0 0 := by
  unfold F_X11_loses_32 at e
  refine Ok.ldc2_w (v := -9223372036854775808) dX11_loses_32 wd550 ?_
  exact X.lret dX11_loses_35 rfl (Nat.le_of_ble_eq_true rfl) (Nat.le_of_ble_eq_true rfl) e
noncomputable def F_X11_loses (G : Gx) (h : Hp) (nx : Nat) (a0 : Nat) (a1 : Int32) (a2 : Int32) : Rz Int64 :=
gfR h a0 [11] 0 (fun v1 =>
nn v1 (fun p2 =>
ck h p2 [0] (fun _ =>
cl (F_X0_planAt G h nx p2 a1) (fun r3 h4 n5 =>
qn r3 ((F_X11_loses_32 G h4 n5)) (fun p6 =>
cl (F_X11_within G h4 n5 a2 (nI 1) (nI 2)) (fun r7 h8 n9 =>
if r7 = 0 then
(F_X11_loses_32 G h8 n9)
else
gfR h8 a0 [11] 0 (fun v10 =>
nn v10 (fun p11 =>
gfI h8 p11 [0] 11 (fun v12 =>
if v12 = 0 then
(F_X11_loses_32 G h8 n9)
else
gfR h8 a0 [11] 3 (fun v13 =>
cl (ck h8 p6 [1, 2, 3, 4, 6, 8, 10] (fun c => match c with
| 1 => F_X6_daysAhead G h8 n9 p6
| 2 => F_X6_daysAhead G h8 n9 p6
| 3 => F_X6_daysAhead G h8 n9 p6
| 4 => F_X4_daysAhead G h8 n9 p6
| 6 => F_X6_daysAhead G h8 n9 p6
| 8 => F_X6_daysAhead G h8 n9 p6
| 10 => F_X6_daysAhead G h8 n9 p6
| _ => none)) (fun r14 h15 n16 =>
nn v13 (fun p17 =>
ck h15 p17 [5] (fun _ =>
cl (F_X5_layAll G h15 n16 p17 ((a2 + r14))) (fun _ h19 n20 =>
gfR h19 a0 [11] 4 (fun v21 =>
nn v21 (fun p22 =>
ck h19 p22 [9] (fun _ =>
cl (F_X9_greatestMean G h19 n20 p22 a2) (fun r23 h24 n25 =>
gfR h24 a0 [11] 4 (fun v26 =>
nn v26 (fun p27 =>
ck h24 p27 [9] (fun _ =>
cl (F_X9_meanOf G h24 n25 p27 p6 a2) (fun r28 h29 n30 =>
some (((r23 - r28)), h29, n30)))))))))))))))))))))))
set_option maxRecDepth 100000 in
set_option maxHeartbeats 4000000 in
theorem k_X11_loses {G : Gx} {d : Nat} {h : Hp} {nx : Nat} {a0 : Nat} {a1 : Int32} {a2 : Int32} {v' : Int64} {h' : Hp} {n' : Nat} (e : F_X11_loses G h nx a0 a1 a2 = some (v', h', n')) : Ct G mX11_loses (d + 71) (Same (some (.long v')) h' n') [.ref a0, .int a1, .int a2] h nx := by
  unfold F_X11_loses at e
  refine Ct.of (ls := [some (.ref a0), some (.int a1), some (.int a2), none]) (by decide +kernel) rfl (Nat.le_of_ble_eq_true rfl) rfl ?_
  refine Ok.aload_n dX11_loses_0 rfl ?_
  refine X.rgfR fl_RX11_14 dX11_loses_1 e (fun v1 e1 => ?_)
  clear e
  refine Ok.iload_n dX11_loses_4 rfl ?_
  refine X.rnn e1 (fun p2 q e2 => ?_)
  clear e1
  subst q
  refine X.rck e2 (fun c fs hb hc e3 => ?_)
  clear e2
  obtain rfl := List.mem_singleton.mp hc
  refine X.callV (My := mX0_planAt) (n := 1) (As := [.int a1]) (T := (fun v => (some (va_rf v)))) (stk' := (fun v => [va_rf v])) (rest := []) (kc' := 0) (ks' := 0) dX11_loses_5 e3 (fun v h n e => k_X0_planAt (d := d + 70) e) hb rfl wd715 wd77 wd713 wd714 wd712 (by decide +kernel) rfl (by decide) rfl rfl (Nat.le_of_ble_eq_true rfl) (Nat.le_of_ble_eq_true rfl) (Nat.le_of_ble_eq_true rfl) rfl rfl (fun _ => rfl) (fun r3 h4 n5 e4 => ?_)
  clear e3
  refine XL.astore_nQ (r := r3) dX11_loses_8 (by decide) (L := [some (.ref a0), some (.int a1), some (.int a2), some (va_rf r3)]) rfl ?_
  refine Ok.aload_nQ dX11_loses_9 rfl ?_
  refine X.ifnull (tgt := 32) dX11_loses_10 (by decide) e4 (fun q e5 => ?_) (fun p6 q e5 => ?_)
  · clear e4
    subst q
    exact Ok.weakL (k_X11_loses_32 (d := d) e5) trivial
  · clear e4
    subst q
    refine Ok.iload_n dX11_loses_13 rfl ?_
    refine Ok.iconstV (v := (nI 1)) dX11_loses_14 (by decide +kernel) ?_
    refine Ok.iconstV (v := (nI 2)) dX11_loses_15 (by decide +kernel) ?_
    refine X.callS (My := mX11_within) (n := 3) (As := [.int a2, .int (nI 1), .int (nI 2)]) (T := (fun v => (some (.int v)))) (stk' := (fun v => [.int v])) (rest := []) (kc' := 0) (ks' := 0) dX11_loses_16 e5 (fun v h n e => k_X11_within (d := d + 70) e) wd495 wd76 wd494 wd493 (by decide +kernel) rfl (by decide) rfl rfl (Nat.le_of_ble_eq_true rfl) (Nat.le_of_ble_eq_true rfl) (Nat.le_of_ble_eq_true rfl) rfl rfl (fun _ => rfl) (fun r7 h8 n9 e6 => ?_)
    clear e5
    refine X.if_eq (tgt := 32) dX11_loses_19 (by decide) e6 (fun e7 => ?_) (fun e7 => ?_)
    · clear e6
      exact Ok.weakL (k_X11_loses_32 (d := d) e7) trivial
    · clear e6
      refine Ok.aload_n dX11_loses_22 rfl ?_
      refine X.rgfR fl_RX11_14 dX11_loses_23 e7 (fun v10 e8 => ?_)
      clear e7
      refine X.rnn e8 (fun p11 q e9 => ?_)
      clear e8
      subst q
      refine X.rgfI fl_RX11_85 dX11_loses_26 e9 (fun v12 e10 => ?_)
      clear e9
      refine X.if_ne (tgt := 36) dX11_loses_29 (by decide) e10 (fun e11 => ?_) (fun e11 => ?_)
      · clear e10
        refine Ok.aload_n dX11_loses_36 rfl ?_
        refine X.rgfR fl_RX11_30 dX11_loses_37 e11 (fun v13 e12 => ?_)
        clear e11
        refine Ok.iload_n dX11_loses_40 rfl ?_
        refine Ok.aload_n dX11_loses_41 rfl ?_
        refine X.callC (n := 0) (As := []) (T := (fun v => (some (.int v)))) (stk' := (fun v => [.int v, .int a2, va_rf v13])) (rest := [.int a2, va_rf v13]) dX11_loses_42 (cs_le (cs_c (a := 1) rfl (cs_c (a := 1) (va_rf_cat _) cs_n)) (by decide)) e12 (fun c hc => ?_) rfl rfl (Nat.le_of_ble_eq_true rfl) (Nat.le_of_ble_eq_true rfl) (fun _ => rfl) (fun r14 h15 n16 e13 => ?_)
        · simp only [List.mem_cons, List.not_mem_nil, or_false] at hc
          rcases hc with rfl | rfl | rfl | rfl | rfl | rfl | rfl
          · exact ⟨mX6_daysAhead, vu_RX11_184_1, fun v h n e13 => k_X6_daysAhead (d := d + 70) e13⟩
          · exact ⟨mX6_daysAhead, vu_RX11_184_2, fun v h n e13 => k_X6_daysAhead (d := d + 70) e13⟩
          · exact ⟨mX6_daysAhead, vu_RX11_184_3, fun v h n e13 => k_X6_daysAhead (d := d + 70) e13⟩
          · exact ⟨mX4_daysAhead, vu_RX11_184_4, fun v h n e13 => k_X4_daysAhead (d := d + 70) e13⟩
          · exact ⟨mX6_daysAhead, vu_RX11_184_6, fun v h n e13 => k_X6_daysAhead (d := d + 70) e13⟩
          · exact ⟨mX6_daysAhead, vu_RX11_184_8, fun v h n e13 => k_X6_daysAhead (d := d + 70) e13⟩
          · exact ⟨mX6_daysAhead, vu_RX11_184_10, fun v h n e13 => k_X6_daysAhead (d := d + 70) e13⟩
        clear e12
        refine Ok.iadd dX11_loses_45 ?_
        refine X.rnn e13 (fun p17 q e14 => ?_)
        clear e13
        subst q
        refine X.rck e14 (fun c fs hb hc e15 => ?_)
        clear e14
        obtain rfl := List.mem_singleton.mp hc
        refine X.callV (My := mX5_layAll) (n := 1) (As := [.int ((a2 + r14))]) (T := (fun v => none)) (stk' := (fun _ => [])) (rest := []) (kc' := 0) (ks' := 0) dX11_loses_46 e15 (fun v h n e => k_X5_layAll (d := d + 65) e) hb rfl wd740 wd78 wd738 wd739 wd737 (by decide +kernel) rfl (by decide) rfl rfl (Nat.le_of_ble_eq_true rfl) (Nat.le_of_ble_eq_true rfl) (Nat.le_of_ble_eq_true rfl) rfl rfl (fun _ => rfl) (fun _ h19 n20 e16 => ?_)
        clear e15
        refine Ok.aload_n dX11_loses_49 rfl ?_
        refine X.rgfR fl_RX11_39 dX11_loses_50 e16 (fun v21 e17 => ?_)
        clear e16
        refine Ok.iload_n dX11_loses_53 rfl ?_
        refine X.rnn e17 (fun p22 q e18 => ?_)
        clear e17
        subst q
        refine X.rck e18 (fun c fs hb hc e19 => ?_)
        clear e18
        obtain rfl := List.mem_singleton.mp hc
        refine X.callV (My := mX9_greatestMean) (n := 1) (As := [.int a2]) (T := (fun v => (some (.long v)))) (stk' := (fun v => [.long v])) (rest := []) (kc' := 0) (ks' := 0) dX11_loses_54 e19 (fun v h n e => k_X9_greatestMean (d := d + 0) e) hb rfl wd863 wd79 wd861 wd862 wd860 (by decide +kernel) rfl (by decide) rfl rfl (Nat.le_of_ble_eq_true rfl) (Nat.le_of_ble_eq_true rfl) (Nat.le_of_ble_eq_true rfl) rfl rfl (fun _ => rfl) (fun r23 h24 n25 e20 => ?_)
        clear e19
        refine Ok.aload_n dX11_loses_57 rfl ?_
        refine X.rgfR fl_RX11_39 dX11_loses_58 e20 (fun v26 e21 => ?_)
        clear e20
        refine Ok.aload_n dX11_loses_61 rfl ?_
        refine Ok.iload_n dX11_loses_62 rfl ?_
        refine X.rnn e21 (fun p27 q e22 => ?_)
        clear e21
        subst q
        refine X.rck e22 (fun c fs hb hc e23 => ?_)
        clear e22
        obtain rfl := List.mem_singleton.mp hc
        refine X.callV (My := mX9_meanOf) (n := 2) (As := [.ref p6, .int a2]) (T := (fun v => (some (.long v)))) (stk' := (fun v => [.long v, .long r23])) (rest := [.long r23]) (kc' := 0) (ks' := 0) dX11_loses_63 e23 (fun v h n e => k_X9_meanOf (d := d + 0) e) hb rfl wd815 wd79 wd813 wd814 wd812 (by decide +kernel) rfl (by decide) rfl rfl (Nat.le_of_ble_eq_true rfl) (Nat.le_of_ble_eq_true rfl) (Nat.le_of_ble_eq_true rfl) rfl rfl (fun _ => rfl) (fun r28 h29 n30 e24 => ?_)
        clear e23
        refine Ok.lsub dX11_loses_66 ?_
        exact X.lret dX11_loses_67 rfl (Nat.le_of_ble_eq_true rfl) (Nat.le_of_ble_eq_true rfl) e24
      · clear e10
        exact Ok.weakL (k_X11_loses_32 (d := d) e11) trivial
noncomputable def F_X11_bound_60 (G : Gx) : Nat → Hp → Nat → Nat → Int32 → Int64 → Int64 → Int32 → Rz Int64 := fun n => Nat.rec (motive := fun _ => Hp → Nat → Nat → Int32 → Int64 → Int64 → Int32 → Rz Int64) (fun _ _ _ _ _ _ _ => none) (fun _ k60 => fun h nx l0 l1 l2 l4 l6 =>
if (nI 200) < l6 then
some (l4, h, nx)
else
gfR h l0 [11] 3 (fun v1 =>
nn v1 (fun p2 =>
ck h p2 [5] (fun _ =>
cl (F_X5_sumAlone G h nx p2 l6 l1) (fun r3 h4 n5 =>
nm (mnJ l4 ((r3 - (((l6.toInt64) * l2))))) (fun v6 =>
nm (l6 + (nI 1)) (fun v7 =>
(k60 h4 n5 l0 l1 l2 v6 v7)))))))) n
theorem F_X11_bound_60_0 {G : Gx} {h : Hp} {nx : Nat} {l0 : Nat} {l1 : Int32} {l2 : Int64} {l4 : Int64} {l6 : Int32} : F_X11_bound_60 G 0 h nx l0 l1 l2 l4 l6 = none := rfl
theorem F_X11_bound_60_s {G : Gx} {n : Nat} {h : Hp} {nx : Nat} {l0 : Nat} {l1 : Int32} {l2 : Int64} {l4 : Int64} {l6 : Int32} : F_X11_bound_60 G (n + 1) h nx l0 l1 l2 l4 l6 = (
if (nI 200) < l6 then
some (l4, h, nx)
else
gfR h l0 [11] 3 (fun v1 =>
nn v1 (fun p2 =>
ck h p2 [5] (fun _ =>
cl (F_X5_sumAlone G h nx p2 l6 l1) (fun r3 h4 n5 =>
nm (mnJ l4 ((r3 - (((l6.toInt64) * l2))))) (fun v6 =>
nm (l6 + (nI 1)) (fun v7 =>
((F_X11_bound_60 G n) h4 n5 l0 l1 l2 v6 v7)))))))) := rfl
set_option maxRecDepth 100000 in
set_option maxHeartbeats 4000000 in
theorem k_X11_bound_60 {G : Gx} {d : Nat} {v' : Int64} {h' : Hp} {n' : Nat} : ∀ (n : Nat) {h : Hp} {nx : Nat} {l0 : Nat} {l1 : Int32} {l2 : Int64} {l4 : Int64} {l6 : Int32}, F_X11_bound_60 G n h nx l0 l1 l2 l4 l6 = some (v', h', n') → Ok G mX11_bound (d + 6) (Same (some (.long v')) h' n') 60 [some (.ref l0), some (.int l1), some (.long l2), none, some (.long l4), none, some (.int l6)] [] h nx 0 0 := by
  intro n
  induction n with
  | zero =>
    intro h nx l0 l1 l2 l4 l6 e
    rw [F_X11_bound_60_0] at e
    cases e
  | succ n K60 =>
    intro h nx l0 l1 l2 l4 l6 e
    rw [F_X11_bound_60_s] at e
    refine Ok.iload dX11_bound_60 rfl ?_
    refine Ok.sipushV (v := (nI 200)) dX11_bound_62 (by decide +kernel) ?_
    refine X.icmp_gt (tgt := 97) dX11_bound_65 (by decide) e (fun e1 => ?_) (fun e1 => ?_)
    · clear e
      refine Ok.lload dX11_bound_97 rfl ?_
      exact X.lret dX11_bound_99 rfl (Nat.le_of_ble_eq_true rfl) (Nat.le_of_ble_eq_true rfl) e1
    · clear e
      refine Ok.lload dX11_bound_68 rfl ?_
      refine Ok.aload_n dX11_bound_70 rfl ?_
      refine X.rgfR fl_RX11_30 dX11_bound_71 e1 (fun v1 e2 => ?_)
      clear e1
      refine Ok.iload dX11_bound_74 rfl ?_
      refine Ok.iload_n dX11_bound_76 rfl ?_
      refine X.rnn e2 (fun p2 q e3 => ?_)
      clear e2
      subst q
      refine X.rck e3 (fun c fs hb hc e4 => ?_)
      clear e3
      obtain rfl := List.mem_singleton.mp hc
      refine X.callV (My := mX5_sumAlone) (n := 2) (As := [.int l6, .int l1]) (T := (fun v => (some (.long v)))) (stk' := (fun v => [.long v, .long l4])) (rest := [.long l4]) (kc' := 0) (ks' := 0) dX11_bound_77 e4 (fun v h n e => k_X5_sumAlone (d := d + 3) e) hb rfl wd883 wd78 wd881 wd882 wd880 (by decide +kernel) rfl (by decide) rfl rfl (Nat.le_of_ble_eq_true rfl) (Nat.le_of_ble_eq_true rfl) (Nat.le_of_ble_eq_true rfl) rfl rfl (fun _ => rfl) (fun r3 h4 n5 e5 => ?_)
      clear e4
      refine Ok.iload dX11_bound_80 rfl ?_
      refine Ok.i2l dX11_bound_82 ?_
      refine Ok.lload_n dX11_bound_83 rfl ?_
      refine Ok.lmul dX11_bound_84 ?_
      refine Ok.lsub dX11_bound_85 ?_
      refine Ok.mminJ dX11_bound_86 wd884 wd885 wd83 wd886 (Nat.le_of_ble_eq_true rfl) (Nat.le_of_ble_eq_true rfl) (Nat.le_of_ble_eq_true rfl) ?_
      refine X.lstore dX11_bound_89 (by decide) e5 (L := fun v6 => [some (.ref l0), some (.int l1), some (.long l2), none, some (.long v6), none, some (.int l6)]) (fun _ => rfl) (fun v6 e6 => ?_)
      clear e5
      refine X.iinc dX11_bound_91 rfl (by decide) (by decide +kernel) e6 (L := fun v7 => [some (.ref l0), some (.int l1), some (.long l2), none, some (.long v6), none, some (.int v7)]) (fun _ => rfl) (fun v7 e7 => ?_)
      clear e6
      refine Ok.goto (tgt := 60) dX11_bound_94 (by decide) ?_
      exact Ok.weakL (K60 e7) ⟨rfl, ⟨rfl, ⟨rfl, ⟨rfl, ⟨rfl, trivial⟩⟩⟩⟩⟩
noncomputable def F_X11_bound (G : Gx) (h : Hp) (nx : Nat) (a0 : Nat) (a1 : Int32) : Rz Int64 :=
cl (F_X11_within G h nx a1 (nI 1) (nI 8)) (fun r1 h2 n3 =>
if r1 = 0 then
some ((-9223372036854775808 : Int64), h2, n3)
else
gfR h2 a0 [11] 3 (fun v4 =>
nn v4 (fun p5 =>
ck h2 p5 [5] (fun _ =>
cl (F_X5_layAll G h2 n3 p5 a1) (fun _ h7 n8 =>
gfR h7 a0 [11] 0 (fun v9 =>
nn v9 (fun p10 =>
gfI h7 p10 [0] 11 (fun v11 =>
gfR h7 a0 [11] 0 (fun v12 =>
nn v12 (fun p13 =>
ck h7 p13 [0] (fun _ =>
cl (F_X0_looksOrAll G h7 n8 p13) (fun r14 h15 n16 =>
nm (((((a1.toInt64) * (1000 : Int64))) * (((v11 - r14)).toInt64))) (fun v17 =>
gfR h15 a0 [11] 3 (fun v18 =>
nn v18 (fun p19 =>
ck h15 p19 [5] (fun _ =>
cl (F_X5_sumAlone G h15 n16 p19 (nI 0) a1) (fun r20 h21 n22 =>
(F_X11_bound_60 G fuelL h21 n22 a0 a1 v17 r20 (nI 1)))))))))))))))))))
set_option maxRecDepth 100000 in
set_option maxHeartbeats 4000000 in
theorem k_X11_bound {G : Gx} {d : Nat} {h : Hp} {nx : Nat} {a0 : Nat} {a1 : Int32} {v' : Int64} {h' : Hp} {n' : Nat} (e : F_X11_bound G h nx a0 a1 = some (v', h', n')) : Ct G mX11_bound (d + 6) (Same (some (.long v')) h' n') [.ref a0, .int a1] h nx := by
  unfold F_X11_bound at e
  refine Ct.of (ls := [some (.ref a0), some (.int a1), none, none, none, none, none]) (by decide +kernel) rfl (Nat.le_of_ble_eq_true rfl) rfl ?_
  refine Ok.iload_n dX11_bound_0 rfl ?_
  refine Ok.iconstV (v := (nI 1)) dX11_bound_1 (by decide +kernel) ?_
  refine Ok.bipushV (v := (nI 8)) dX11_bound_2 (by decide +kernel) ?_
  refine X.callS (My := mX11_within) (n := 3) (As := [.int a1, .int (nI 1), .int (nI 8)]) (T := (fun v => (some (.int v)))) (stk' := (fun v => [.int v])) (rest := []) (kc' := 0) (ks' := 0) dX11_bound_4 e (fun v h n e => k_X11_within (d := d + 5) e) wd495 wd76 wd494 wd493 (by decide +kernel) rfl (by decide) rfl rfl (Nat.le_of_ble_eq_true rfl) (Nat.le_of_ble_eq_true rfl) (Nat.le_of_ble_eq_true rfl) rfl rfl (fun _ => rfl) (fun r1 h2 n3 e1 => ?_)
  clear e
  refine X.if_ne (tgt := 14) dX11_bound_7 (by decide) e1 (fun e2 => ?_) (fun e2 => ?_)
  · clear e1
    refine Ok.aload_n dX11_bound_14 rfl ?_
    refine X.rgfR fl_RX11_30 dX11_bound_15 e2 (fun v4 e3 => ?_)
    clear e2
    refine Ok.iload_n dX11_bound_18 rfl ?_
    refine X.rnn e3 (fun p5 q e4 => ?_)
    clear e3
    subst q
    refine X.rck e4 (fun c fs hb hc e5 => ?_)
    clear e4
    obtain rfl := List.mem_singleton.mp hc
    refine X.callV (My := mX5_layAll) (n := 1) (As := [.int a1]) (T := (fun v => none)) (stk' := (fun _ => [])) (rest := []) (kc' := 0) (ks' := 0) dX11_bound_19 e5 (fun v h n e => k_X5_layAll (d := d + 0) e) hb rfl wd740 wd78 wd738 wd739 wd737 (by decide +kernel) rfl (by decide) rfl rfl (Nat.le_of_ble_eq_true rfl) (Nat.le_of_ble_eq_true rfl) (Nat.le_of_ble_eq_true rfl) rfl rfl (fun _ => rfl) (fun _ h7 n8 e6 => ?_)
    clear e5
    refine Ok.iload_n dX11_bound_22 rfl ?_
    refine Ok.i2l dX11_bound_23 ?_
    refine Ok.ldc2_w (v := 1000) dX11_bound_24 wd878 ?_
    refine Ok.lmul dX11_bound_27 ?_
    refine Ok.aload_n dX11_bound_28 rfl ?_
    refine X.rgfR fl_RX11_14 dX11_bound_29 e6 (fun v9 e7 => ?_)
    clear e6
    refine X.rnn e7 (fun p10 q e8 => ?_)
    clear e7
    subst q
    refine X.rgfI fl_RX11_85 dX11_bound_32 e8 (fun v11 e9 => ?_)
    clear e8
    refine Ok.aload_n dX11_bound_35 rfl ?_
    refine X.rgfR fl_RX11_14 dX11_bound_36 e9 (fun v12 e10 => ?_)
    clear e9
    refine X.rnn e10 (fun p13 q e11 => ?_)
    clear e10
    subst q
    refine X.rck e11 (fun c fs hb hc e12 => ?_)
    clear e11
    obtain rfl := List.mem_singleton.mp hc
    refine X.callV (My := mX0_looksOrAll) (n := 0) (As := []) (T := (fun v => (some (.int v)))) (stk' := (fun v => [.int v, .int v11, .long (((a1.toInt64) * (1000 : Int64)))])) (rest := [.int v11, .long (((a1.toInt64) * (1000 : Int64)))]) (kc' := 0) (ks' := 0) dX11_bound_39 e12 (fun v h n e => k_X0_looksOrAll (d := d + 5) e) hb rfl wd752 wd77 wd750 wd751 wd879 (by decide +kernel) rfl (by decide) rfl rfl (Nat.le_of_ble_eq_true rfl) (Nat.le_of_ble_eq_true rfl) (Nat.le_of_ble_eq_true rfl) rfl rfl (fun _ => rfl) (fun r14 h15 n16 e13 => ?_)
    clear e12
    refine Ok.isub dX11_bound_42 ?_
    refine Ok.i2l dX11_bound_43 ?_
    refine Ok.lmul dX11_bound_44 ?_
    refine X.lstore_n dX11_bound_45 (by decide) e13 (L := fun v17 => [some (.ref a0), some (.int a1), some (.long v17), none, none, none, none]) (fun _ => rfl) (fun v17 e14 => ?_)
    clear e13
    refine Ok.aload_n dX11_bound_46 rfl ?_
    refine X.rgfR fl_RX11_30 dX11_bound_47 e14 (fun v18 e15 => ?_)
    clear e14
    refine Ok.iconstV (v := (nI 0)) dX11_bound_50 (by decide +kernel) ?_
    refine Ok.iload_n dX11_bound_51 rfl ?_
    refine X.rnn e15 (fun p19 q e16 => ?_)
    clear e15
    subst q
    refine X.rck e16 (fun c fs hb hc e17 => ?_)
    clear e16
    obtain rfl := List.mem_singleton.mp hc
    refine X.callV (My := mX5_sumAlone) (n := 2) (As := [.int (nI 0), .int a1]) (T := (fun v => (some (.long v)))) (stk' := (fun v => [.long v])) (rest := []) (kc' := 0) (ks' := 0) dX11_bound_52 e17 (fun v h n e => k_X5_sumAlone (d := d + 3) e) hb rfl wd883 wd78 wd881 wd882 wd880 (by decide +kernel) rfl (by decide) rfl rfl (Nat.le_of_ble_eq_true rfl) (Nat.le_of_ble_eq_true rfl) (Nat.le_of_ble_eq_true rfl) rfl rfl (fun _ => rfl) (fun r20 h21 n22 e18 => ?_)
    clear e17
    refine XL.lstore dX11_bound_55 (by decide) (L := [some (.ref a0), some (.int a1), some (.long v17), none, some (.long r20), none, none]) rfl ?_
    refine Ok.iconstV (v := (nI 1)) dX11_bound_57 (by decide +kernel) ?_
    refine XL.istore dX11_bound_58 (by decide) (L := [some (.ref a0), some (.int a1), some (.long v17), none, some (.long r20), none, some (.int (nI 1))]) rfl ?_
    exact Ok.weakL (k_X11_bound_60 (d := d) fuelL e18) ⟨rfl, ⟨rfl, ⟨rfl, ⟨rfl, ⟨rfl, trivial⟩⟩⟩⟩⟩
  · clear e1
    refine Ok.ldc2_w (v := -9223372036854775808) dX11_bound_10 wd550 ?_
    exact X.lret dX11_bound_13 rfl (Nat.le_of_ble_eq_true rfl) (Nat.le_of_ble_eq_true rfl) e2
