noncomputable def F_X0_init (G : Gx) (h : Hp) (nx : Nat) (a0 : Nat) : Rz Unit :=
nwI G (g_c G 2) h nx (nI 120) 120 (fun p1 h2 n3 =>
pfV h2 a0 [0] 0 (va_rf (some p1)) (fun h4 =>
pfV h4 a0 [0] 1 (.int (nI 0)) (fun h5 =>
nwR G (g_c G 4) h5 n3 (nI 6) 6 (fun p6 h7 n8 =>
pfV h7 a0 [0] 2 (va_rf (some p6)) (fun h9 =>
pfV h9 a0 [0] 3 (.int (nI 0)) (fun h10 =>
nwI G (g_c G 0) h10 n8 (nI 8) 8 (fun p11 h12 n13 =>
pfV h12 a0 [0] 4 (va_rf (some p11)) (fun h14 =>
nwI G (g_c G 0) h14 n13 (nI 8) 8 (fun p15 h16 n17 =>
pfV h16 a0 [0] 5 (va_rf (some p15)) (fun h18 =>
nwI G (g_c G 0) h18 n17 (nI 8) 8 (fun p19 h20 n21 =>
pfV h20 a0 [0] 6 (va_rf (some p19)) (fun h22 =>
nwI G (g_c G 0) h22 n21 (nI 8) 8 (fun p23 h24 n25 =>
pfV h24 a0 [0] 7 (va_rf (some p23)) (fun h26 =>
nwI G (g_c G 0) h26 n25 (nI 8) 8 (fun p27 h28 n29 =>
pfV h28 a0 [0] 8 (va_rf (some p27)) (fun h30 =>
nwI G (g_c G 0) h30 n29 (nI 8) 8 (fun p31 h32 n33 =>
pfV h32 a0 [0] 9 (va_rf (some p31)) (fun h34 =>
nwI G (g_c G 3) h34 n33 (nI 8) 8 (fun p35 h36 n37 =>
pfV h36 a0 [0] 10 (va_rf (some p35)) (fun h38 =>
pfV h38 a0 [0] 11 (.int (nI 0)) (fun h39 =>
nwR G (g_c G 5) h39 n37 (nI 12) 12 (fun p40 h41 n42 =>
pfV h41 a0 [0] 12 (va_rf (some p40)) (fun h43 =>
nwI G (g_c G 0) h43 n42 (nI 12) 12 (fun p44 h45 n46 =>
pfV h45 a0 [0] 13 (va_rf (some p44)) (fun h47 =>
nwG G h47 n46 12 10 (fun p48 h49 n50 =>
pfV h49 a0 [0] 14 (va_rf (some p48)) (fun h51 =>
pfV h51 a0 [0] 15 (.int (nI 0)) (fun h52 =>
pfV h52 a0 [0] 16 (.int (nI 0)) (fun h53 =>
pfV h53 a0 [0] 17 (.int (nI 1)) (fun h54 =>
some ((), h54, n50)))))))))))))))))))))))))))))))
set_option maxRecDepth 100000 in
set_option maxHeartbeats 4000000 in
theorem k_X0_init {G : Gx} {d : Nat} {h : Hp} {nx : Nat} {a0 : Nat} {v' : Unit} {h' : Hp} {n' : Nat} (e : F_X0_init G h nx a0 = some (v', h', n')) : Ct G mX0_init (d + 0) (Same none h' n') [.ref a0] h nx := by
  unfold F_X0_init at e
  refine Ct.of (ls := [some (.ref a0)]) (by decide +kernel) rfl (Nat.le_of_ble_eq_true rfl) rfl ?_
  refine Ok.aload_n dX0_init_0 rfl ?_
  refine Ok.objInit dX0_init_1 wd111 wo_1 wo_2 (Nat.le_of_ble_eq_true rfl) ?_
  refine Ok.aload_n dX0_init_4 rfl ?_
  refine Ok.bipushV (v := (nI 120)) dX0_init_5 (by decide +kernel) ?_
  refine X.nwB dX0_init_7 wd202 (by decide +kernel) (Nat.le_of_ble_eq_true rfl) (Nat.le_of_ble_eq_true rfl) e (fun p1 h2 n3 e1 => ?_)
  clear e
  refine Ok.mono (kc' := 1) (ks' := 120) ?_ (by decide) (by decide)
  refine X.pfF (v := (va_rf (some p1))) fp_RX0_9 rfl (nar_q (Or.inr ⟨_, rfl⟩) (some p1)) (fits_q (Or.inr ⟨_, rfl⟩) (some p1)) dX0_init_9 e1 (fun h4 e2 => ?_)
  clear e1
  refine Ok.aload_n dX0_init_12 rfl ?_
  refine Ok.iconstV (v := (nI 0)) dX0_init_13 (by decide +kernel) ?_
  refine X.rpfV (v := (.int (nI 0))) fp_RX0_15 rfl rfl dX0_init_14 e2 (fun h5 e3 => ?_)
  clear e2
  refine Ok.aload_n dX0_init_17 rfl ?_
  refine Ok.bipushV (v := (nI 6)) dX0_init_18 (by decide +kernel) ?_
  refine X.nwS dX0_init_20 wd112 (by decide +kernel) (Nat.le_of_ble_eq_true rfl) (Nat.le_of_ble_eq_true rfl) e3 (fun p6 h7 n8 e4 => ?_)
  clear e3
  refine Ok.mono (kc' := 2) (ks' := 126) ?_ (by decide) (by decide)
  refine X.pfF (v := (va_rf (some p6))) fp_RX0_21 rfl (nar_q (Or.inr ⟨_, rfl⟩) (some p6)) (fits_q (Or.inr ⟨_, rfl⟩) (some p6)) dX0_init_23 e4 (fun h9 e5 => ?_)
  clear e4
  refine Ok.aload_n dX0_init_26 rfl ?_
  refine Ok.iconstV (v := (nI 0)) dX0_init_27 (by decide +kernel) ?_
  refine X.rpfV (v := (.int (nI 0))) fp_RX0_25 rfl rfl dX0_init_28 e5 (fun h10 e6 => ?_)
  clear e5
  refine Ok.aload_n dX0_init_31 rfl ?_
  refine Ok.bipushV (v := (nI 8)) dX0_init_32 (by decide +kernel) ?_
  refine X.rnwI dX0_init_34 wd203 (by decide +kernel) (Nat.le_of_ble_eq_true rfl) (Nat.le_of_ble_eq_true rfl) e6 (fun p11 h12 n13 e7 => ?_)
  clear e6
  refine Ok.mono (kc' := 3) (ks' := 134) ?_ (by decide) (by decide)
  refine X.pfF (v := (va_rf (some p11))) fp_RX0_28 rfl (nar_q (Or.inr ⟨_, rfl⟩) (some p11)) (fits_q (Or.inr ⟨_, rfl⟩) (some p11)) dX0_init_36 e7 (fun h14 e8 => ?_)
  clear e7
  refine Ok.aload_n dX0_init_39 rfl ?_
  refine Ok.bipushV (v := (nI 8)) dX0_init_40 (by decide +kernel) ?_
  refine X.rnwI dX0_init_42 wd203 (by decide +kernel) (Nat.le_of_ble_eq_true rfl) (Nat.le_of_ble_eq_true rfl) e8 (fun p15 h16 n17 e9 => ?_)
  clear e8
  refine Ok.mono (kc' := 4) (ks' := 142) ?_ (by decide) (by decide)
  refine X.pfF (v := (va_rf (some p15))) fp_RX0_32 rfl (nar_q (Or.inr ⟨_, rfl⟩) (some p15)) (fits_q (Or.inr ⟨_, rfl⟩) (some p15)) dX0_init_44 e9 (fun h18 e10 => ?_)
  clear e9
  refine Ok.aload_n dX0_init_47 rfl ?_
  refine Ok.bipushV (v := (nI 8)) dX0_init_48 (by decide +kernel) ?_
  refine X.rnwI dX0_init_50 wd203 (by decide +kernel) (Nat.le_of_ble_eq_true rfl) (Nat.le_of_ble_eq_true rfl) e10 (fun p19 h20 n21 e11 => ?_)
  clear e10
  refine Ok.mono (kc' := 5) (ks' := 150) ?_ (by decide) (by decide)
  refine X.pfF (v := (va_rf (some p19))) fp_RX0_35 rfl (nar_q (Or.inr ⟨_, rfl⟩) (some p19)) (fits_q (Or.inr ⟨_, rfl⟩) (some p19)) dX0_init_52 e11 (fun h22 e12 => ?_)
  clear e11
  refine Ok.aload_n dX0_init_55 rfl ?_
  refine Ok.bipushV (v := (nI 8)) dX0_init_56 (by decide +kernel) ?_
  refine X.rnwI dX0_init_58 wd203 (by decide +kernel) (Nat.le_of_ble_eq_true rfl) (Nat.le_of_ble_eq_true rfl) e12 (fun p23 h24 n25 e13 => ?_)
  clear e12
  refine Ok.mono (kc' := 6) (ks' := 158) ?_ (by decide) (by decide)
  refine X.pfF (v := (va_rf (some p23))) fp_RX0_38 rfl (nar_q (Or.inr ⟨_, rfl⟩) (some p23)) (fits_q (Or.inr ⟨_, rfl⟩) (some p23)) dX0_init_60 e13 (fun h26 e14 => ?_)
  clear e13
  refine Ok.aload_n dX0_init_63 rfl ?_
  refine Ok.bipushV (v := (nI 8)) dX0_init_64 (by decide +kernel) ?_
  refine X.rnwI dX0_init_66 wd203 (by decide +kernel) (Nat.le_of_ble_eq_true rfl) (Nat.le_of_ble_eq_true rfl) e14 (fun p27 h28 n29 e15 => ?_)
  clear e14
  refine Ok.mono (kc' := 7) (ks' := 166) ?_ (by decide) (by decide)
  refine X.pfF (v := (va_rf (some p27))) fp_RX0_41 rfl (nar_q (Or.inr ⟨_, rfl⟩) (some p27)) (fits_q (Or.inr ⟨_, rfl⟩) (some p27)) dX0_init_68 e15 (fun h30 e16 => ?_)
  clear e15
  refine Ok.aload_n dX0_init_71 rfl ?_
  refine Ok.bipushV (v := (nI 8)) dX0_init_72 (by decide +kernel) ?_
  refine X.rnwI dX0_init_74 wd203 (by decide +kernel) (Nat.le_of_ble_eq_true rfl) (Nat.le_of_ble_eq_true rfl) e16 (fun p31 h32 n33 e17 => ?_)
  clear e16
  refine Ok.mono (kc' := 8) (ks' := 174) ?_ (by decide) (by decide)
  refine X.pfF (v := (va_rf (some p31))) fp_RX0_44 rfl (nar_q (Or.inr ⟨_, rfl⟩) (some p31)) (fits_q (Or.inr ⟨_, rfl⟩) (some p31)) dX0_init_76 e17 (fun h34 e18 => ?_)
  clear e17
  refine Ok.aload_n dX0_init_79 rfl ?_
  refine Ok.bipushV (v := (nI 8)) dX0_init_80 (by decide +kernel) ?_
  refine X.nwZ dX0_init_82 wd204 (by decide +kernel) (Nat.le_of_ble_eq_true rfl) (Nat.le_of_ble_eq_true rfl) e18 (fun p35 h36 n37 e19 => ?_)
  clear e18
  refine Ok.mono (kc' := 9) (ks' := 182) ?_ (by decide) (by decide)
  refine X.pfF (v := (va_rf (some p35))) fp_RX0_47 rfl (nar_q (Or.inr ⟨_, rfl⟩) (some p35)) (fits_q (Or.inr ⟨_, rfl⟩) (some p35)) dX0_init_84 e19 (fun h38 e20 => ?_)
  clear e19
  refine Ok.aload_n dX0_init_87 rfl ?_
  refine Ok.iconstV (v := (nI 0)) dX0_init_88 (by decide +kernel) ?_
  refine X.rpfV (v := (.int (nI 0))) fp_RX0_51 rfl rfl dX0_init_89 e20 (fun h39 e21 => ?_)
  clear e20
  refine Ok.aload_n dX0_init_92 rfl ?_
  refine Ok.bipushV (v := (nI 12)) dX0_init_93 (by decide +kernel) ?_
  refine X.nwP dX0_init_95 wd114 (by decide +kernel) (Nat.le_of_ble_eq_true rfl) (Nat.le_of_ble_eq_true rfl) e21 (fun p40 h41 n42 e22 => ?_)
  clear e21
  refine Ok.mono (kc' := 10) (ks' := 194) ?_ (by decide) (by decide)
  refine X.pfF (v := (va_rf (some p40))) fp_RX0_56 rfl (nar_q (Or.inr ⟨_, rfl⟩) (some p40)) (fits_q (Or.inr ⟨_, rfl⟩) (some p40)) dX0_init_98 e22 (fun h43 e23 => ?_)
  clear e22
  refine Ok.aload_n dX0_init_101 rfl ?_
  refine Ok.bipushV (v := (nI 12)) dX0_init_102 (by decide +kernel) ?_
  refine X.rnwI dX0_init_104 wd203 (by decide +kernel) (Nat.le_of_ble_eq_true rfl) (Nat.le_of_ble_eq_true rfl) e23 (fun p44 h45 n46 e24 => ?_)
  clear e23
  refine Ok.mono (kc' := 11) (ks' := 206) ?_ (by decide) (by decide)
  refine X.pfF (v := (va_rf (some p44))) fp_RX0_60 rfl (nar_q (Or.inr ⟨_, rfl⟩) (some p44)) (fits_q (Or.inr ⟨_, rfl⟩) (some p44)) dX0_init_106 e24 (fun h47 e25 => ?_)
  clear e24
  refine Ok.aload_n dX0_init_109 rfl ?_
  refine Ok.bipushV (v := (nI 12)) dX0_init_110 (by decide +kernel) ?_
  refine Ok.bipushV (v := (nI 10)) dX0_init_112 (by decide +kernel) ?_
  refine X.rnwG dX0_init_114 wd116 wd203 ⟨by decide +kernel, by decide +kernel, by decide⟩ ⟨by decide +kernel, by decide +kernel, by decide⟩ (Nat.le_of_ble_eq_true rfl) (Nat.le_of_ble_eq_true rfl) e25 (fun p48 h49 n50 e26 => ?_)
  clear e25
  refine Ok.mono (kc' := 24) (ks' := 338) ?_ (by decide) (by decide)
  refine X.pfF (v := (va_rf (some p48))) fp_RX0_65 rfl (nar_q (Or.inr ⟨_, rfl⟩) (some p48)) (fits_q (Or.inr ⟨_, rfl⟩) (some p48)) dX0_init_118 e26 (fun h51 e27 => ?_)
  clear e26
  refine Ok.aload_n dX0_init_121 rfl ?_
  refine Ok.iconstV (v := (nI 0)) dX0_init_122 (by decide +kernel) ?_
  refine X.rpfV (v := (.int (nI 0))) fp_RX0_68 rfl rfl dX0_init_123 e27 (fun h52 e28 => ?_)
  clear e27
  refine Ok.aload_n dX0_init_126 rfl ?_
  refine Ok.iconstV (v := (nI 0)) dX0_init_127 (by decide +kernel) ?_
  refine X.rpfV (v := (.int (nI 0))) fp_RX0_71 rfl rfl dX0_init_128 e28 (fun h53 e29 => ?_)
  clear e28
  refine Ok.aload_n dX0_init_131 rfl ?_
  refine Ok.iconstV (v := (nI 1)) dX0_init_132 (by decide +kernel) ?_
  refine X.rpfV (v := (.int (nI 1))) fp_RX0_74 rfl rfl dX0_init_133 e29 (fun h54 e30 => ?_)
  clear e29
  exact X.vret dX0_init_136 rfl (Nat.le_of_ble_eq_true rfl) (Nat.le_of_ble_eq_true rfl) e30
noncomputable def F_X0_copyThing (G : Gx) (h : Hp) (nx : Nat) (a0 : Nat) (a1 : Nat) (a2 : Int32) : Rz Unit :=
gfR h a0 [0] 4 (fun v1 =>
gfR h a1 [0] 4 (fun v2 =>
nn v2 (fun p3 =>
alI (g_c G 0) h p3 a2 (fun v4 =>
nn v1 (fun p5 =>
asI (g_c G 0) id h p5 a2 v4 (fun h6 =>
gfR h6 a0 [0] 5 (fun v7 =>
gfR h6 a1 [0] 5 (fun v8 =>
nn v8 (fun p9 =>
alI (g_c G 0) h6 p9 a2 (fun v10 =>
nn v7 (fun p11 =>
asI (g_c G 0) id h6 p11 a2 v10 (fun h12 =>
gfR h12 a0 [0] 6 (fun v13 =>
gfR h12 a1 [0] 6 (fun v14 =>
nn v14 (fun p15 =>
alI (g_c G 0) h12 p15 a2 (fun v16 =>
nn v13 (fun p17 =>
asI (g_c G 0) id h12 p17 a2 v16 (fun h18 =>
gfR h18 a0 [0] 7 (fun v19 =>
gfR h18 a1 [0] 7 (fun v20 =>
nn v20 (fun p21 =>
alI (g_c G 0) h18 p21 a2 (fun v22 =>
nn v19 (fun p23 =>
asI (g_c G 0) id h18 p23 a2 v22 (fun h24 =>
gfR h24 a0 [0] 8 (fun v25 =>
gfR h24 a1 [0] 8 (fun v26 =>
nn v26 (fun p27 =>
alI (g_c G 0) h24 p27 a2 (fun v28 =>
nn v25 (fun p29 =>
asI (g_c G 0) id h24 p29 a2 v28 (fun h30 =>
gfR h30 a0 [0] 9 (fun v31 =>
gfR h30 a1 [0] 9 (fun v32 =>
nn v32 (fun p33 =>
alI (g_c G 0) h30 p33 a2 (fun v34 =>
nn v31 (fun p35 =>
asI (g_c G 0) id h30 p35 a2 v34 (fun h36 =>
gfR h36 a0 [0] 10 (fun v37 =>
gfR h36 a1 [0] 10 (fun v38 =>
nn v38 (fun p39 =>
alI (g_c G 3) h36 p39 a2 (fun v40 =>
nn v37 (fun p41 =>
asI (g_c G 3) (vp_nar .boolean) h36 p41 a2 v40 (fun h42 =>
some ((), h42, nx)))))))))))))))))))))))))))))))))))))))))))
set_option maxRecDepth 100000 in
set_option maxHeartbeats 4000000 in
theorem k_X0_copyThing {G : Gx} {d : Nat} {h : Hp} {nx : Nat} {a0 : Nat} {a1 : Nat} {a2 : Int32} {v' : Unit} {h' : Hp} {n' : Nat} (e : F_X0_copyThing G h nx a0 a1 a2 = some (v', h', n')) : Ct G mX0_copyThing (d + 0) (Same none h' n') [.ref a0, .ref a1, .int a2] h nx := by
  unfold F_X0_copyThing at e
  refine Ct.of (ls := [some (.ref a0), some (.ref a1), some (.int a2)]) (by decide +kernel) rfl (Nat.le_of_ble_eq_true rfl) rfl ?_
  refine Ok.aload_n dX0_copyThing_0 rfl ?_
  refine X.rgfR fl_RX0_28 dX0_copyThing_1 e (fun v1 e1 => ?_)
  clear e
  refine Ok.iload_n dX0_copyThing_4 rfl ?_
  refine Ok.aload_n dX0_copyThing_5 rfl ?_
  refine X.rgfR fl_RX0_28 dX0_copyThing_6 e1 (fun v2 e2 => ?_)
  clear e1
  refine Ok.iload_n dX0_copyThing_9 rfl ?_
  refine X.rnn e2 (fun p3 q e3 => ?_)
  clear e2
  subst q
  refine X.iald dX0_copyThing_10 e3 (fun v4 e4 => ?_)
  clear e3
  refine X.rnn e4 (fun p5 q e5 => ?_)
  clear e4
  subst q
  refine X.iast dX0_copyThing_11 e5 (fun h6 e6 => ?_)
  clear e5
  refine Ok.aload_n dX0_copyThing_12 rfl ?_
  refine X.rgfR fl_RX0_32 dX0_copyThing_13 e6 (fun v7 e7 => ?_)
  clear e6
  refine Ok.iload_n dX0_copyThing_16 rfl ?_
  refine Ok.aload_n dX0_copyThing_17 rfl ?_
  refine X.rgfR fl_RX0_32 dX0_copyThing_18 e7 (fun v8 e8 => ?_)
  clear e7
  refine Ok.iload_n dX0_copyThing_21 rfl ?_
  refine X.rnn e8 (fun p9 q e9 => ?_)
  clear e8
  subst q
  refine X.iald dX0_copyThing_22 e9 (fun v10 e10 => ?_)
  clear e9
  refine X.rnn e10 (fun p11 q e11 => ?_)
  clear e10
  subst q
  refine X.iast dX0_copyThing_23 e11 (fun h12 e12 => ?_)
  clear e11
  refine Ok.aload_n dX0_copyThing_24 rfl ?_
  refine X.rgfR fl_RX0_35 dX0_copyThing_25 e12 (fun v13 e13 => ?_)
  clear e12
  refine Ok.iload_n dX0_copyThing_28 rfl ?_
  refine Ok.aload_n dX0_copyThing_29 rfl ?_
  refine X.rgfR fl_RX0_35 dX0_copyThing_30 e13 (fun v14 e14 => ?_)
  clear e13
  refine Ok.iload_n dX0_copyThing_33 rfl ?_
  refine X.rnn e14 (fun p15 q e15 => ?_)
  clear e14
  subst q
  refine X.iald dX0_copyThing_34 e15 (fun v16 e16 => ?_)
  clear e15
  refine X.rnn e16 (fun p17 q e17 => ?_)
  clear e16
  subst q
  refine X.iast dX0_copyThing_35 e17 (fun h18 e18 => ?_)
  clear e17
  refine Ok.aload_n dX0_copyThing_36 rfl ?_
  refine X.rgfR fl_RX0_38 dX0_copyThing_37 e18 (fun v19 e19 => ?_)
  clear e18
  refine Ok.iload_n dX0_copyThing_40 rfl ?_
  refine Ok.aload_n dX0_copyThing_41 rfl ?_
  refine X.rgfR fl_RX0_38 dX0_copyThing_42 e19 (fun v20 e20 => ?_)
  clear e19
  refine Ok.iload_n dX0_copyThing_45 rfl ?_
  refine X.rnn e20 (fun p21 q e21 => ?_)
  clear e20
  subst q
  refine X.iald dX0_copyThing_46 e21 (fun v22 e22 => ?_)
  clear e21
  refine X.rnn e22 (fun p23 q e23 => ?_)
  clear e22
  subst q
  refine X.iast dX0_copyThing_47 e23 (fun h24 e24 => ?_)
  clear e23
  refine Ok.aload_n dX0_copyThing_48 rfl ?_
  refine X.rgfR fl_RX0_41 dX0_copyThing_49 e24 (fun v25 e25 => ?_)
  clear e24
  refine Ok.iload_n dX0_copyThing_52 rfl ?_
  refine Ok.aload_n dX0_copyThing_53 rfl ?_
  refine X.rgfR fl_RX0_41 dX0_copyThing_54 e25 (fun v26 e26 => ?_)
  clear e25
  refine Ok.iload_n dX0_copyThing_57 rfl ?_
  refine X.rnn e26 (fun p27 q e27 => ?_)
  clear e26
  subst q
  refine X.iald dX0_copyThing_58 e27 (fun v28 e28 => ?_)
  clear e27
  refine X.rnn e28 (fun p29 q e29 => ?_)
  clear e28
  subst q
  refine X.iast dX0_copyThing_59 e29 (fun h30 e30 => ?_)
  clear e29
  refine Ok.aload_n dX0_copyThing_60 rfl ?_
  refine X.rgfR fl_RX0_44 dX0_copyThing_61 e30 (fun v31 e31 => ?_)
  clear e30
  refine Ok.iload_n dX0_copyThing_64 rfl ?_
  refine Ok.aload_n dX0_copyThing_65 rfl ?_
  refine X.rgfR fl_RX0_44 dX0_copyThing_66 e31 (fun v32 e32 => ?_)
  clear e31
  refine Ok.iload_n dX0_copyThing_69 rfl ?_
  refine X.rnn e32 (fun p33 q e33 => ?_)
  clear e32
  subst q
  refine X.iald dX0_copyThing_70 e33 (fun v34 e34 => ?_)
  clear e33
  refine X.rnn e34 (fun p35 q e35 => ?_)
  clear e34
  subst q
  refine X.iast dX0_copyThing_71 e35 (fun h36 e36 => ?_)
  clear e35
  refine Ok.aload_n dX0_copyThing_72 rfl ?_
  refine X.rgfR fl_RX0_47 dX0_copyThing_73 e36 (fun v37 e37 => ?_)
  clear e36
  refine Ok.iload_n dX0_copyThing_76 rfl ?_
  refine Ok.aload_n dX0_copyThing_77 rfl ?_
  refine X.rgfR fl_RX0_47 dX0_copyThing_78 e37 (fun v38 e38 => ?_)
  clear e37
  refine Ok.iload_n dX0_copyThing_81 rfl ?_
  refine X.rnn e38 (fun p39 q e39 => ?_)
  clear e38
  subst q
  refine X.zald dX0_copyThing_82 e39 (fun v40 e40 => ?_)
  clear e39
  refine X.rnn e40 (fun p41 q e41 => ?_)
  clear e40
  subst q
  refine X.zast dX0_copyThing_83 e41 (fun h42 e42 => ?_)
  clear e41
  exact X.vret dX0_copyThing_84 rfl (Nat.le_of_ble_eq_true rfl) (Nat.le_of_ble_eq_true rfl) e42
noncomputable def F_X0_copyFrom_87 (G : Gx) : Nat → Hp → Nat → Nat → Nat → Int32 → Rz Unit := fun n => Nat.rec (motive := fun _ => Hp → Nat → Nat → Nat → Int32 → Rz Unit) (fun _ _ _ _ _ => none) (fun _ k87 => fun h nx l0 l1 l2 =>
if (nI 12) ≤ l2 then
gfI h l1 [0] 15 (fun v1 =>
pfV h l0 [0] 15 (.int v1) (fun h2 =>
gfI h2 l1 [0] 16 (fun v3 =>
pfV h2 l0 [0] 16 (.int v3) (fun h4 =>
gfI h4 l1 [0] 17 (fun v5 =>
pfV h4 l0 [0] 17 (.int v5) (fun h6 =>
some ((), h6, nx)))))))
else
gfR h l0 [0] 12 (fun v7 =>
gfR h l1 [0] 12 (fun v8 =>
nn v8 (fun p9 =>
alR (g_c G 5) h p9 l2 (fun v10 =>
nn v7 (fun p11 =>
asR (g_c G 5) [1, 2, 3, 4, 6, 8, 10] h p11 l2 v10 (fun h12 =>
gfR h12 l0 [0] 13 (fun v13 =>
gfR h12 l1 [0] 13 (fun v14 =>
nn v14 (fun p15 =>
alI (g_c G 0) h12 p15 l2 (fun v16 =>
nn v13 (fun p17 =>
asI (g_c G 0) id h12 p17 l2 v16 (fun h18 =>
gfR h18 l1 [0] 14 (fun v19 =>
nn v19 (fun p20 =>
alR (g_c G 6) h18 p20 l2 (fun v21 =>
gfR h18 l0 [0] 14 (fun v22 =>
nn v22 (fun p23 =>
alR (g_c G 6) h18 p23 l2 (fun v24 =>
nn v21 (fun p25 =>
nn v24 (fun p26 =>
acI (g_c G 0) .int h18 p25 (nI 0) p26 (nI 0) (nI 10) (fun h27 =>
nm (l2 + (nI 1)) (fun v28 =>
(k87 h27 nx l0 l1 v28)))))))))))))))))))))))) n
theorem F_X0_copyFrom_87_0 {G : Gx} {h : Hp} {nx : Nat} {l0 : Nat} {l1 : Nat} {l2 : Int32} : F_X0_copyFrom_87 G 0 h nx l0 l1 l2 = none := rfl
theorem F_X0_copyFrom_87_s {G : Gx} {n : Nat} {h : Hp} {nx : Nat} {l0 : Nat} {l1 : Nat} {l2 : Int32} : F_X0_copyFrom_87 G (n + 1) h nx l0 l1 l2 = (
if (nI 12) ≤ l2 then
gfI h l1 [0] 15 (fun v1 =>
pfV h l0 [0] 15 (.int v1) (fun h2 =>
gfI h2 l1 [0] 16 (fun v3 =>
pfV h2 l0 [0] 16 (.int v3) (fun h4 =>
gfI h4 l1 [0] 17 (fun v5 =>
pfV h4 l0 [0] 17 (.int v5) (fun h6 =>
some ((), h6, nx)))))))
else
gfR h l0 [0] 12 (fun v7 =>
gfR h l1 [0] 12 (fun v8 =>
nn v8 (fun p9 =>
alR (g_c G 5) h p9 l2 (fun v10 =>
nn v7 (fun p11 =>
asR (g_c G 5) [1, 2, 3, 4, 6, 8, 10] h p11 l2 v10 (fun h12 =>
gfR h12 l0 [0] 13 (fun v13 =>
gfR h12 l1 [0] 13 (fun v14 =>
nn v14 (fun p15 =>
alI (g_c G 0) h12 p15 l2 (fun v16 =>
nn v13 (fun p17 =>
asI (g_c G 0) id h12 p17 l2 v16 (fun h18 =>
gfR h18 l1 [0] 14 (fun v19 =>
nn v19 (fun p20 =>
alR (g_c G 6) h18 p20 l2 (fun v21 =>
gfR h18 l0 [0] 14 (fun v22 =>
nn v22 (fun p23 =>
alR (g_c G 6) h18 p23 l2 (fun v24 =>
nn v21 (fun p25 =>
nn v24 (fun p26 =>
acI (g_c G 0) .int h18 p25 (nI 0) p26 (nI 0) (nI 10) (fun h27 =>
nm (l2 + (nI 1)) (fun v28 =>
((F_X0_copyFrom_87 G n) h27 nx l0 l1 v28)))))))))))))))))))))))) := rfl
set_option maxRecDepth 100000 in
set_option maxHeartbeats 4000000 in
theorem k_X0_copyFrom_87 {G : Gx} {d : Nat} {v' : Unit} {h' : Hp} {n' : Nat} : ∀ (n : Nat) {h : Hp} {nx : Nat} {l0 : Nat} {l1 : Nat} {l2 : Int32}, F_X0_copyFrom_87 G n h nx l0 l1 l2 = some (v', h', n') → Ok G mX0_copyFrom (d + 1) (Same none h' n') 87 [some (.ref l0), some (.ref l1), some (.int l2)] [] h nx 0 0 := by
  intro n
  induction n with
  | zero =>
    intro h nx l0 l1 l2 e
    rw [F_X0_copyFrom_87_0] at e
    cases e
  | succ n K87 =>
    intro h nx l0 l1 l2 e
    rw [F_X0_copyFrom_87_s] at e
    refine Ok.iload_n dX0_copyFrom_87 rfl ?_
    refine Ok.bipushV (v := (nI 12)) dX0_copyFrom_88 (by decide +kernel) ?_
    refine X.icmp_ge (tgt := 142) dX0_copyFrom_90 (by decide) e (fun e1 => ?_) (fun e1 => ?_)
    · clear e
      refine Ok.aload_n dX0_copyFrom_142 rfl ?_
      refine Ok.aload_n dX0_copyFrom_143 rfl ?_
      refine X.rgfI fl_RX0_68 dX0_copyFrom_144 e1 (fun v1 e2 => ?_)
      clear e1
      refine X.rpfV (v := (.int v1)) fp_RX0_68 rfl rfl dX0_copyFrom_147 e2 (fun h2 e3 => ?_)
      clear e2
      refine Ok.aload_n dX0_copyFrom_150 rfl ?_
      refine Ok.aload_n dX0_copyFrom_151 rfl ?_
      refine X.rgfI fl_RX0_71 dX0_copyFrom_152 e3 (fun v3 e4 => ?_)
      clear e3
      refine X.rpfV (v := (.int v3)) fp_RX0_71 rfl rfl dX0_copyFrom_155 e4 (fun h4 e5 => ?_)
      clear e4
      refine Ok.aload_n dX0_copyFrom_158 rfl ?_
      refine Ok.aload_n dX0_copyFrom_159 rfl ?_
      refine X.rgfI fl_RX0_74 dX0_copyFrom_160 e5 (fun v5 e6 => ?_)
      clear e5
      refine X.rpfV (v := (.int v5)) fp_RX0_74 rfl rfl dX0_copyFrom_163 e6 (fun h6 e7 => ?_)
      clear e6
      exact X.vret dX0_copyFrom_166 rfl (Nat.le_of_ble_eq_true rfl) (Nat.le_of_ble_eq_true rfl) e7
    · clear e
      refine Ok.aload_n dX0_copyFrom_93 rfl ?_
      refine X.rgfR fl_RX0_56 dX0_copyFrom_94 e1 (fun v7 e2 => ?_)
      clear e1
      refine Ok.iload_n dX0_copyFrom_97 rfl ?_
      refine Ok.aload_n dX0_copyFrom_98 rfl ?_
      refine X.rgfR fl_RX0_56 dX0_copyFrom_99 e2 (fun v8 e3 => ?_)
      clear e2
      refine Ok.iload_n dX0_copyFrom_102 rfl ?_
      refine X.rnn e3 (fun p9 q e4 => ?_)
      clear e3
      subst q
      refine X.pald dX0_copyFrom_103 e4 (fun v10 e5 => ?_)
      clear e4
      refine X.rnn e5 (fun p11 q e6 => ?_)
      clear e5
      subst q
      refine X.past (r := v10) dX0_copyFrom_104 cs_plan e6 (fun h12 e7 => ?_)
      clear e6
      refine Ok.aload_n dX0_copyFrom_105 rfl ?_
      refine X.rgfR fl_RX0_60 dX0_copyFrom_106 e7 (fun v13 e8 => ?_)
      clear e7
      refine Ok.iload_n dX0_copyFrom_109 rfl ?_
      refine Ok.aload_n dX0_copyFrom_110 rfl ?_
      refine X.rgfR fl_RX0_60 dX0_copyFrom_111 e8 (fun v14 e9 => ?_)
      clear e8
      refine Ok.iload_n dX0_copyFrom_114 rfl ?_
      refine X.rnn e9 (fun p15 q e10 => ?_)
      clear e9
      subst q
      refine X.iald dX0_copyFrom_115 e10 (fun v16 e11 => ?_)
      clear e10
      refine X.rnn e11 (fun p17 q e12 => ?_)
      clear e11
      subst q
      refine X.iast dX0_copyFrom_116 e12 (fun h18 e13 => ?_)
      clear e12
      refine Ok.aload_n dX0_copyFrom_117 rfl ?_
      refine X.rgfR fl_RX0_65 dX0_copyFrom_118 e13 (fun v19 e14 => ?_)
      clear e13
      refine Ok.iload_n dX0_copyFrom_121 rfl ?_
      refine X.rnn e14 (fun p20 q e15 => ?_)
      clear e14
      subst q
      refine X.gald dX0_copyFrom_122 e15 (fun v21 e16 => ?_)
      clear e15
      refine Ok.iconstV (v := (nI 0)) dX0_copyFrom_123 (by decide +kernel) ?_
      refine Ok.aload_n dX0_copyFrom_124 rfl ?_
      refine X.rgfR fl_RX0_65 dX0_copyFrom_125 e16 (fun v22 e17 => ?_)
      clear e16
      refine Ok.iload_n dX0_copyFrom_128 rfl ?_
      refine X.rnn e17 (fun p23 q e18 => ?_)
      clear e17
      subst q
      refine X.gald dX0_copyFrom_129 e18 (fun v24 e19 => ?_)
      clear e18
      refine Ok.iconstV (v := (nI 0)) dX0_copyFrom_130 (by decide +kernel) ?_
      refine Ok.bipushV (v := (nI 10)) dX0_copyFrom_131 (by decide +kernel) ?_
      refine X.rnn e19 (fun p25 q e20 => ?_)
      clear e19
      subst q
      refine X.rnn e20 (fun p26 q e21 => ?_)
      clear e20
      subst q
      refine X.racI dX0_copyFrom_133 wd1069 wa_st wa_na wd84 (Nat.le_of_ble_eq_true rfl) e21 (fun h27 e22 => ?_)
      clear e21
      refine X.iinc dX0_copyFrom_136 rfl (by decide) (by decide +kernel) e22 (L := fun v28 => [some (.ref l0), some (.ref l1), some (.int v28)]) (fun _ => rfl) (fun v28 e23 => ?_)
      clear e22
      refine Ok.goto (tgt := 87) dX0_copyFrom_139 (by decide) ?_
      exact Ok.weakL (K87 e23) ⟨rfl, ⟨rfl, ⟨rfl, trivial⟩⟩⟩
noncomputable def F_X0_copyFrom_59 (G : Gx) : Nat → Hp → Nat → Nat → Nat → Int32 → Rz Unit := fun n => Nat.rec (motive := fun _ => Hp → Nat → Nat → Nat → Int32 → Rz Unit) (fun _ _ _ _ _ => none) (fun _ k59 => fun h nx l0 l1 l2 =>
if (nI 8) ≤ l2 then
gfI h l1 [0] 11 (fun v1 =>
pfV h l0 [0] 11 (.int v1) (fun h2 =>
(F_X0_copyFrom_87 G fuelL h2 nx l0 l1 (nI 0))))
else
ck h l0 [0] (fun _ =>
cl (F_X0_copyThing G h nx l0 l1 l2) (fun _ h4 n5 =>
nm (l2 + (nI 1)) (fun v6 =>
(k59 h4 n5 l0 l1 v6))))) n
theorem F_X0_copyFrom_59_0 {G : Gx} {h : Hp} {nx : Nat} {l0 : Nat} {l1 : Nat} {l2 : Int32} : F_X0_copyFrom_59 G 0 h nx l0 l1 l2 = none := rfl
theorem F_X0_copyFrom_59_s {G : Gx} {n : Nat} {h : Hp} {nx : Nat} {l0 : Nat} {l1 : Nat} {l2 : Int32} : F_X0_copyFrom_59 G (n + 1) h nx l0 l1 l2 = (
if (nI 8) ≤ l2 then
gfI h l1 [0] 11 (fun v1 =>
pfV h l0 [0] 11 (.int v1) (fun h2 =>
(F_X0_copyFrom_87 G fuelL h2 nx l0 l1 (nI 0))))
else
ck h l0 [0] (fun _ =>
cl (F_X0_copyThing G h nx l0 l1 l2) (fun _ h4 n5 =>
nm (l2 + (nI 1)) (fun v6 =>
((F_X0_copyFrom_59 G n) h4 n5 l0 l1 v6))))) := rfl
set_option maxRecDepth 100000 in
set_option maxHeartbeats 4000000 in
theorem k_X0_copyFrom_59 {G : Gx} {d : Nat} {v' : Unit} {h' : Hp} {n' : Nat} : ∀ (n : Nat) {h : Hp} {nx : Nat} {l0 : Nat} {l1 : Nat} {l2 : Int32}, F_X0_copyFrom_59 G n h nx l0 l1 l2 = some (v', h', n') → Ok G mX0_copyFrom (d + 1) (Same none h' n') 59 [some (.ref l0), some (.ref l1), some (.int l2)] [] h nx 0 0 := by
  intro n
  induction n with
  | zero =>
    intro h nx l0 l1 l2 e
    rw [F_X0_copyFrom_59_0] at e
    cases e
  | succ n K59 =>
    intro h nx l0 l1 l2 e
    rw [F_X0_copyFrom_59_s] at e
    refine Ok.iload_n dX0_copyFrom_59 rfl ?_
    refine Ok.bipushV (v := (nI 8)) dX0_copyFrom_60 (by decide +kernel) ?_
    refine X.icmp_ge (tgt := 77) dX0_copyFrom_62 (by decide) e (fun e1 => ?_) (fun e1 => ?_)
    · clear e
      refine Ok.aload_n dX0_copyFrom_77 rfl ?_
      refine Ok.aload_n dX0_copyFrom_78 rfl ?_
      refine X.rgfI fl_RX0_51 dX0_copyFrom_79 e1 (fun v1 e2 => ?_)
      clear e1
      refine X.rpfV (v := (.int v1)) fp_RX0_51 rfl rfl dX0_copyFrom_82 e2 (fun h2 e3 => ?_)
      clear e2
      refine Ok.iconstV (v := (nI 0)) dX0_copyFrom_85 (by decide +kernel) ?_
      refine XL.istore_n dX0_copyFrom_86 (by decide) (L := [some (.ref l0), some (.ref l1), some (.int (nI 0))]) rfl ?_
      exact Ok.weakL (k_X0_copyFrom_87 (d := d) fuelL e3) ⟨rfl, ⟨rfl, ⟨rfl, trivial⟩⟩⟩
    · clear e
      refine Ok.aload_n dX0_copyFrom_65 rfl ?_
      refine Ok.aload_n dX0_copyFrom_66 rfl ?_
      refine Ok.iload_n dX0_copyFrom_67 rfl ?_
      refine X.rck e1 (fun c fs hb hc e2 => ?_)
      clear e1
      obtain rfl := List.mem_singleton.mp hc
      refine X.callV (My := mX0_copyThing) (n := 2) (As := [.ref l1, .int l2]) (T := (fun v => none)) (stk' := (fun _ => [])) (rest := []) (kc' := 0) (ks' := 0) dX0_copyFrom_68 e2 (fun v h n e => k_X0_copyThing (d := d + 0) e) hb rfl wd1073 wd77 wd1072 wd24 wd1070 (by decide +kernel) rfl (by decide) rfl rfl (Nat.le_of_ble_eq_true rfl) (Nat.le_of_ble_eq_true rfl) (Nat.le_of_ble_eq_true rfl) rfl rfl (fun _ => rfl) (fun _ h4 n5 e3 => ?_)
      clear e2
      refine X.iinc dX0_copyFrom_71 rfl (by decide) (by decide +kernel) e3 (L := fun v6 => [some (.ref l0), some (.ref l1), some (.int v6)]) (fun _ => rfl) (fun v6 e4 => ?_)
      clear e3
      refine Ok.goto (tgt := 59) dX0_copyFrom_74 (by decide) ?_
      exact Ok.weakL (K59 e4) ⟨rfl, ⟨rfl, ⟨rfl, trivial⟩⟩⟩
noncomputable def F_X0_copyFrom_25 (G : Gx) : Nat → Hp → Nat → Nat → Nat → Int32 → Rz Unit := fun n => Nat.rec (motive := fun _ => Hp → Nat → Nat → Nat → Int32 → Rz Unit) (fun _ _ _ _ _ => none) (fun _ k25 => fun h nx l0 l1 l2 =>
if (nI 6) ≤ l2 then
gfI h l1 [0] 3 (fun v1 =>
pfV h l0 [0] 3 (.int v1) (fun h2 =>
(F_X0_copyFrom_59 G fuelL h2 nx l0 l1 (nI 0))))
else
gfR h l0 [0] 2 (fun v3 =>
gfR h l1 [0] 2 (fun v4 =>
nn v4 (fun p5 =>
alR (g_c G 4) h p5 l2 (fun v6 =>
nn v3 (fun p7 =>
asR (g_c G 4) [7] h p7 l2 v6 (fun h8 =>
nm (l2 + (nI 1)) (fun v9 =>
(k25 h8 nx l0 l1 v9))))))))) n
theorem F_X0_copyFrom_25_0 {G : Gx} {h : Hp} {nx : Nat} {l0 : Nat} {l1 : Nat} {l2 : Int32} : F_X0_copyFrom_25 G 0 h nx l0 l1 l2 = none := rfl
theorem F_X0_copyFrom_25_s {G : Gx} {n : Nat} {h : Hp} {nx : Nat} {l0 : Nat} {l1 : Nat} {l2 : Int32} : F_X0_copyFrom_25 G (n + 1) h nx l0 l1 l2 = (
if (nI 6) ≤ l2 then
gfI h l1 [0] 3 (fun v1 =>
pfV h l0 [0] 3 (.int v1) (fun h2 =>
(F_X0_copyFrom_59 G fuelL h2 nx l0 l1 (nI 0))))
else
gfR h l0 [0] 2 (fun v3 =>
gfR h l1 [0] 2 (fun v4 =>
nn v4 (fun p5 =>
alR (g_c G 4) h p5 l2 (fun v6 =>
nn v3 (fun p7 =>
asR (g_c G 4) [7] h p7 l2 v6 (fun h8 =>
nm (l2 + (nI 1)) (fun v9 =>
((F_X0_copyFrom_25 G n) h8 nx l0 l1 v9))))))))) := rfl
set_option maxRecDepth 100000 in
set_option maxHeartbeats 4000000 in
theorem k_X0_copyFrom_25 {G : Gx} {d : Nat} {v' : Unit} {h' : Hp} {n' : Nat} : ∀ (n : Nat) {h : Hp} {nx : Nat} {l0 : Nat} {l1 : Nat} {l2 : Int32}, F_X0_copyFrom_25 G n h nx l0 l1 l2 = some (v', h', n') → Ok G mX0_copyFrom (d + 1) (Same none h' n') 25 [some (.ref l0), some (.ref l1), some (.int l2)] [] h nx 0 0 := by
  intro n
  induction n with
  | zero =>
    intro h nx l0 l1 l2 e
    rw [F_X0_copyFrom_25_0] at e
    cases e
  | succ n K25 =>
    intro h nx l0 l1 l2 e
    rw [F_X0_copyFrom_25_s] at e
    refine Ok.iload_n dX0_copyFrom_25 rfl ?_
    refine Ok.bipushV (v := (nI 6)) dX0_copyFrom_26 (by decide +kernel) ?_
    refine X.icmp_ge (tgt := 49) dX0_copyFrom_28 (by decide) e (fun e1 => ?_) (fun e1 => ?_)
    · clear e
      refine Ok.aload_n dX0_copyFrom_49 rfl ?_
      refine Ok.aload_n dX0_copyFrom_50 rfl ?_
      refine X.rgfI fl_RX0_25 dX0_copyFrom_51 e1 (fun v1 e2 => ?_)
      clear e1
      refine X.rpfV (v := (.int v1)) fp_RX0_25 rfl rfl dX0_copyFrom_54 e2 (fun h2 e3 => ?_)
      clear e2
      refine Ok.iconstV (v := (nI 0)) dX0_copyFrom_57 (by decide +kernel) ?_
      refine XL.istore_n dX0_copyFrom_58 (by decide) (L := [some (.ref l0), some (.ref l1), some (.int (nI 0))]) rfl ?_
      exact Ok.weakL (k_X0_copyFrom_59 (d := d) fuelL e3) ⟨rfl, ⟨rfl, ⟨rfl, trivial⟩⟩⟩
    · clear e
      refine Ok.aload_n dX0_copyFrom_31 rfl ?_
      refine X.rgfR fl_RX0_21 dX0_copyFrom_32 e1 (fun v3 e2 => ?_)
      clear e1
      refine Ok.iload_n dX0_copyFrom_35 rfl ?_
      refine Ok.aload_n dX0_copyFrom_36 rfl ?_
      refine X.rgfR fl_RX0_21 dX0_copyFrom_37 e2 (fun v4 e3 => ?_)
      clear e2
      refine Ok.iload_n dX0_copyFrom_40 rfl ?_
      refine X.rnn e3 (fun p5 q e4 => ?_)
      clear e3
      subst q
      refine X.sald dX0_copyFrom_41 e4 (fun v6 e5 => ?_)
      clear e4
      refine X.rnn e5 (fun p7 q e6 => ?_)
      clear e5
      subst q
      refine X.sast (r := v6) dX0_copyFrom_42 cs_sort e6 (fun h8 e7 => ?_)
      clear e6
      refine X.iinc dX0_copyFrom_43 rfl (by decide) (by decide +kernel) e7 (L := fun v9 => [some (.ref l0), some (.ref l1), some (.int v9)]) (fun _ => rfl) (fun v9 e8 => ?_)
      clear e7
      refine Ok.goto (tgt := 25) dX0_copyFrom_46 (by decide) ?_
      exact Ok.weakL (K25 e8) ⟨rfl, ⟨rfl, ⟨rfl, trivial⟩⟩⟩
noncomputable def F_X0_copyFrom (G : Gx) (h : Hp) (nx : Nat) (a0 : Nat) (a1 : Nat) : Rz Unit :=
gfR h a1 [0] 0 (fun v1 =>
gfR h a0 [0] 0 (fun v2 =>
nn v1 (fun p3 =>
nn v2 (fun p4 =>
acI (g_c G 2) .byte h p3 (nI 0) p4 (nI 0) (nI 120) (fun h5 =>
gfI h5 a1 [0] 1 (fun v6 =>
pfV h5 a0 [0] 1 (.int v6) (fun h7 =>
(F_X0_copyFrom_25 G fuelL h7 nx a0 a1 (nI 0)))))))))
set_option maxRecDepth 100000 in
set_option maxHeartbeats 4000000 in
theorem k_X0_copyFrom {G : Gx} {d : Nat} {h : Hp} {nx : Nat} {a0 : Nat} {a1 : Nat} {v' : Unit} {h' : Hp} {n' : Nat} (e : F_X0_copyFrom G h nx a0 a1 = some (v', h', n')) : Ct G mX0_copyFrom (d + 1) (Same none h' n') [.ref a0, .ref a1] h nx := by
  unfold F_X0_copyFrom at e
  refine Ct.of (ls := [some (.ref a0), some (.ref a1), none]) (by decide +kernel) rfl (Nat.le_of_ble_eq_true rfl) rfl ?_
  refine Ok.aload_n dX0_copyFrom_0 rfl ?_
  refine X.rgfR fl_RX0_9 dX0_copyFrom_1 e (fun v1 e1 => ?_)
  clear e
  refine Ok.iconstV (v := (nI 0)) dX0_copyFrom_4 (by decide +kernel) ?_
  refine Ok.aload_n dX0_copyFrom_5 rfl ?_
  refine X.rgfR fl_RX0_9 dX0_copyFrom_6 e1 (fun v2 e2 => ?_)
  clear e1
  refine Ok.iconstV (v := (nI 0)) dX0_copyFrom_9 (by decide +kernel) ?_
  refine Ok.bipushV (v := (nI 120)) dX0_copyFrom_10 (by decide +kernel) ?_
  refine X.rnn e2 (fun p3 q e3 => ?_)
  clear e2
  subst q
  refine X.rnn e3 (fun p4 q e4 => ?_)
  clear e3
  subst q
  refine X.acB dX0_copyFrom_12 wd1069 wa_st wa_na wd84 (Nat.le_of_ble_eq_true rfl) e4 (fun h5 e5 => ?_)
  clear e4
  refine Ok.aload_n dX0_copyFrom_15 rfl ?_
  refine Ok.aload_n dX0_copyFrom_16 rfl ?_
  refine X.rgfI fl_RX0_15 dX0_copyFrom_17 e5 (fun v6 e6 => ?_)
  clear e5
  refine X.rpfV (v := (.int v6)) fp_RX0_15 rfl rfl dX0_copyFrom_20 e6 (fun h7 e7 => ?_)
  clear e6
  refine Ok.iconstV (v := (nI 0)) dX0_copyFrom_23 (by decide +kernel) ?_
  refine XL.istore_n dX0_copyFrom_24 (by decide) (L := [some (.ref a0), some (.ref a1), some (.int (nI 0))]) rfl ?_
  exact Ok.weakL (k_X0_copyFrom_25 (d := d) fuelL e7) ⟨rfl, ⟨rfl, ⟨rfl, trivial⟩⟩⟩
noncomputable def F_X0_hasThing_17 (G : Gx) (h : Hp) (nx : Nat) (s0 : Int32) : Rz Int32 :=
zk s0 (some (s0, h, nx))
set_option maxRecDepth 100000 in
set_option maxHeartbeats 4000000 in
theorem k_X0_hasThing_17 {G : Gx} {d : Nat} {v' : Int32} {h' : Hp} {n' : Nat} {h : Hp} {nx : Nat} {s0 : Int32} (e : F_X0_hasThing_17 G h nx s0 = some (v', h', n')) : Ok G mX0_hasThing (d + 0) (Same (some (.int v')) h' n') 17 [none, none] [.int s0] h nx 0 0 := by
  unfold F_X0_hasThing_17 at e
  exact X.zret dX0_hasThing_17 rfl (Nat.le_of_ble_eq_true rfl) (Nat.le_of_ble_eq_true rfl) e
noncomputable def F_X0_hasThing_16 (G : Gx) (h : Hp) (nx : Nat) : Rz Int32 :=
(F_X0_hasThing_17 G h nx (nI 0))
set_option maxRecDepth 100000 in
set_option maxHeartbeats 4000000 in
theorem k_X0_hasThing_16 {G : Gx} {d : Nat} {v' : Int32} {h' : Hp} {n' : Nat} {h : Hp} {nx : Nat} (e : F_X0_hasThing_16 G h nx = some (v', h', n')) : Ok G mX0_hasThing (d + 0) (Same (some (.int v')) h' n') 16 [none, none] [] h nx 0 0 := by
  unfold F_X0_hasThing_16 at e
  refine Ok.iconstV (v := (nI 0)) dX0_hasThing_16 (by decide +kernel) ?_
  exact Ok.weakL (k_X0_hasThing_17 (d := d) e) trivial
noncomputable def F_X0_hasThing (G : Gx) (h : Hp) (nx : Nat) (a0 : Nat) (a1 : Int32) : Rz Int32 :=
if a1 < 0 then
(F_X0_hasThing_16 G h nx)
else
gfI h a0 [0] 11 (fun v1 =>
if v1 ≤ a1 then
(F_X0_hasThing_16 G h nx)
else
(F_X0_hasThing_17 G h nx (nI 1)))
set_option maxRecDepth 100000 in
set_option maxHeartbeats 4000000 in
theorem k_X0_hasThing {G : Gx} {d : Nat} {h : Hp} {nx : Nat} {a0 : Nat} {a1 : Int32} {v' : Int32} {h' : Hp} {n' : Nat} (e : F_X0_hasThing G h nx a0 a1 = some (v', h', n')) : Ct G mX0_hasThing (d + 0) (Same (some (.int v')) h' n') [.ref a0, .int a1] h nx := by
  unfold F_X0_hasThing at e
  refine Ct.of (ls := [some (.ref a0), some (.int a1)]) (by decide +kernel) rfl (Nat.le_of_ble_eq_true rfl) rfl ?_
  refine Ok.iload_n dX0_hasThing_0 rfl ?_
  refine X.if_lt (tgt := 16) dX0_hasThing_1 (by decide) e (fun e1 => ?_) (fun e1 => ?_)
  · clear e
    exact Ok.weakL (k_X0_hasThing_16 (d := d) e1) trivial
  · clear e
    refine Ok.iload_n dX0_hasThing_4 rfl ?_
    refine Ok.aload_n dX0_hasThing_5 rfl ?_
    refine X.rgfI fl_RX0_51 dX0_hasThing_6 e1 (fun v1 e2 => ?_)
    clear e1
    refine X.icmp_ge (tgt := 16) dX0_hasThing_9 (by decide) e2 (fun e3 => ?_) (fun e3 => ?_)
    · clear e2
      exact Ok.weakL (k_X0_hasThing_16 (d := d) e3) trivial
    · clear e2
      refine Ok.iconstV (v := (nI 1)) dX0_hasThing_12 (by decide +kernel) ?_
      refine Ok.goto (tgt := 17) dX0_hasThing_13 (by decide) ?_
      exact Ok.weakL (k_X0_hasThing_17 (d := d) e3) trivial
noncomputable def F_X0_planAt_22 (G : Gx) (h : Hp) (nx : Nat) (s0 : Option Nat) : Rz (Option Nat) :=
some (s0, h, nx)
set_option maxRecDepth 100000 in
set_option maxHeartbeats 4000000 in
theorem k_X0_planAt_22 {G : Gx} {d : Nat} {v' : Option Nat} {h' : Hp} {n' : Nat} {h : Hp} {nx : Nat} {s0 : Option Nat} (e : F_X0_planAt_22 G h nx s0 = some (v', h', n')) : Ok G mX0_planAt (d + 0) (Same (some (va_rf v')) h' n') 22 [none, none] [va_rf s0] h nx 0 0 := by
  unfold F_X0_planAt_22 at e
  exact X.aret (v := s0) dX0_planAt_22 rfl (Or.inl ⟨_, rfl⟩) (Nat.le_of_ble_eq_true rfl) (Nat.le_of_ble_eq_true rfl) e
noncomputable def F_X0_planAt_21 (G : Gx) (h : Hp) (nx : Nat) : Rz (Option Nat) :=
(F_X0_planAt_22 G h nx none)
set_option maxRecDepth 100000 in
set_option maxHeartbeats 4000000 in
theorem k_X0_planAt_21 {G : Gx} {d : Nat} {v' : Option Nat} {h' : Hp} {n' : Nat} {h : Hp} {nx : Nat} (e : F_X0_planAt_21 G h nx = some (v', h', n')) : Ok G mX0_planAt (d + 0) (Same (some (va_rf v')) h' n') 21 [none, none] [] h nx 0 0 := by
  unfold F_X0_planAt_21 at e
  refine XL.aconst_null dX0_planAt_21 ?_
  exact Ok.weakL (k_X0_planAt_22 (d := d) e) trivial
noncomputable def F_X0_planAt (G : Gx) (h : Hp) (nx : Nat) (a0 : Nat) (a1 : Int32) : Rz (Option Nat) :=
if a1 < 0 then
(F_X0_planAt_21 G h nx)
else
gfI h a0 [0] 15 (fun v1 =>
if v1 ≤ a1 then
(F_X0_planAt_21 G h nx)
else
gfR h a0 [0] 12 (fun v2 =>
nn v2 (fun p3 =>
alR (g_c G 5) h p3 a1 (fun v4 =>
(F_X0_planAt_22 G h nx v4)))))
set_option maxRecDepth 100000 in
set_option maxHeartbeats 4000000 in
theorem k_X0_planAt {G : Gx} {d : Nat} {h : Hp} {nx : Nat} {a0 : Nat} {a1 : Int32} {v' : Option Nat} {h' : Hp} {n' : Nat} (e : F_X0_planAt G h nx a0 a1 = some (v', h', n')) : Ct G mX0_planAt (d + 0) (Same (some (va_rf v')) h' n') [.ref a0, .int a1] h nx := by
  unfold F_X0_planAt at e
  refine Ct.of (ls := [some (.ref a0), some (.int a1)]) (by decide +kernel) rfl (Nat.le_of_ble_eq_true rfl) rfl ?_
  refine Ok.iload_n dX0_planAt_0 rfl ?_
  refine X.if_lt (tgt := 21) dX0_planAt_1 (by decide) e (fun e1 => ?_) (fun e1 => ?_)
  · clear e
    exact Ok.weakL (k_X0_planAt_21 (d := d) e1) trivial
  · clear e
    refine Ok.iload_n dX0_planAt_4 rfl ?_
    refine Ok.aload_n dX0_planAt_5 rfl ?_
    refine X.rgfI fl_RX0_68 dX0_planAt_6 e1 (fun v1 e2 => ?_)
    clear e1
    refine X.icmp_ge (tgt := 21) dX0_planAt_9 (by decide) e2 (fun e3 => ?_) (fun e3 => ?_)
    · clear e2
      exact Ok.weakL (k_X0_planAt_21 (d := d) e3) trivial
    · clear e2
      refine Ok.aload_n dX0_planAt_12 rfl ?_
      refine X.rgfR fl_RX0_56 dX0_planAt_13 e3 (fun v2 e4 => ?_)
      clear e3
      refine Ok.iload_n dX0_planAt_16 rfl ?_
      refine X.rnn e4 (fun p3 q e5 => ?_)
      clear e4
      subst q
      refine X.pald dX0_planAt_17 e5 (fun v4 e6 => ?_)
      clear e5
      refine Ok.goto (tgt := 22) dX0_planAt_18 (by decide) ?_
      exact Ok.weakL (k_X0_planAt_22 (d := d) e6) trivial
noncomputable def F_X0_sortAt (G : Gx) (h : Hp) (nx : Nat) (a0 : Nat) (a1 : Int32) : Rz (Option Nat) :=
gfR h a0 [0] 2 (fun v1 =>
gfR h a0 [0] 4 (fun v2 =>
nn v2 (fun p3 =>
alI (g_c G 0) h p3 a1 (fun v4 =>
nn v1 (fun p5 =>
alR (g_c G 4) h p5 v4 (fun v6 =>
some (v6, h, nx)))))))
set_option maxRecDepth 100000 in
set_option maxHeartbeats 4000000 in
theorem k_X0_sortAt {G : Gx} {d : Nat} {h : Hp} {nx : Nat} {a0 : Nat} {a1 : Int32} {v' : Option Nat} {h' : Hp} {n' : Nat} (e : F_X0_sortAt G h nx a0 a1 = some (v', h', n')) : Ct G mX0_sortAt (d + 0) (Same (some (va_rf v')) h' n') [.ref a0, .int a1] h nx := by
  unfold F_X0_sortAt at e
  refine Ct.of (ls := [some (.ref a0), some (.int a1)]) (by decide +kernel) rfl (Nat.le_of_ble_eq_true rfl) rfl ?_
  refine Ok.aload_n dX0_sortAt_0 rfl ?_
  refine X.rgfR fl_RX0_21 dX0_sortAt_1 e (fun v1 e1 => ?_)
  clear e
  refine Ok.aload_n dX0_sortAt_4 rfl ?_
  refine X.rgfR fl_RX0_28 dX0_sortAt_5 e1 (fun v2 e2 => ?_)
  clear e1
  refine Ok.iload_n dX0_sortAt_8 rfl ?_
  refine X.rnn e2 (fun p3 q e3 => ?_)
  clear e2
  subst q
  refine X.iald dX0_sortAt_9 e3 (fun v4 e4 => ?_)
  clear e3
  refine X.rnn e4 (fun p5 q e5 => ?_)
  clear e4
  subst q
  refine X.sald dX0_sortAt_10 e5 (fun v6 e6 => ?_)
  clear e5
  exact X.aret (v := v6) dX0_sortAt_11 rfl (Or.inl ⟨_, rfl⟩) (Nat.le_of_ble_eq_true rfl) (Nat.le_of_ble_eq_true rfl) e6
noncomputable def F_X0_looksOrAll (G : Gx) (h : Hp) (nx : Nat) (a0 : Nat) : Rz Int32 :=
gfI h a0 [0] 17 (fun v1 =>
gfI h a0 [0] 11 (fun v2 =>
some ((mnI v1 v2), h, nx)))
set_option maxRecDepth 100000 in
set_option maxHeartbeats 4000000 in
theorem k_X0_looksOrAll {G : Gx} {d : Nat} {h : Hp} {nx : Nat} {a0 : Nat} {v' : Int32} {h' : Hp} {n' : Nat} (e : F_X0_looksOrAll G h nx a0 = some (v', h', n')) : Ct G mX0_looksOrAll (d + 0) (Same (some (.int v')) h' n') [.ref a0] h nx := by
  unfold F_X0_looksOrAll at e
  refine Ct.of (ls := [some (.ref a0)]) (by decide +kernel) rfl (Nat.le_of_ble_eq_true rfl) rfl ?_
  refine Ok.aload_n dX0_looksOrAll_0 rfl ?_
  refine X.rgfI fl_RX0_74 dX0_looksOrAll_1 e (fun v1 e1 => ?_)
  clear e
  refine Ok.aload_n dX0_looksOrAll_4 rfl ?_
  refine X.rgfI fl_RX0_51 dX0_looksOrAll_5 e1 (fun v2 e2 => ?_)
  clear e1
  refine Ok.mminI dX0_looksOrAll_8 wd540 wd343 wd83 wd344 (Nat.le_of_ble_eq_true rfl) (Nat.le_of_ble_eq_true rfl) (Nat.le_of_ble_eq_true rfl) ?_
  exact X.iret dX0_looksOrAll_11 rfl (Nat.le_of_ble_eq_true rfl) (Nat.le_of_ble_eq_true rfl) e2
noncomputable def F_X0_addThing (G : Gx) (h : Hp) (nx : Nat) (a0 : Nat) (a1 : Int32) (a2 : Int32) : Rz Int32 :=
gfI h a0 [0] 11 (fun v1 =>
gfR h a0 [0] 4 (fun v2 =>
nn v2 (fun p3 =>
asI (g_c G 0) id h p3 v1 a1 (fun h4 =>
gfR h4 a0 [0] 5 (fun v5 =>
nn v5 (fun p6 =>
asI (g_c G 0) id h4 p6 v1 a2 (fun h7 =>
gfR h7 a0 [0] 6 (fun v8 =>
nn v8 (fun p9 =>
asI (g_c G 0) id h7 p9 v1 (nI 1000000) (fun h10 =>
gfR h10 a0 [0] 7 (fun v11 =>
nn v11 (fun p12 =>
asI (g_c G 0) id h10 p12 v1 (nI 0) (fun h13 =>
gfR h13 a0 [0] 8 (fun v14 =>
nn v14 (fun p15 =>
asI (g_c G 0) id h13 p15 v1 (nI 0) (fun h16 =>
gfR h16 a0 [0] 9 (fun v17 =>
nn v17 (fun p18 =>
asI (g_c G 0) id h16 p18 v1 (nI 0) (fun h19 =>
gfR h19 a0 [0] 10 (fun v20 =>
nn v20 (fun p21 =>
asI (g_c G 3) (vp_nar .boolean) h19 p21 v1 (nI 1) (fun h22 =>
gfI h22 a0 [0] 11 (fun v23 =>
pfV h22 a0 [0] 11 (.int ((v23 + (nI 1)))) (fun h24 =>
some (v1, h24, nx)))))))))))))))))))))))))
set_option maxRecDepth 100000 in
set_option maxHeartbeats 4000000 in
theorem k_X0_addThing {G : Gx} {d : Nat} {h : Hp} {nx : Nat} {a0 : Nat} {a1 : Int32} {a2 : Int32} {v' : Int32} {h' : Hp} {n' : Nat} (e : F_X0_addThing G h nx a0 a1 a2 = some (v', h', n')) : Ct G mX0_addThing (d + 0) (Same (some (.int v')) h' n') [.ref a0, .int a1, .int a2] h nx := by
  unfold F_X0_addThing at e
  refine Ct.of (ls := [some (.ref a0), some (.int a1), some (.int a2), none]) (by decide +kernel) rfl (Nat.le_of_ble_eq_true rfl) rfl ?_
  refine Ok.aload_n dX0_addThing_0 rfl ?_
  refine X.rgfI fl_RX0_51 dX0_addThing_1 e (fun v1 e1 => ?_)
  clear e
  refine XL.istore_n dX0_addThing_4 (by decide) (L := [some (.ref a0), some (.int a1), some (.int a2), some (.int v1)]) rfl ?_
  refine Ok.aload_n dX0_addThing_5 rfl ?_
  refine X.rgfR fl_RX0_28 dX0_addThing_6 e1 (fun v2 e2 => ?_)
  clear e1
  refine Ok.iload_n dX0_addThing_9 rfl ?_
  refine Ok.iload_n dX0_addThing_10 rfl ?_
  refine X.rnn e2 (fun p3 q e3 => ?_)
  clear e2
  subst q
  refine X.iast dX0_addThing_11 e3 (fun h4 e4 => ?_)
  clear e3
  refine Ok.aload_n dX0_addThing_12 rfl ?_
  refine X.rgfR fl_RX0_32 dX0_addThing_13 e4 (fun v5 e5 => ?_)
  clear e4
  refine Ok.iload_n dX0_addThing_16 rfl ?_
  refine Ok.iload_n dX0_addThing_17 rfl ?_
  refine X.rnn e5 (fun p6 q e6 => ?_)
  clear e5
  subst q
  refine X.iast dX0_addThing_18 e6 (fun h7 e7 => ?_)
  clear e6
  refine Ok.aload_n dX0_addThing_19 rfl ?_
  refine X.rgfR fl_RX0_35 dX0_addThing_20 e7 (fun v8 e8 => ?_)
  clear e7
  refine Ok.iload_n dX0_addThing_23 rfl ?_
  refine Ok.ldc (v := (nI 1000000)) dX0_addThing_24 wd513 ?_
  refine X.rnn e8 (fun p9 q e9 => ?_)
  clear e8
  subst q
  refine X.iast dX0_addThing_26 e9 (fun h10 e10 => ?_)
  clear e9
  refine Ok.aload_n dX0_addThing_27 rfl ?_
  refine X.rgfR fl_RX0_38 dX0_addThing_28 e10 (fun v11 e11 => ?_)
  clear e10
  refine Ok.iload_n dX0_addThing_31 rfl ?_
  refine Ok.iconstV (v := (nI 0)) dX0_addThing_32 (by decide +kernel) ?_
  refine X.rnn e11 (fun p12 q e12 => ?_)
  clear e11
  subst q
  refine X.iast dX0_addThing_33 e12 (fun h13 e13 => ?_)
  clear e12
  refine Ok.aload_n dX0_addThing_34 rfl ?_
  refine X.rgfR fl_RX0_41 dX0_addThing_35 e13 (fun v14 e14 => ?_)
  clear e13
  refine Ok.iload_n dX0_addThing_38 rfl ?_
  refine Ok.iconstV (v := (nI 0)) dX0_addThing_39 (by decide +kernel) ?_
  refine X.rnn e14 (fun p15 q e15 => ?_)
  clear e14
  subst q
  refine X.iast dX0_addThing_40 e15 (fun h16 e16 => ?_)
  clear e15
  refine Ok.aload_n dX0_addThing_41 rfl ?_
  refine X.rgfR fl_RX0_44 dX0_addThing_42 e16 (fun v17 e17 => ?_)
  clear e16
  refine Ok.iload_n dX0_addThing_45 rfl ?_
  refine Ok.iconstV (v := (nI 0)) dX0_addThing_46 (by decide +kernel) ?_
  refine X.rnn e17 (fun p18 q e18 => ?_)
  clear e17
  subst q
  refine X.iast dX0_addThing_47 e18 (fun h19 e19 => ?_)
  clear e18
  refine Ok.aload_n dX0_addThing_48 rfl ?_
  refine X.rgfR fl_RX0_47 dX0_addThing_49 e19 (fun v20 e20 => ?_)
  clear e19
  refine Ok.iload_n dX0_addThing_52 rfl ?_
  refine Ok.iconstV (v := (nI 1)) dX0_addThing_53 (by decide +kernel) ?_
  refine X.rnn e20 (fun p21 q e21 => ?_)
  clear e20
  subst q
  refine X.zast dX0_addThing_54 e21 (fun h22 e22 => ?_)
  clear e21
  refine Ok.aload_n dX0_addThing_55 rfl ?_
  refine Ok.dup dX0_addThing_56 rfl ?_
  refine X.rgfI fl_RX0_51 dX0_addThing_57 e22 (fun v23 e23 => ?_)
  clear e22
  refine Ok.iconstV (v := (nI 1)) dX0_addThing_60 (by decide +kernel) ?_
  refine Ok.iadd dX0_addThing_61 ?_
  refine X.rpfV (v := (.int ((v23 + (nI 1))))) fp_RX0_51 rfl rfl dX0_addThing_62 e23 (fun h24 e24 => ?_)
  clear e23
  refine Ok.iload_n dX0_addThing_65 rfl ?_
  exact X.iret dX0_addThing_66 rfl (Nat.le_of_ble_eq_true rfl) (Nat.le_of_ble_eq_true rfl) e24
noncomputable def F_X0_addPlan (G : Gx) (h : Hp) (nx : Nat) (a0 : Nat) (a1 : Nat) : Rz Int32 :=
gfI h a0 [0] 15 (fun v1 =>
gfR h a0 [0] 12 (fun v2 =>
nn v2 (fun p3 =>
asR (g_c G 5) [1, 2, 3, 4, 6, 8, 10] h p3 v1 (some a1) (fun h4 =>
gfR h4 a0 [0] 13 (fun v5 =>
nn v5 (fun p6 =>
asI (g_c G 0) id h4 p6 v1 (nI 0) (fun h7 =>
gfI h7 a0 [0] 15 (fun v8 =>
pfV h7 a0 [0] 15 (.int ((v8 + (nI 1)))) (fun h9 =>
some (v1, h9, nx))))))))))
set_option maxRecDepth 100000 in
set_option maxHeartbeats 4000000 in
theorem k_X0_addPlan {G : Gx} {d : Nat} {h : Hp} {nx : Nat} {a0 : Nat} {a1 : Nat} {v' : Int32} {h' : Hp} {n' : Nat} (e : F_X0_addPlan G h nx a0 a1 = some (v', h', n')) : Ct G mX0_addPlan (d + 0) (Same (some (.int v')) h' n') [.ref a0, .ref a1] h nx := by
  unfold F_X0_addPlan at e
  refine Ct.of (ls := [some (.ref a0), some (.ref a1), none]) (by decide +kernel) rfl (Nat.le_of_ble_eq_true rfl) rfl ?_
  refine Ok.aload_n dX0_addPlan_0 rfl ?_
  refine X.rgfI fl_RX0_68 dX0_addPlan_1 e (fun v1 e1 => ?_)
  clear e
  refine XL.istore_n dX0_addPlan_4 (by decide) (L := [some (.ref a0), some (.ref a1), some (.int v1)]) rfl ?_
  refine Ok.aload_n dX0_addPlan_5 rfl ?_
  refine X.rgfR fl_RX0_56 dX0_addPlan_6 e1 (fun v2 e2 => ?_)
  clear e1
  refine Ok.iload_n dX0_addPlan_9 rfl ?_
  refine Ok.aload_n dX0_addPlan_10 rfl ?_
  refine X.rnn e2 (fun p3 q e3 => ?_)
  clear e2
  subst q
  refine X.past (r := (some a1)) dX0_addPlan_11 cs_plan e3 (fun h4 e4 => ?_)
  clear e3
  refine Ok.aload_n dX0_addPlan_12 rfl ?_
  refine X.rgfR fl_RX0_60 dX0_addPlan_13 e4 (fun v5 e5 => ?_)
  clear e4
  refine Ok.iload_n dX0_addPlan_16 rfl ?_
  refine Ok.iconstV (v := (nI 0)) dX0_addPlan_17 (by decide +kernel) ?_
  refine X.rnn e5 (fun p6 q e6 => ?_)
  clear e5
  subst q
  refine X.iast dX0_addPlan_18 e6 (fun h7 e7 => ?_)
  clear e6
  refine Ok.aload_n dX0_addPlan_19 rfl ?_
  refine Ok.dup dX0_addPlan_20 rfl ?_
  refine X.rgfI fl_RX0_68 dX0_addPlan_21 e7 (fun v8 e8 => ?_)
  clear e7
  refine Ok.iconstV (v := (nI 1)) dX0_addPlan_24 (by decide +kernel) ?_
  refine Ok.iadd dX0_addPlan_25 ?_
  refine X.rpfV (v := (.int ((v8 + (nI 1))))) fp_RX0_68 rfl rfl dX0_addPlan_26 e8 (fun h9 e9 => ?_)
  clear e8
  refine Ok.iload_n dX0_addPlan_29 rfl ?_
  exact X.iret dX0_addPlan_30 rfl (Nat.le_of_ble_eq_true rfl) (Nat.le_of_ble_eq_true rfl) e9
noncomputable def F_X7_holds_204 (G : Gx) (h : Hp) (nx : Nat) (s0 : Int32) : Rz Int32 :=
zk s0 (some (s0, h, nx))
set_option maxRecDepth 100000 in
set_option maxHeartbeats 4000000 in
theorem k_X7_holds_204 {G : Gx} {d : Nat} {v' : Int32} {h' : Hp} {n' : Nat} {h : Hp} {nx : Nat} {s0 : Int32} (e : F_X7_holds_204 G h nx s0 = some (v', h', n')) : Ok G mX7_holds (d + 0) (Same (some (.int v')) h' n') 204 [none, none, none, none, none, none, none, none, none, none, none, none, none] [.int s0] h nx 0 0 := by
  unfold F_X7_holds_204 at e
  exact X.zret dX7_holds_204 rfl (Nat.le_of_ble_eq_true rfl) (Nat.le_of_ble_eq_true rfl) e
noncomputable def F_X7_holds_185 (G : Gx) (k6 : Hp → Nat → Nat → Int32 → Int32 → Int32 → Int32 → Int32 → Rz Int32) (h : Hp) (nx : Nat) (l0 : Nat) (l2 : Int32) (l3 : Int32) (l4 : Int32) (l5 : Int32) (l6 : Int32) : Rz Int32 :=
nm (l6 + (nI 1)) (fun v1 =>
(k6 h nx l0 l2 l3 l4 l5 v1))
set_option maxRecDepth 100000 in
set_option maxHeartbeats 4000000 in
theorem k_X7_holds_185 {G : Gx} {d : Nat} {v' : Int32} {h' : Hp} {n' : Nat} {k6 : Hp → Nat → Nat → Int32 → Int32 → Int32 → Int32 → Int32 → Rz Int32} (K6 : ∀ {h : Hp} {nx : Nat} {l0 : Nat} {l2 : Int32} {l3 : Int32} {l4 : Int32} {l5 : Int32} {l6 : Int32}, k6 h nx l0 l2 l3 l4 l5 l6 = some (v', h', n') → Ok G mX7_holds (d + 0) (Same (some (.int v')) h' n') 6 [some (.ref l0), none, some (.int l2), some (.int l3), some (.int l4), some (.int l5), some (.int l6), none, none, none, none, none, none] [] h nx 0 0) {h : Hp} {nx : Nat} {l0 : Nat} {l2 : Int32} {l3 : Int32} {l4 : Int32} {l5 : Int32} {l6 : Int32} (e : F_X7_holds_185 G k6 h nx l0 l2 l3 l4 l5 l6 = some (v', h', n')) : Ok G mX7_holds (d + 0) (Same (some (.int v')) h' n') 185 [some (.ref l0), none, some (.int l2), some (.int l3), some (.int l4), some (.int l5), some (.int l6), none, none, none, none, none, none] [] h nx 0 0 := by
  unfold F_X7_holds_185 at e
  refine X.iinc dX7_holds_185 rfl (by decide) (by decide +kernel) e (L := fun v1 => [some (.ref l0), none, some (.int l2), some (.int l3), some (.int l4), some (.int l5), some (.int v1), none, none, none, none, none, none]) (fun _ => rfl) (fun v1 e1 => ?_)
  clear e
  refine Ok.goto (tgt := 6) dX7_holds_188 (by decide) ?_
  exact Ok.weakL (K6 e1) ⟨rfl, ⟨rfl, ⟨rfl, ⟨rfl, ⟨rfl, ⟨rfl, trivial⟩⟩⟩⟩⟩⟩
noncomputable def F_X7_holds_182 (G : Gx) (k6 : Hp → Nat → Nat → Int32 → Int32 → Int32 → Int32 → Int32 → Rz Int32) (h : Hp) (nx : Nat) (s0 : Int32) (s1 : Int32) (l0 : Nat) (l2 : Int32) (l3 : Int32) (l4 : Int32) (l6 : Int32) : Rz Int32 :=
nm ((s0 ||| s1)) (fun v1 =>
(F_X7_holds_185 G k6 h nx l0 l2 l3 l4 v1 l6))
set_option maxRecDepth 100000 in
set_option maxHeartbeats 4000000 in
theorem k_X7_holds_182 {G : Gx} {d : Nat} {v' : Int32} {h' : Hp} {n' : Nat} {k6 : Hp → Nat → Nat → Int32 → Int32 → Int32 → Int32 → Int32 → Rz Int32} (K6 : ∀ {h : Hp} {nx : Nat} {l0 : Nat} {l2 : Int32} {l3 : Int32} {l4 : Int32} {l5 : Int32} {l6 : Int32}, k6 h nx l0 l2 l3 l4 l5 l6 = some (v', h', n') → Ok G mX7_holds (d + 0) (Same (some (.int v')) h' n') 6 [some (.ref l0), none, some (.int l2), some (.int l3), some (.int l4), some (.int l5), some (.int l6), none, none, none, none, none, none] [] h nx 0 0) {h : Hp} {nx : Nat} {s0 : Int32} {s1 : Int32} {l0 : Nat} {l2 : Int32} {l3 : Int32} {l4 : Int32} {l6 : Int32} (e : F_X7_holds_182 G k6 h nx s0 s1 l0 l2 l3 l4 l6 = some (v', h', n')) : Ok G mX7_holds (d + 0) (Same (some (.int v')) h' n') 182 [some (.ref l0), none, some (.int l2), some (.int l3), some (.int l4), none, some (.int l6), none, none, none, none, none, none] [.int s1, .int s0] h nx 0 0 := by
  unfold F_X7_holds_182 at e
  refine Ok.ior dX7_holds_182 ?_
  refine X.istore dX7_holds_183 (by decide) e (L := fun v1 => [some (.ref l0), none, some (.int l2), some (.int l3), some (.int l4), some (.int v1), some (.int l6), none, none, none, none, none, none]) (fun _ => rfl) (fun v1 e1 => ?_)
  clear e
  exact Ok.weakL (k_X7_holds_185 (d := d) K6 e1) ⟨rfl, ⟨rfl, ⟨rfl, ⟨rfl, ⟨rfl, ⟨rfl, trivial⟩⟩⟩⟩⟩⟩
noncomputable def F_X7_holds_166 (G : Gx) (k6 : Hp → Nat → Nat → Int32 → Int32 → Int32 → Int32 → Int32 → Rz Int32) (h : Hp) (nx : Nat) (s0 : Int32) (l0 : Nat) (l2 : Int32) (l3 : Int32) (l4 : Int32) (l5 : Int32) (l6 : Int32) : Rz Int32 :=
if s0 = 0 then
(F_X7_holds_182 G k6 h nx ((l5 <<< ((nI 1) &&& 31))) (nI 0) l0 l2 l3 l4 l6)
else
(F_X7_holds_182 G k6 h nx ((l5 <<< ((nI 1) &&& 31))) (nI 1) l0 l2 l3 l4 l6)
set_option maxRecDepth 100000 in
set_option maxHeartbeats 4000000 in
theorem k_X7_holds_166 {G : Gx} {d : Nat} {v' : Int32} {h' : Hp} {n' : Nat} {k6 : Hp → Nat → Nat → Int32 → Int32 → Int32 → Int32 → Int32 → Rz Int32} (K6 : ∀ {h : Hp} {nx : Nat} {l0 : Nat} {l2 : Int32} {l3 : Int32} {l4 : Int32} {l5 : Int32} {l6 : Int32}, k6 h nx l0 l2 l3 l4 l5 l6 = some (v', h', n') → Ok G mX7_holds (d + 0) (Same (some (.int v')) h' n') 6 [some (.ref l0), none, some (.int l2), some (.int l3), some (.int l4), some (.int l5), some (.int l6), none, none, none, none, none, none] [] h nx 0 0) {h : Hp} {nx : Nat} {s0 : Int32} {l0 : Nat} {l2 : Int32} {l3 : Int32} {l4 : Int32} {l5 : Int32} {l6 : Int32} (e : F_X7_holds_166 G k6 h nx s0 l0 l2 l3 l4 l5 l6 = some (v', h', n')) : Ok G mX7_holds (d + 0) (Same (some (.int v')) h' n') 166 [some (.ref l0), none, some (.int l2), some (.int l3), some (.int l4), some (.int l5), some (.int l6), none, none, none, none, none, none] [.int s0] h nx 0 0 := by
  unfold F_X7_holds_166 at e
  refine XL.istore dX7_holds_166 (by decide) (L := [some (.ref l0), none, some (.int l2), some (.int l3), some (.int l4), some (.int l5), some (.int l6), none, none, none, none, none, some (.int s0)]) rfl ?_
  refine Ok.iload dX7_holds_168 rfl ?_
  refine Ok.iconstV (v := (nI 1)) dX7_holds_170 (by decide +kernel) ?_
  refine Ok.ishl dX7_holds_171 ?_
  refine Ok.iload dX7_holds_172 rfl ?_
  refine X.if_eq (tgt := 181) dX7_holds_174 (by decide) e (fun e1 => ?_) (fun e1 => ?_)
  · clear e
    refine Ok.iconstV (v := (nI 0)) dX7_holds_181 (by decide +kernel) ?_
    exact Ok.weakL (k_X7_holds_182 (d := d) K6 e1) ⟨rfl, ⟨rfl, ⟨rfl, ⟨rfl, ⟨rfl, trivial⟩⟩⟩⟩⟩
  · clear e
    refine Ok.iconstV (v := (nI 1)) dX7_holds_177 (by decide +kernel) ?_
    refine Ok.goto (tgt := 182) dX7_holds_178 (by decide) ?_
    exact Ok.weakL (k_X7_holds_182 (d := d) K6 e1) ⟨rfl, ⟨rfl, ⟨rfl, ⟨rfl, ⟨rfl, trivial⟩⟩⟩⟩⟩
noncomputable def F_X7_holds_96 (G : Gx) (k6 : Hp → Nat → Nat → Int32 → Int32 → Int32 → Int32 → Int32 → Rz Int32) (h : Hp) (nx : Nat) (s0 : Int32) (l0 : Nat) (l2 : Int32) (l3 : Int32) (l4 : Int32) (l5 : Int32) (l6 : Int32) (l7 : Int32) : Rz Int32 :=
nm ((((l7 / (nI 2))) - ((l7 / (nI 2))) / (nI 4) * (nI 4))) (fun v1 =>
nm ((l7 / (nI 8))) (fun v2 =>
if v1 = 0 then
if v2 ≤ s0 then
(F_X7_holds_166 G k6 h nx (nI 0) l0 l2 l3 l4 l5 l6)
else
(F_X7_holds_166 G k6 h nx (nI 1) l0 l2 l3 l4 l5 l6)
else
if v1 = (nI 1) then
if s0 = v2 then
(F_X7_holds_166 G k6 h nx (nI 1) l0 l2 l3 l4 l5 l6)
else
(F_X7_holds_166 G k6 h nx (nI 0) l0 l2 l3 l4 l5 l6)
else
if s0 ≤ v2 then
(F_X7_holds_166 G k6 h nx (nI 0) l0 l2 l3 l4 l5 l6)
else
(F_X7_holds_166 G k6 h nx (nI 1) l0 l2 l3 l4 l5 l6)))
set_option maxRecDepth 100000 in
set_option maxHeartbeats 4000000 in
theorem k_X7_holds_96 {G : Gx} {d : Nat} {v' : Int32} {h' : Hp} {n' : Nat} {k6 : Hp → Nat → Nat → Int32 → Int32 → Int32 → Int32 → Int32 → Rz Int32} (K6 : ∀ {h : Hp} {nx : Nat} {l0 : Nat} {l2 : Int32} {l3 : Int32} {l4 : Int32} {l5 : Int32} {l6 : Int32}, k6 h nx l0 l2 l3 l4 l5 l6 = some (v', h', n') → Ok G mX7_holds (d + 0) (Same (some (.int v')) h' n') 6 [some (.ref l0), none, some (.int l2), some (.int l3), some (.int l4), some (.int l5), some (.int l6), none, none, none, none, none, none] [] h nx 0 0) {h : Hp} {nx : Nat} {s0 : Int32} {l0 : Nat} {l2 : Int32} {l3 : Int32} {l4 : Int32} {l5 : Int32} {l6 : Int32} {l7 : Int32} (e : F_X7_holds_96 G k6 h nx s0 l0 l2 l3 l4 l5 l6 l7 = some (v', h', n')) : Ok G mX7_holds (d + 0) (Same (some (.int v')) h' n') 96 [some (.ref l0), none, some (.int l2), some (.int l3), some (.int l4), some (.int l5), some (.int l6), some (.int l7), none, none, none, none, none] [.int s0] h nx 0 0 := by
  unfold F_X7_holds_96 at e
  refine XL.istore dX7_holds_96 (by decide) (L := [some (.ref l0), none, some (.int l2), some (.int l3), some (.int l4), some (.int l5), some (.int l6), some (.int l7), none, some (.int s0), none, none, none]) rfl ?_
  refine Ok.iload dX7_holds_98 rfl ?_
  refine Ok.iconstV (v := (nI 2)) dX7_holds_100 (by decide +kernel) ?_
  refine Ok.idiv dX7_holds_101 (by decide +kernel) ?_
  refine Ok.iconstV (v := (nI 4)) dX7_holds_102 (by decide +kernel) ?_
  refine Ok.irem dX7_holds_103 (by decide +kernel) ?_
  refine X.istore dX7_holds_104 (by decide) e (L := fun v1 => [some (.ref l0), none, some (.int l2), some (.int l3), some (.int l4), some (.int l5), some (.int l6), some (.int l7), none, some (.int s0), some (.int v1), none, none]) (fun _ => rfl) (fun v1 e1 => ?_)
  clear e
  refine Ok.iload dX7_holds_106 rfl ?_
  refine Ok.bipushV (v := (nI 8)) dX7_holds_108 (by decide +kernel) ?_
  refine Ok.idiv dX7_holds_110 (by decide +kernel) ?_
  refine X.istore dX7_holds_111 (by decide) e1 (L := fun v2 => [some (.ref l0), none, some (.int l2), some (.int l3), some (.int l4), some (.int l5), some (.int l6), some (.int l7), none, some (.int s0), some (.int v1), some (.int v2), none]) (fun _ => rfl) (fun v2 e2 => ?_)
  clear e1
  refine Ok.iload dX7_holds_113 rfl ?_
  refine X.if_ne (tgt := 133) dX7_holds_115 (by decide) e2 (fun e3 => ?_) (fun e3 => ?_)
  · clear e2
    refine Ok.iload dX7_holds_133 rfl ?_
    refine Ok.iconstV (v := (nI 1)) dX7_holds_135 (by decide +kernel) ?_
    refine X.icmp_ne (tgt := 154) dX7_holds_136 (by decide) e3 (fun e4 => ?_) (fun e4 => ?_)
    · clear e3
      refine Ok.iload dX7_holds_154 rfl ?_
      refine Ok.iload dX7_holds_156 rfl ?_
      refine X.icmp_le (tgt := 165) dX7_holds_158 (by decide) e4 (fun e5 => ?_) (fun e5 => ?_)
      · clear e4
        refine Ok.iconstV (v := (nI 0)) dX7_holds_165 (by decide +kernel) ?_
        exact Ok.weakL (k_X7_holds_166 (d := d) K6 e5) ⟨rfl, ⟨rfl, ⟨rfl, ⟨rfl, ⟨rfl, ⟨rfl, trivial⟩⟩⟩⟩⟩⟩
      · clear e4
        refine Ok.iconstV (v := (nI 1)) dX7_holds_161 (by decide +kernel) ?_
        refine Ok.goto (tgt := 166) dX7_holds_162 (by decide) ?_
        exact Ok.weakL (k_X7_holds_166 (d := d) K6 e5) ⟨rfl, ⟨rfl, ⟨rfl, ⟨rfl, ⟨rfl, ⟨rfl, trivial⟩⟩⟩⟩⟩⟩
    · clear e3
      refine Ok.iload dX7_holds_139 rfl ?_
      refine Ok.iload dX7_holds_141 rfl ?_
      refine X.icmp_ne (tgt := 150) dX7_holds_143 (by decide) e4 (fun e5 => ?_) (fun e5 => ?_)
      · clear e4
        refine Ok.iconstV (v := (nI 0)) dX7_holds_150 (by decide +kernel) ?_
        refine Ok.goto (tgt := 166) dX7_holds_151 (by decide) ?_
        exact Ok.weakL (k_X7_holds_166 (d := d) K6 e5) ⟨rfl, ⟨rfl, ⟨rfl, ⟨rfl, ⟨rfl, ⟨rfl, trivial⟩⟩⟩⟩⟩⟩
      · clear e4
        refine Ok.iconstV (v := (nI 1)) dX7_holds_146 (by decide +kernel) ?_
        refine Ok.goto (tgt := 166) dX7_holds_147 (by decide) ?_
        exact Ok.weakL (k_X7_holds_166 (d := d) K6 e5) ⟨rfl, ⟨rfl, ⟨rfl, ⟨rfl, ⟨rfl, ⟨rfl, trivial⟩⟩⟩⟩⟩⟩
  · clear e2
    refine Ok.iload dX7_holds_118 rfl ?_
    refine Ok.iload dX7_holds_120 rfl ?_
    refine X.icmp_ge (tgt := 129) dX7_holds_122 (by decide) e3 (fun e4 => ?_) (fun e4 => ?_)
    · clear e3
      refine Ok.iconstV (v := (nI 0)) dX7_holds_129 (by decide +kernel) ?_
      refine Ok.goto (tgt := 166) dX7_holds_130 (by decide) ?_
      exact Ok.weakL (k_X7_holds_166 (d := d) K6 e4) ⟨rfl, ⟨rfl, ⟨rfl, ⟨rfl, ⟨rfl, ⟨rfl, trivial⟩⟩⟩⟩⟩⟩
    · clear e3
      refine Ok.iconstV (v := (nI 1)) dX7_holds_125 (by decide +kernel) ?_
      refine Ok.goto (tgt := 166) dX7_holds_126 (by decide) ?_
      exact Ok.weakL (k_X7_holds_166 (d := d) K6 e4) ⟨rfl, ⟨rfl, ⟨rfl, ⟨rfl, ⟨rfl, ⟨rfl, trivial⟩⟩⟩⟩⟩⟩
noncomputable def F_X7_holds_6 (G : Gx) : Nat → Hp → Nat → Nat → Int32 → Int32 → Int32 → Int32 → Int32 → Rz Int32 := fun n => Nat.rec (motive := fun _ => Hp → Nat → Nat → Int32 → Int32 → Int32 → Int32 → Int32 → Rz Int32) (fun _ _ _ _ _ _ _ _ => none) (fun _ k6 => fun h nx l0 l2 l3 l4 l5 l6 =>
if l2 ≤ l6 then
if ((l5 &&& (nI 1))) = (nI 1) then
(F_X7_holds_204 G h nx (nI 1))
else
(F_X7_holds_204 G h nx (nI 0))
else
gfR h l0 [7] 4 (fun v1 =>
nn v1 (fun p2 =>
alI (g_c G 0) h p2 l6 (fun v3 =>
nm ((l5 &&& (nI 1))) (fun v4 =>
if v3 = (-1 : Int32) then
nm ((l5 ^^^ (nI 1))) (fun v7 =>
(F_X7_holds_185 G k6 h nx l0 l2 l3 l4 v7 l6))
else
if v3 = (-2 : Int32) then
nm ((((l5 >>> ((nI 1) &&& 31))) &&& (((-2 : Int32) ||| v4)))) (fun v6 =>
(F_X7_holds_185 G k6 h nx l0 l2 l3 l4 v6 l6))
else
if v3 = (-3 : Int32) then
nm ((((l5 >>> ((nI 1) &&& 31))) ||| v4)) (fun v5 =>
(F_X7_holds_185 G k6 h nx l0 l2 l3 l4 v5 l6))
else
if ((v3 &&& (nI 1))) = 0 then
(F_X7_holds_96 G k6 h nx l3 l0 l2 l3 l4 l5 l6 v3)
else
(F_X7_holds_96 G k6 h nx l4 l0 l2 l3 l4 l5 l6 v3)))))) n
theorem F_X7_holds_6_0 {G : Gx} {h : Hp} {nx : Nat} {l0 : Nat} {l2 : Int32} {l3 : Int32} {l4 : Int32} {l5 : Int32} {l6 : Int32} : F_X7_holds_6 G 0 h nx l0 l2 l3 l4 l5 l6 = none := rfl
theorem F_X7_holds_6_s {G : Gx} {n : Nat} {h : Hp} {nx : Nat} {l0 : Nat} {l2 : Int32} {l3 : Int32} {l4 : Int32} {l5 : Int32} {l6 : Int32} : F_X7_holds_6 G (n + 1) h nx l0 l2 l3 l4 l5 l6 = (
if l2 ≤ l6 then
if ((l5 &&& (nI 1))) = (nI 1) then
(F_X7_holds_204 G h nx (nI 1))
else
(F_X7_holds_204 G h nx (nI 0))
else
gfR h l0 [7] 4 (fun v1 =>
nn v1 (fun p2 =>
alI (g_c G 0) h p2 l6 (fun v3 =>
nm ((l5 &&& (nI 1))) (fun v4 =>
if v3 = (-1 : Int32) then
nm ((l5 ^^^ (nI 1))) (fun v7 =>
(F_X7_holds_185 G (F_X7_holds_6 G n) h nx l0 l2 l3 l4 v7 l6))
else
if v3 = (-2 : Int32) then
nm ((((l5 >>> ((nI 1) &&& 31))) &&& (((-2 : Int32) ||| v4)))) (fun v6 =>
(F_X7_holds_185 G (F_X7_holds_6 G n) h nx l0 l2 l3 l4 v6 l6))
else
if v3 = (-3 : Int32) then
nm ((((l5 >>> ((nI 1) &&& 31))) ||| v4)) (fun v5 =>
(F_X7_holds_185 G (F_X7_holds_6 G n) h nx l0 l2 l3 l4 v5 l6))
else
if ((v3 &&& (nI 1))) = 0 then
(F_X7_holds_96 G (F_X7_holds_6 G n) h nx l3 l0 l2 l3 l4 l5 l6 v3)
else
(F_X7_holds_96 G (F_X7_holds_6 G n) h nx l4 l0 l2 l3 l4 l5 l6 v3)))))) := rfl
set_option maxRecDepth 100000 in
set_option maxHeartbeats 4000000 in
theorem k_X7_holds_6 {G : Gx} {d : Nat} {v' : Int32} {h' : Hp} {n' : Nat} : ∀ (n : Nat) {h : Hp} {nx : Nat} {l0 : Nat} {l2 : Int32} {l3 : Int32} {l4 : Int32} {l5 : Int32} {l6 : Int32}, F_X7_holds_6 G n h nx l0 l2 l3 l4 l5 l6 = some (v', h', n') → Ok G mX7_holds (d + 0) (Same (some (.int v')) h' n') 6 [some (.ref l0), none, some (.int l2), some (.int l3), some (.int l4), some (.int l5), some (.int l6), none, none, none, none, none, none] [] h nx 0 0 := by
  intro n
  induction n with
  | zero =>
    intro h nx l0 l2 l3 l4 l5 l6 e
    rw [F_X7_holds_6_0] at e
    cases e
  | succ n K6 =>
    intro h nx l0 l2 l3 l4 l5 l6 e
    rw [F_X7_holds_6_s] at e
    refine Ok.iload dX7_holds_6 rfl ?_
    refine Ok.iload_n dX7_holds_8 rfl ?_
    refine X.icmp_ge (tgt := 191) dX7_holds_9 (by decide) e (fun e1 => ?_) (fun e1 => ?_)
    · clear e
      refine Ok.iload dX7_holds_191 rfl ?_
      refine Ok.iconstV (v := (nI 1)) dX7_holds_193 (by decide +kernel) ?_
      refine Ok.iand dX7_holds_194 ?_
      refine Ok.iconstV (v := (nI 1)) dX7_holds_195 (by decide +kernel) ?_
      refine X.icmp_ne (tgt := 203) dX7_holds_196 (by decide) e1 (fun e2 => ?_) (fun e2 => ?_)
      · clear e1
        refine Ok.iconstV (v := (nI 0)) dX7_holds_203 (by decide +kernel) ?_
        exact Ok.weakL (k_X7_holds_204 (d := d) e2) trivial
      · clear e1
        refine Ok.iconstV (v := (nI 1)) dX7_holds_199 (by decide +kernel) ?_
        refine Ok.goto (tgt := 204) dX7_holds_200 (by decide) ?_
        exact Ok.weakL (k_X7_holds_204 (d := d) e2) trivial
    · clear e
      refine Ok.aload_n dX7_holds_12 rfl ?_
      refine X.rgfR fl_RX7_22 dX7_holds_13 e1 (fun v1 e2 => ?_)
      clear e1
      refine Ok.iload dX7_holds_16 rfl ?_
      refine X.rnn e2 (fun p2 q e3 => ?_)
      clear e2
      subst q
      refine X.iald dX7_holds_18 e3 (fun v3 e4 => ?_)
      clear e3
      refine XL.istore dX7_holds_19 (by decide) (L := [some (.ref l0), none, some (.int l2), some (.int l3), some (.int l4), some (.int l5), some (.int l6), some (.int v3), none, none, none, none, none]) rfl ?_
      refine Ok.iload dX7_holds_21 rfl ?_
      refine Ok.iconstV (v := (nI 1)) dX7_holds_23 (by decide +kernel) ?_
      refine Ok.iand dX7_holds_24 ?_
      refine X.istore dX7_holds_25 (by decide) e4 (L := fun v4 => [some (.ref l0), none, some (.int l2), some (.int l3), some (.int l4), some (.int l5), some (.int l6), some (.int v3), some (.int v4), none, none, none, none]) (fun _ => rfl) (fun v4 e5 => ?_)
      clear e4
      refine Ok.iload dX7_holds_27 rfl ?_
      refine Ok.iconstV (v := (-1 : Int32)) dX7_holds_29 (by decide +kernel) ?_
      refine X.icmp_ne (tgt := 42) dX7_holds_30 (by decide) e5 (fun e6 => ?_) (fun e6 => ?_)
      · clear e5
        refine Ok.iload dX7_holds_42 rfl ?_
        refine Ok.bipushV (v := (-2 : Int32)) dX7_holds_44 (by decide +kernel) ?_
        refine X.icmp_ne (tgt := 64) dX7_holds_46 (by decide) e6 (fun e7 => ?_) (fun e7 => ?_)
        · clear e6
          refine Ok.iload dX7_holds_64 rfl ?_
          refine Ok.bipushV (v := (-3 : Int32)) dX7_holds_66 (by decide +kernel) ?_
          refine X.icmp_ne (tgt := 83) dX7_holds_68 (by decide) e7 (fun e8 => ?_) (fun e8 => ?_)
          · clear e7
            refine Ok.iload dX7_holds_83 rfl ?_
            refine Ok.iconstV (v := (nI 1)) dX7_holds_85 (by decide +kernel) ?_
            refine Ok.iand dX7_holds_86 ?_
            refine X.if_ne (tgt := 94) dX7_holds_87 (by decide) e8 (fun e9 => ?_) (fun e9 => ?_)
            · clear e8
              refine Ok.iload dX7_holds_94 rfl ?_
              exact Ok.weakL (k_X7_holds_96 (d := d) K6 e9) ⟨rfl, ⟨rfl, ⟨rfl, ⟨rfl, ⟨rfl, ⟨rfl, ⟨rfl, trivial⟩⟩⟩⟩⟩⟩⟩
            · clear e8
              refine Ok.iload_n dX7_holds_90 rfl ?_
              refine Ok.goto (tgt := 96) dX7_holds_91 (by decide) ?_
              exact Ok.weakL (k_X7_holds_96 (d := d) K6 e9) ⟨rfl, ⟨rfl, ⟨rfl, ⟨rfl, ⟨rfl, ⟨rfl, ⟨rfl, trivial⟩⟩⟩⟩⟩⟩⟩
          · clear e7
            refine Ok.iload dX7_holds_71 rfl ?_
            refine Ok.iconstV (v := (nI 1)) dX7_holds_73 (by decide +kernel) ?_
            refine Ok.ishr dX7_holds_74 ?_
            refine Ok.iload dX7_holds_75 rfl ?_
            refine Ok.ior dX7_holds_77 ?_
            refine X.istore dX7_holds_78 (by decide) e8 (L := fun v5 => [some (.ref l0), none, some (.int l2), some (.int l3), some (.int l4), some (.int v5), some (.int l6), some (.int v3), some (.int v4), none, none, none, none]) (fun _ => rfl) (fun v5 e9 => ?_)
            clear e8
            refine Ok.goto (tgt := 185) dX7_holds_80 (by decide) ?_
            exact Ok.weakL (k_X7_holds_185 (d := d) K6 e9) ⟨rfl, ⟨rfl, ⟨rfl, ⟨rfl, ⟨rfl, ⟨rfl, trivial⟩⟩⟩⟩⟩⟩
        · clear e6
          refine Ok.iload dX7_holds_49 rfl ?_
          refine Ok.iconstV (v := (nI 1)) dX7_holds_51 (by decide +kernel) ?_
          refine Ok.ishr dX7_holds_52 ?_
          refine Ok.bipushV (v := (-2 : Int32)) dX7_holds_53 (by decide +kernel) ?_
          refine Ok.iload dX7_holds_55 rfl ?_
          refine Ok.ior dX7_holds_57 ?_
          refine Ok.iand dX7_holds_58 ?_
          refine X.istore dX7_holds_59 (by decide) e7 (L := fun v6 => [some (.ref l0), none, some (.int l2), some (.int l3), some (.int l4), some (.int v6), some (.int l6), some (.int v3), some (.int v4), none, none, none, none]) (fun _ => rfl) (fun v6 e8 => ?_)
          clear e7
          refine Ok.goto (tgt := 185) dX7_holds_61 (by decide) ?_
          exact Ok.weakL (k_X7_holds_185 (d := d) K6 e8) ⟨rfl, ⟨rfl, ⟨rfl, ⟨rfl, ⟨rfl, ⟨rfl, trivial⟩⟩⟩⟩⟩⟩
      · clear e5
        refine Ok.iload dX7_holds_33 rfl ?_
        refine Ok.iconstV (v := (nI 1)) dX7_holds_35 (by decide +kernel) ?_
        refine Ok.ixor dX7_holds_36 ?_
        refine X.istore dX7_holds_37 (by decide) e6 (L := fun v7 => [some (.ref l0), none, some (.int l2), some (.int l3), some (.int l4), some (.int v7), some (.int l6), some (.int v3), some (.int v4), none, none, none, none]) (fun _ => rfl) (fun v7 e7 => ?_)
        clear e6
        refine Ok.goto (tgt := 185) dX7_holds_39 (by decide) ?_
        exact Ok.weakL (k_X7_holds_185 (d := d) K6 e7) ⟨rfl, ⟨rfl, ⟨rfl, ⟨rfl, ⟨rfl, ⟨rfl, trivial⟩⟩⟩⟩⟩⟩
noncomputable def F_X7_holds (G : Gx) (h : Hp) (nx : Nat) (a0 : Nat) (a1 : Int32) (a2 : Int32) (a3 : Int32) (a4 : Int32) : Rz Int32 :=
(F_X7_holds_6 G fuelL h nx a0 a2 a3 a4 (nI 0) a1)
set_option maxRecDepth 100000 in
set_option maxHeartbeats 4000000 in
theorem k_X7_holds {G : Gx} {d : Nat} {h : Hp} {nx : Nat} {a0 : Nat} {a1 : Int32} {a2 : Int32} {a3 : Int32} {a4 : Int32} {v' : Int32} {h' : Hp} {n' : Nat} (e : F_X7_holds G h nx a0 a1 a2 a3 a4 = some (v', h', n')) : Ct G mX7_holds (d + 0) (Same (some (.int v')) h' n') [.ref a0, .int a1, .int a2, .int a3, .int a4] h nx := by
  unfold F_X7_holds at e
  refine Ct.of (ls := [some (.ref a0), some (.int a1), some (.int a2), some (.int a3), some (.int a4), none, none, none, none, none, none, none, none]) (by decide +kernel) rfl (Nat.le_of_ble_eq_true rfl) rfl ?_
  refine Ok.iconstV (v := (nI 0)) dX7_holds_0 (by decide +kernel) ?_
  refine XL.istore dX7_holds_1 (by decide) (L := [some (.ref a0), some (.int a1), some (.int a2), some (.int a3), some (.int a4), some (.int (nI 0)), none, none, none, none, none, none, none]) rfl ?_
  refine Ok.iload_n dX7_holds_3 rfl ?_
  refine XL.istore dX7_holds_4 (by decide) (L := [some (.ref a0), some (.int a1), some (.int a2), some (.int a3), some (.int a4), some (.int (nI 0)), some (.int a1), none, none, none, none, none, none]) rfl ?_
  exact Ok.weakL (k_X7_holds_6 (d := d) fuelL e) ⟨rfl, ⟨rfl, ⟨rfl, ⟨rfl, ⟨rfl, ⟨rfl, trivial⟩⟩⟩⟩⟩⟩
noncomputable def F_X7_chance_59 (G : Gx) (k9 : Hp → Nat → Nat → Int32 → Int32 → Int32 → Int32 → Int32 → Int32 → Rz Int32) (h : Hp) (nx : Nat) (l0 : Nat) (l1 : Int32) (l2 : Int32) (l3 : Int32) (l4 : Int32) (l6 : Int32) : Rz Int32 :=
gfR h l0 [7] 8 (fun v1 =>
nn v1 (fun p2 =>
alI (g_c G 0) h p2 l6 (fun v3 =>
nm (l6 + (nI 1)) (fun v4 =>
(k9 h nx l0 l1 l2 l3 l4 v3 v4)))))
set_option maxRecDepth 100000 in
set_option maxHeartbeats 4000000 in
theorem k_X7_chance_59 {G : Gx} {d : Nat} {v' : Int32} {h' : Hp} {n' : Nat} {k9 : Hp → Nat → Nat → Int32 → Int32 → Int32 → Int32 → Int32 → Int32 → Rz Int32} (K9 : ∀ {h : Hp} {nx : Nat} {l0 : Nat} {l1 : Int32} {l2 : Int32} {l3 : Int32} {l4 : Int32} {l5 : Int32} {l6 : Int32}, k9 h nx l0 l1 l2 l3 l4 l5 l6 = some (v', h', n') → Ok G mX7_chance (d + 1) (Same (some (.int v')) h' n') 9 [some (.ref l0), some (.int l1), some (.int l2), some (.int l3), some (.int l4), some (.int l5), some (.int l6)] [] h nx 0 0) {h : Hp} {nx : Nat} {l0 : Nat} {l1 : Int32} {l2 : Int32} {l3 : Int32} {l4 : Int32} {l6 : Int32} (e : F_X7_chance_59 G k9 h nx l0 l1 l2 l3 l4 l6 = some (v', h', n')) : Ok G mX7_chance (d + 1) (Same (some (.int v')) h' n') 59 [some (.ref l0), some (.int l1), some (.int l2), some (.int l3), some (.int l4), none, some (.int l6)] [] h nx 0 0 := by
  unfold F_X7_chance_59 at e
  refine Ok.aload_n dX7_chance_59 rfl ?_
  refine X.rgfR fl_RX7_34 dX7_chance_60 e (fun v1 e1 => ?_)
  clear e
  refine Ok.iload dX7_chance_63 rfl ?_
  refine X.rnn e1 (fun p2 q e2 => ?_)
  clear e1
  subst q
  refine X.iald dX7_chance_65 e2 (fun v3 e3 => ?_)
  clear e2
  refine XL.istore dX7_chance_66 (by decide) (L := [some (.ref l0), some (.int l1), some (.int l2), some (.int l3), some (.int l4), some (.int v3), some (.int l6)]) rfl ?_
  refine X.iinc dX7_chance_68 rfl (by decide) (by decide +kernel) e3 (L := fun v4 => [some (.ref l0), some (.int l1), some (.int l2), some (.int l3), some (.int l4), some (.int v3), some (.int v4)]) (fun _ => rfl) (fun v4 e4 => ?_)
  clear e3
  refine Ok.goto (tgt := 9) dX7_chance_71 (by decide) ?_
  exact Ok.weakL (K9 e4) ⟨rfl, ⟨rfl, ⟨rfl, ⟨rfl, ⟨rfl, ⟨rfl, ⟨rfl, trivial⟩⟩⟩⟩⟩⟩⟩
noncomputable def F_X7_chance_9 (G : Gx) : Nat → Hp → Nat → Nat → Int32 → Int32 → Int32 → Int32 → Int32 → Int32 → Rz Int32 := fun n => Nat.rec (motive := fun _ => Hp → Nat → Nat → Int32 → Int32 → Int32 → Int32 → Int32 → Int32 → Rz Int32) (fun _ _ _ _ _ _ _ _ _ => none) (fun _ k9 => fun h nx l0 l1 l2 l3 l4 l5 l6 =>
gfI h l0 [7] 9 (fun v1 =>
if v1 ≤ l6 then
some ((mnI l4 (nI 1000)), h, nx)
else
gfR h l0 [7] 6 (fun v2 =>
nn v2 (fun p3 =>
alI (g_c G 0) h p3 l6 (fun v4 =>
if v4 = l1 then
gfR h l0 [7] 8 (fun v5 =>
nn v5 (fun p6 =>
alI (g_c G 0) h p6 l6 (fun v7 =>
ck h l0 [7] (fun _ =>
cl (F_X7_holds G h nx l0 l5 v7 l2 l3) (fun r8 h9 n10 =>
if r8 = 0 then
(F_X7_chance_59 G k9 h9 n10 l0 l1 l2 l3 l4 l6)
else
gfR h9 l0 [7] 7 (fun v11 =>
nn v11 (fun p12 =>
alI (g_c G 0) h9 p12 l6 (fun v13 =>
nm ((l4 + v13)) (fun v14 =>
(F_X7_chance_59 G k9 h9 n10 l0 l1 l2 l3 v14 l6))))))))))
else
(F_X7_chance_59 G k9 h nx l0 l1 l2 l3 l4 l6)))))) n
theorem F_X7_chance_9_0 {G : Gx} {h : Hp} {nx : Nat} {l0 : Nat} {l1 : Int32} {l2 : Int32} {l3 : Int32} {l4 : Int32} {l5 : Int32} {l6 : Int32} : F_X7_chance_9 G 0 h nx l0 l1 l2 l3 l4 l5 l6 = none := rfl
theorem F_X7_chance_9_s {G : Gx} {n : Nat} {h : Hp} {nx : Nat} {l0 : Nat} {l1 : Int32} {l2 : Int32} {l3 : Int32} {l4 : Int32} {l5 : Int32} {l6 : Int32} : F_X7_chance_9 G (n + 1) h nx l0 l1 l2 l3 l4 l5 l6 = (
gfI h l0 [7] 9 (fun v1 =>
if v1 ≤ l6 then
some ((mnI l4 (nI 1000)), h, nx)
else
gfR h l0 [7] 6 (fun v2 =>
nn v2 (fun p3 =>
alI (g_c G 0) h p3 l6 (fun v4 =>
if v4 = l1 then
gfR h l0 [7] 8 (fun v5 =>
nn v5 (fun p6 =>
alI (g_c G 0) h p6 l6 (fun v7 =>
ck h l0 [7] (fun _ =>
cl (F_X7_holds G h nx l0 l5 v7 l2 l3) (fun r8 h9 n10 =>
if r8 = 0 then
(F_X7_chance_59 G (F_X7_chance_9 G n) h9 n10 l0 l1 l2 l3 l4 l6)
else
gfR h9 l0 [7] 7 (fun v11 =>
nn v11 (fun p12 =>
alI (g_c G 0) h9 p12 l6 (fun v13 =>
nm ((l4 + v13)) (fun v14 =>
(F_X7_chance_59 G (F_X7_chance_9 G n) h9 n10 l0 l1 l2 l3 v14 l6))))))))))
else
(F_X7_chance_59 G (F_X7_chance_9 G n) h nx l0 l1 l2 l3 l4 l6)))))) := rfl
set_option maxRecDepth 100000 in
set_option maxHeartbeats 4000000 in
theorem k_X7_chance_9 {G : Gx} {d : Nat} {v' : Int32} {h' : Hp} {n' : Nat} : ∀ (n : Nat) {h : Hp} {nx : Nat} {l0 : Nat} {l1 : Int32} {l2 : Int32} {l3 : Int32} {l4 : Int32} {l5 : Int32} {l6 : Int32}, F_X7_chance_9 G n h nx l0 l1 l2 l3 l4 l5 l6 = some (v', h', n') → Ok G mX7_chance (d + 1) (Same (some (.int v')) h' n') 9 [some (.ref l0), some (.int l1), some (.int l2), some (.int l3), some (.int l4), some (.int l5), some (.int l6)] [] h nx 0 0 := by
  intro n
  induction n with
  | zero =>
    intro h nx l0 l1 l2 l3 l4 l5 l6 e
    rw [F_X7_chance_9_0] at e
    cases e
  | succ n K9 =>
    intro h nx l0 l1 l2 l3 l4 l5 l6 e
    rw [F_X7_chance_9_s] at e
    refine Ok.iload dX7_chance_9 rfl ?_
    refine Ok.aload_n dX7_chance_11 rfl ?_
    refine X.rgfI fl_RX7_37 dX7_chance_12 e (fun v1 e1 => ?_)
    clear e
    refine X.icmp_ge (tgt := 74) dX7_chance_15 (by decide) e1 (fun e2 => ?_) (fun e2 => ?_)
    · clear e1
      refine Ok.iload dX7_chance_74 rfl ?_
      refine Ok.sipushV (v := (nI 1000)) dX7_chance_76 (by decide +kernel) ?_
      refine Ok.mminI dX7_chance_79 wd504 wd343 wd83 wd344 (Nat.le_of_ble_eq_true rfl) (Nat.le_of_ble_eq_true rfl) (Nat.le_of_ble_eq_true rfl) ?_
      exact X.iret dX7_chance_82 rfl (Nat.le_of_ble_eq_true rfl) (Nat.le_of_ble_eq_true rfl) e2
    · clear e1
      refine Ok.aload_n dX7_chance_18 rfl ?_
      refine X.rgfR fl_RX7_28 dX7_chance_19 e2 (fun v2 e3 => ?_)
      clear e2
      refine Ok.iload dX7_chance_22 rfl ?_
      refine X.rnn e3 (fun p3 q e4 => ?_)
      clear e3
      subst q
      refine X.iald dX7_chance_24 e4 (fun v4 e5 => ?_)
      clear e4
      refine Ok.iload_n dX7_chance_25 rfl ?_
      refine X.icmp_ne (tgt := 59) dX7_chance_26 (by decide) e5 (fun e6 => ?_) (fun e6 => ?_)
      · clear e5
        exact Ok.weakL (k_X7_chance_59 (d := d) K9 e6) ⟨rfl, ⟨rfl, ⟨rfl, ⟨rfl, ⟨rfl, ⟨rfl, trivial⟩⟩⟩⟩⟩⟩
      · clear e5
        refine Ok.aload_n dX7_chance_29 rfl ?_
        refine Ok.iload dX7_chance_30 rfl ?_
        refine Ok.aload_n dX7_chance_32 rfl ?_
        refine X.rgfR fl_RX7_34 dX7_chance_33 e6 (fun v5 e7 => ?_)
        clear e6
        refine Ok.iload dX7_chance_36 rfl ?_
        refine X.rnn e7 (fun p6 q e8 => ?_)
        clear e7
        subst q
        refine X.iald dX7_chance_38 e8 (fun v7 e9 => ?_)
        clear e8
        refine Ok.iload_n dX7_chance_39 rfl ?_
        refine Ok.iload_n dX7_chance_40 rfl ?_
        refine X.rck e9 (fun c fs hb hc e10 => ?_)
        clear e9
        obtain rfl := List.mem_singleton.mp hc
        refine X.callV (My := mX7_holds) (n := 4) (As := [.int l5, .int v7, .int l2, .int l3]) (T := (fun v => (some (.int v)))) (stk' := (fun v => [.int v])) (rest := []) (kc' := 0) (ks' := 0) dX7_chance_41 e10 (fun v h n e => k_X7_holds (d := d + 0) e) hb rfl wd503 wd81 wd502 wd11 wd500 (by decide +kernel) rfl (by decide) rfl rfl (Nat.le_of_ble_eq_true rfl) (Nat.le_of_ble_eq_true rfl) (Nat.le_of_ble_eq_true rfl) rfl rfl (fun _ => rfl) (fun r8 h9 n10 e11 => ?_)
        clear e10
        refine X.if_eq (tgt := 59) dX7_chance_44 (by decide) e11 (fun e12 => ?_) (fun e12 => ?_)
        · clear e11
          exact Ok.weakL (k_X7_chance_59 (d := d) K9 e12) ⟨rfl, ⟨rfl, ⟨rfl, ⟨rfl, ⟨rfl, ⟨rfl, trivial⟩⟩⟩⟩⟩⟩
        · clear e11
          refine Ok.iload dX7_chance_47 rfl ?_
          refine Ok.aload_n dX7_chance_49 rfl ?_
          refine X.rgfR fl_RX7_31 dX7_chance_50 e12 (fun v11 e13 => ?_)
          clear e12
          refine Ok.iload dX7_chance_53 rfl ?_
          refine X.rnn e13 (fun p12 q e14 => ?_)
          clear e13
          subst q
          refine X.iald dX7_chance_55 e14 (fun v13 e15 => ?_)
          clear e14
          refine Ok.iadd dX7_chance_56 ?_
          refine X.istore dX7_chance_57 (by decide) e15 (L := fun v14 => [some (.ref l0), some (.int l1), some (.int l2), some (.int l3), some (.int v14), some (.int l5), some (.int l6)]) (fun _ => rfl) (fun v14 e16 => ?_)
          clear e15
          exact Ok.weakL (k_X7_chance_59 (d := d) K9 e16) ⟨rfl, ⟨rfl, ⟨rfl, ⟨rfl, ⟨rfl, ⟨rfl, trivial⟩⟩⟩⟩⟩⟩
noncomputable def F_X7_chance (G : Gx) (h : Hp) (nx : Nat) (a0 : Nat) (a1 : Int32) (a2 : Int32) (a3 : Int32) : Rz Int32 :=
(F_X7_chance_9 G fuelL h nx a0 a1 a2 a3 (nI 0) (nI 0) (nI 0))
set_option maxRecDepth 100000 in
set_option maxHeartbeats 4000000 in
theorem k_X7_chance {G : Gx} {d : Nat} {h : Hp} {nx : Nat} {a0 : Nat} {a1 : Int32} {a2 : Int32} {a3 : Int32} {v' : Int32} {h' : Hp} {n' : Nat} (e : F_X7_chance G h nx a0 a1 a2 a3 = some (v', h', n')) : Ct G mX7_chance (d + 1) (Same (some (.int v')) h' n') [.ref a0, .int a1, .int a2, .int a3] h nx := by
  unfold F_X7_chance at e
  refine Ct.of (ls := [some (.ref a0), some (.int a1), some (.int a2), some (.int a3), none, none, none]) (by decide +kernel) rfl (Nat.le_of_ble_eq_true rfl) rfl ?_
  refine Ok.iconstV (v := (nI 0)) dX7_chance_0 (by decide +kernel) ?_
  refine XL.istore dX7_chance_1 (by decide) (L := [some (.ref a0), some (.int a1), some (.int a2), some (.int a3), some (.int (nI 0)), none, none]) rfl ?_
  refine Ok.iconstV (v := (nI 0)) dX7_chance_3 (by decide +kernel) ?_
  refine XL.istore dX7_chance_4 (by decide) (L := [some (.ref a0), some (.int a1), some (.int a2), some (.int a3), some (.int (nI 0)), some (.int (nI 0)), none]) rfl ?_
  refine Ok.iconstV (v := (nI 0)) dX7_chance_6 (by decide +kernel) ?_
  refine XL.istore dX7_chance_7 (by decide) (L := [some (.ref a0), some (.int a1), some (.int a2), some (.int a3), some (.int (nI 0)), some (.int (nI 0)), some (.int (nI 0))]) rfl ?_
  exact Ok.weakL (k_X7_chance_9 (d := d) fuelL e) ⟨rfl, ⟨rfl, ⟨rfl, ⟨rfl, ⟨rfl, ⟨rfl, ⟨rfl, trivial⟩⟩⟩⟩⟩⟩⟩
noncomputable def F_X7_knownOver (G : Gx) (h : Hp) (nx : Nat) (a0 : Nat) (a1 : Int32) (a2 : Int32) (a3 : Int32) (a4 : Int32) : Rz Int32 :=
ck h a0 [7] (fun _ =>
cl (F_X7_chance G h nx a0 (nI 0) a2 a3) (fun r1 h2 n3 =>
nm (mxI (nI 0) (mnI (nI 1000) ((r1 + a4)))) (fun v4 =>
ck h2 a0 [7] (fun _ =>
cl (F_X7_chance G h2 n3 a0 (nI 1) a2 a3) (fun r5 h6 n7 =>
some (((((((a1 * (((nI 1000) - v4)))) / (nI 1000))) + (((((((nI 1000000) - a1)) * r5)) / (nI 1000))))), h6, n7))))))
set_option maxRecDepth 100000 in
set_option maxHeartbeats 4000000 in
theorem k_X7_knownOver {G : Gx} {d : Nat} {h : Hp} {nx : Nat} {a0 : Nat} {a1 : Int32} {a2 : Int32} {a3 : Int32} {a4 : Int32} {v' : Int32} {h' : Hp} {n' : Nat} (e : F_X7_knownOver G h nx a0 a1 a2 a3 a4 = some (v', h', n')) : Ct G mX7_knownOver (d + 2) (Same (some (.int v')) h' n') [.ref a0, .int a1, .int a2, .int a3, .int a4] h nx := by
  unfold F_X7_knownOver at e
  refine Ct.of (ls := [some (.ref a0), some (.int a1), some (.int a2), some (.int a3), some (.int a4), none]) (by decide +kernel) rfl (Nat.le_of_ble_eq_true rfl) rfl ?_
  refine Ok.iconstV (v := (nI 0)) dX7_knownOver_0 (by decide +kernel) ?_
  refine Ok.sipushV (v := (nI 1000)) dX7_knownOver_1 (by decide +kernel) ?_
  refine Ok.aload_n dX7_knownOver_4 rfl ?_
  refine Ok.iconstV (v := (nI 0)) dX7_knownOver_5 (by decide +kernel) ?_
  refine Ok.iload_n dX7_knownOver_6 rfl ?_
  refine Ok.iload_n dX7_knownOver_7 rfl ?_
  refine X.rck e (fun c fs hb hc e1 => ?_)
  clear e
  obtain rfl := List.mem_singleton.mp hc
  refine X.callV (My := mX7_chance) (n := 3) (As := [.int (nI 0), .int a2, .int a3]) (T := (fun v => (some (.int v)))) (stk' := (fun v => [.int v, .int (nI 1000), .int (nI 0)])) (rest := [.int (nI 1000), .int (nI 0)]) (kc' := 0) (ks' := 0) dX7_knownOver_8 e1 (fun v h n e => k_X7_chance (d := d + 0) e) hb rfl wd499 wd81 wd497 wd498 wd538 (by decide +kernel) rfl (by decide) rfl rfl (Nat.le_of_ble_eq_true rfl) (Nat.le_of_ble_eq_true rfl) (Nat.le_of_ble_eq_true rfl) rfl rfl (fun _ => rfl) (fun r1 h2 n3 e2 => ?_)
  clear e1
  refine Ok.iload dX7_knownOver_11 rfl ?_
  refine Ok.iadd dX7_knownOver_13 ?_
  refine Ok.mminI dX7_knownOver_14 wd504 wd343 wd83 wd344 (Nat.le_of_ble_eq_true rfl) (Nat.le_of_ble_eq_true rfl) (Nat.le_of_ble_eq_true rfl) ?_
  refine Ok.mmaxI dX7_knownOver_17 wd454 wd455 wd83 wd456 (Nat.le_of_ble_eq_true rfl) (Nat.le_of_ble_eq_true rfl) (Nat.le_of_ble_eq_true rfl) ?_
  refine X.istore dX7_knownOver_20 (by decide) e2 (L := fun v4 => [some (.ref a0), some (.int a1), some (.int a2), some (.int a3), some (.int a4), some (.int v4)]) (fun _ => rfl) (fun v4 e3 => ?_)
  clear e2
  refine Ok.iload_n dX7_knownOver_22 rfl ?_
  refine Ok.sipushV (v := (nI 1000)) dX7_knownOver_23 (by decide +kernel) ?_
  refine Ok.iload dX7_knownOver_26 rfl ?_
  refine Ok.isub dX7_knownOver_28 ?_
  refine Ok.imul dX7_knownOver_29 ?_
  refine Ok.sipushV (v := (nI 1000)) dX7_knownOver_30 (by decide +kernel) ?_
  refine Ok.idiv dX7_knownOver_33 (by decide +kernel) ?_
  refine Ok.ldc (v := (nI 1000000)) dX7_knownOver_34 wd539 ?_
  refine Ok.iload_n dX7_knownOver_36 rfl ?_
  refine Ok.isub dX7_knownOver_37 ?_
  refine Ok.aload_n dX7_knownOver_38 rfl ?_
  refine Ok.iconstV (v := (nI 1)) dX7_knownOver_39 (by decide +kernel) ?_
  refine Ok.iload_n dX7_knownOver_40 rfl ?_
  refine Ok.iload_n dX7_knownOver_41 rfl ?_
  refine X.rck e3 (fun c fs hb hc e4 => ?_)
  clear e3
  obtain rfl := List.mem_singleton.mp hc
  refine X.callV (My := mX7_chance) (n := 3) (As := [.int (nI 1), .int a2, .int a3]) (T := (fun v => (some (.int v)))) (stk' := (fun v => [.int v, .int (((nI 1000000) - a1)), .int ((((a1 * (((nI 1000) - v4)))) / (nI 1000)))])) (rest := [.int (((nI 1000000) - a1)), .int ((((a1 * (((nI 1000) - v4)))) / (nI 1000)))]) (kc' := 0) (ks' := 0) dX7_knownOver_42 e4 (fun v h n e => k_X7_chance (d := d + 0) e) hb rfl wd499 wd81 wd497 wd498 wd538 (by decide +kernel) rfl (by decide) rfl rfl (Nat.le_of_ble_eq_true rfl) (Nat.le_of_ble_eq_true rfl) (Nat.le_of_ble_eq_true rfl) rfl rfl (fun _ => rfl) (fun r5 h6 n7 e5 => ?_)
  clear e4
  refine Ok.imul dX7_knownOver_45 ?_
  refine Ok.sipushV (v := (nI 1000)) dX7_knownOver_46 (by decide +kernel) ?_
  refine Ok.idiv dX7_knownOver_49 (by decide +kernel) ?_
  refine Ok.iadd dX7_knownOver_50 ?_
  exact X.iret dX7_knownOver_51 rfl (Nat.le_of_ble_eq_true rfl) (Nat.le_of_ble_eq_true rfl) e5
noncomputable def F_X0_goOver_2 (G : Gx) : Nat → Hp → Nat → Nat → Int32 → Rz Unit := fun n => Nat.rec (motive := fun _ => Hp → Nat → Nat → Int32 → Rz Unit) (fun _ _ _ _ => none) (fun _ k2 => fun h nx l0 l1 =>
gfI h l0 [0] 11 (fun v1 =>
if v1 ≤ l1 then
gfI h l0 [0] 16 (fun v2 =>
pfV h l0 [0] 16 (.int ((v2 + (nI 1)))) (fun h3 =>
some ((), h3, nx)))
else
gfR h l0 [0] 6 (fun v4 =>
ck h l0 [0] (fun _ =>
cl (F_X0_sortAt G h nx l0 l1) (fun r5 h6 n7 =>
gfR h6 l0 [0] 6 (fun v8 =>
nn v8 (fun p9 =>
alI (g_c G 0) h6 p9 l1 (fun v10 =>
gfR h6 l0 [0] 7 (fun v11 =>
nn v11 (fun p12 =>
alI (g_c G 0) h6 p12 l1 (fun v13 =>
gfR h6 l0 [0] 5 (fun v14 =>
nn v14 (fun p15 =>
alI (g_c G 0) h6 p15 l1 (fun v16 =>
nn r5 (fun p17 =>
ck h6 p17 [7] (fun _ =>
cl (F_X7_knownOver G h6 n7 p17 v10 v13 v16 (nI 0)) (fun r18 h19 n20 =>
nn v4 (fun p21 =>
asI (g_c G 0) id h19 p21 l1 r18 (fun h22 =>
gfR h22 l0 [0] 7 (fun v23 =>
gfR h22 l0 [0] 7 (fun v24 =>
nn v24 (fun p25 =>
alI (g_c G 0) h22 p25 l1 (fun v26 =>
nn v23 (fun p27 =>
asI (g_c G 0) id h22 p27 l1 (mnI (nI 999) ((v26 + (nI 1)))) (fun h28 =>
nm (l1 + (nI 1)) (fun v29 =>
(k2 h28 n20 l0 v29))))))))))))))))))))))))))) n
theorem F_X0_goOver_2_0 {G : Gx} {h : Hp} {nx : Nat} {l0 : Nat} {l1 : Int32} : F_X0_goOver_2 G 0 h nx l0 l1 = none := rfl
theorem F_X0_goOver_2_s {G : Gx} {n : Nat} {h : Hp} {nx : Nat} {l0 : Nat} {l1 : Int32} : F_X0_goOver_2 G (n + 1) h nx l0 l1 = (
gfI h l0 [0] 11 (fun v1 =>
if v1 ≤ l1 then
gfI h l0 [0] 16 (fun v2 =>
pfV h l0 [0] 16 (.int ((v2 + (nI 1)))) (fun h3 =>
some ((), h3, nx)))
else
gfR h l0 [0] 6 (fun v4 =>
ck h l0 [0] (fun _ =>
cl (F_X0_sortAt G h nx l0 l1) (fun r5 h6 n7 =>
gfR h6 l0 [0] 6 (fun v8 =>
nn v8 (fun p9 =>
alI (g_c G 0) h6 p9 l1 (fun v10 =>
gfR h6 l0 [0] 7 (fun v11 =>
nn v11 (fun p12 =>
alI (g_c G 0) h6 p12 l1 (fun v13 =>
gfR h6 l0 [0] 5 (fun v14 =>
nn v14 (fun p15 =>
alI (g_c G 0) h6 p15 l1 (fun v16 =>
nn r5 (fun p17 =>
ck h6 p17 [7] (fun _ =>
cl (F_X7_knownOver G h6 n7 p17 v10 v13 v16 (nI 0)) (fun r18 h19 n20 =>
nn v4 (fun p21 =>
asI (g_c G 0) id h19 p21 l1 r18 (fun h22 =>
gfR h22 l0 [0] 7 (fun v23 =>
gfR h22 l0 [0] 7 (fun v24 =>
nn v24 (fun p25 =>
alI (g_c G 0) h22 p25 l1 (fun v26 =>
nn v23 (fun p27 =>
asI (g_c G 0) id h22 p27 l1 (mnI (nI 999) ((v26 + (nI 1)))) (fun h28 =>
nm (l1 + (nI 1)) (fun v29 =>
((F_X0_goOver_2 G n) h28 n20 l0 v29))))))))))))))))))))))))))) := rfl
set_option maxRecDepth 100000 in
set_option maxHeartbeats 4000000 in
theorem k_X0_goOver_2 {G : Gx} {d : Nat} {v' : Unit} {h' : Hp} {n' : Nat} : ∀ (n : Nat) {h : Hp} {nx : Nat} {l0 : Nat} {l1 : Int32}, F_X0_goOver_2 G n h nx l0 l1 = some (v', h', n') → Ok G mX0_goOver (d + 3) (Same none h' n') 2 [some (.ref l0), some (.int l1)] [] h nx 0 0 := by
  intro n
  induction n with
  | zero =>
    intro h nx l0 l1 e
    rw [F_X0_goOver_2_0] at e
    cases e
  | succ n K2 =>
    intro h nx l0 l1 e
    rw [F_X0_goOver_2_s] at e
    refine Ok.iload_n dX0_goOver_2 rfl ?_
    refine Ok.aload_n dX0_goOver_3 rfl ?_
    refine X.rgfI fl_RX0_51 dX0_goOver_4 e (fun v1 e1 => ?_)
    clear e
    refine X.icmp_ge (tgt := 69) dX0_goOver_7 (by decide) e1 (fun e2 => ?_) (fun e2 => ?_)
    · clear e1
      refine Ok.aload_n dX0_goOver_69 rfl ?_
      refine Ok.dup dX0_goOver_70 rfl ?_
      refine X.rgfI fl_RX0_71 dX0_goOver_71 e2 (fun v2 e3 => ?_)
      clear e2
      refine Ok.iconstV (v := (nI 1)) dX0_goOver_74 (by decide +kernel) ?_
      refine Ok.iadd dX0_goOver_75 ?_
      refine X.rpfV (v := (.int ((v2 + (nI 1))))) fp_RX0_71 rfl rfl dX0_goOver_76 e3 (fun h3 e4 => ?_)
      clear e3
      exact X.vret dX0_goOver_79 rfl (Nat.le_of_ble_eq_true rfl) (Nat.le_of_ble_eq_true rfl) e4
    · clear e1
      refine Ok.aload_n dX0_goOver_10 rfl ?_
      refine X.rgfR fl_RX0_35 dX0_goOver_11 e2 (fun v4 e3 => ?_)
      clear e2
      refine Ok.iload_n dX0_goOver_14 rfl ?_
      refine Ok.aload_n dX0_goOver_15 rfl ?_
      refine Ok.iload_n dX0_goOver_16 rfl ?_
      refine X.rck e3 (fun c fs hb hc e4 => ?_)
      clear e3
      obtain rfl := List.mem_singleton.mp hc
      refine X.callV (My := mX0_sortAt) (n := 1) (As := [.int l1]) (T := (fun v => (some (va_rf v)))) (stk' := (fun v => [va_rf v, .int l1, va_rf v4])) (rest := [.int l1, va_rf v4]) (kc' := 0) (ks' := 0) dX0_goOver_17 e4 (fun v h n e => k_X0_sortAt (d := d + 2) e) hb rfl wd533 wd77 wd531 wd532 wd530 (by decide +kernel) rfl (by decide) rfl rfl (cs_le (cs_c (a := 1) rfl (cs_c (a := 1) (va_rf_cat _) cs_n)) (by decide)) (Nat.le_of_ble_eq_true rfl) (Nat.le_of_ble_eq_true rfl) rfl rfl (fun _ => rfl) (fun r5 h6 n7 e5 => ?_)
      clear e4
      refine Ok.aload_n dX0_goOver_20 rfl ?_
      refine X.rgfR fl_RX0_35 dX0_goOver_21 e5 (fun v8 e6 => ?_)
      clear e5
      refine Ok.iload_n dX0_goOver_24 rfl ?_
      refine X.rnn e6 (fun p9 q e7 => ?_)
      clear e6
      subst q
      refine X.iald dX0_goOver_25 e7 (fun v10 e8 => ?_)
      clear e7
      refine Ok.aload_n dX0_goOver_26 rfl ?_
      refine X.rgfR fl_RX0_38 dX0_goOver_27 e8 (fun v11 e9 => ?_)
      clear e8
      refine Ok.iload_n dX0_goOver_30 rfl ?_
      refine X.rnn e9 (fun p12 q e10 => ?_)
      clear e9
      subst q
      refine X.iald dX0_goOver_31 e10 (fun v13 e11 => ?_)
      clear e10
      refine Ok.aload_n dX0_goOver_32 rfl ?_
      refine X.rgfR fl_RX0_32 dX0_goOver_33 e11 (fun v14 e12 => ?_)
      clear e11
      refine Ok.iload_n dX0_goOver_36 rfl ?_
      refine X.rnn e12 (fun p15 q e13 => ?_)
      clear e12
      subst q
      refine X.iald dX0_goOver_37 e13 (fun v16 e14 => ?_)
      clear e13
      refine Ok.iconstV (v := (nI 0)) dX0_goOver_38 (by decide +kernel) ?_
      refine X.rnn e14 (fun p17 q e15 => ?_)
      clear e14
      subst q
      refine X.rck e15 (fun c fs hb hc e16 => ?_)
      clear e15
      obtain rfl := List.mem_singleton.mp hc
      refine X.callV (My := mX7_knownOver) (n := 4) (As := [.int v10, .int v13, .int v16, .int (nI 0)]) (T := (fun v => (some (.int v)))) (stk' := (fun v => [.int v, .int l1, va_rf v4])) (rest := [.int l1, va_rf v4]) (kc' := 0) (ks' := 0) dX0_goOver_39 e16 (fun v h n e => k_X7_knownOver (d := d + 0) e) hb rfl wd537 wd81 wd535 wd536 wd534 (by decide +kernel) rfl (by decide) rfl rfl (cs_le (cs_c (a := 1) rfl (cs_c (a := 1) (va_rf_cat _) cs_n)) (by decide)) (Nat.le_of_ble_eq_true rfl) (Nat.le_of_ble_eq_true rfl) rfl rfl (fun _ => rfl) (fun r18 h19 n20 e17 => ?_)
      clear e16
      refine X.rnn e17 (fun p21 q e18 => ?_)
      clear e17
      subst q
      refine X.iast dX0_goOver_42 e18 (fun h22 e19 => ?_)
      clear e18
      refine Ok.aload_n dX0_goOver_43 rfl ?_
      refine X.rgfR fl_RX0_38 dX0_goOver_44 e19 (fun v23 e20 => ?_)
      clear e19
      refine Ok.iload_n dX0_goOver_47 rfl ?_
      refine Ok.sipushV (v := (nI 999)) dX0_goOver_48 (by decide +kernel) ?_
      refine Ok.aload_n dX0_goOver_51 rfl ?_
      refine X.rgfR fl_RX0_38 dX0_goOver_52 e20 (fun v24 e21 => ?_)
      clear e20
      refine Ok.iload_n dX0_goOver_55 rfl ?_
      refine X.rnn e21 (fun p25 q e22 => ?_)
      clear e21
      subst q
      refine X.iald dX0_goOver_56 e22 (fun v26 e23 => ?_)
      clear e22
      refine Ok.iconstV (v := (nI 1)) dX0_goOver_57 (by decide +kernel) ?_
      refine Ok.iadd dX0_goOver_58 ?_
      refine Ok.mminI dX0_goOver_59 wd540 wd343 wd83 wd344 (Nat.le_of_ble_eq_true rfl) (Nat.le_of_ble_eq_true rfl) (cs_le (cs_c (a := 1) rfl (cs_c (a := 1) (va_rf_cat _) cs_n)) (by decide)) ?_
      refine X.rnn e23 (fun p27 q e24 => ?_)
      clear e23
      subst q
      refine X.iast dX0_goOver_62 e24 (fun h28 e25 => ?_)
      clear e24
      refine X.iinc dX0_goOver_63 rfl (by decide) (by decide +kernel) e25 (L := fun v29 => [some (.ref l0), some (.int v29)]) (fun _ => rfl) (fun v29 e26 => ?_)
      clear e25
      refine Ok.goto (tgt := 2) dX0_goOver_66 (by decide) ?_
      exact Ok.weakL (K2 e26) ⟨rfl, ⟨rfl, trivial⟩⟩
noncomputable def F_X0_goOver (G : Gx) (h : Hp) (nx : Nat) (a0 : Nat) : Rz Unit :=
(F_X0_goOver_2 G fuelL h nx a0 (nI 0))
set_option maxRecDepth 100000 in
set_option maxHeartbeats 4000000 in
theorem k_X0_goOver {G : Gx} {d : Nat} {h : Hp} {nx : Nat} {a0 : Nat} {v' : Unit} {h' : Hp} {n' : Nat} (e : F_X0_goOver G h nx a0 = some (v', h', n')) : Ct G mX0_goOver (d + 3) (Same none h' n') [.ref a0] h nx := by
  unfold F_X0_goOver at e
  refine Ct.of (ls := [some (.ref a0), none]) (by decide +kernel) rfl (Nat.le_of_ble_eq_true rfl) rfl ?_
  refine Ok.iconstV (v := (nI 0)) dX0_goOver_0 (by decide +kernel) ?_
  refine XL.istore_n dX0_goOver_1 (by decide) (L := [some (.ref a0), some (.int (nI 0))]) rfl ?_
  exact Ok.weakL (k_X0_goOver_2 (d := d) fuelL e) ⟨rfl, ⟨rfl, trivial⟩⟩
noncomputable def F_X7_mendCost (G : Gx) (h : Hp) (nx : Nat) (a0 : Nat) : Rz Int64 :=
gfR h a0 [7] 0 (fun v1 =>
nn v1 (fun p2 =>
alI (g_c G 0) h p2 (nI 5) (fun v3 =>
some ((((v3.toInt64) * (1000 : Int64))), h, nx))))
set_option maxRecDepth 100000 in
set_option maxHeartbeats 4000000 in
theorem k_X7_mendCost {G : Gx} {d : Nat} {h : Hp} {nx : Nat} {a0 : Nat} {v' : Int64} {h' : Hp} {n' : Nat} (e : F_X7_mendCost G h nx a0 = some (v', h', n')) : Ct G mX7_mendCost (d + 0) (Same (some (.long v')) h' n') [.ref a0] h nx := by
  unfold F_X7_mendCost at e
  refine Ct.of (ls := [some (.ref a0)]) (by decide +kernel) rfl (Nat.le_of_ble_eq_true rfl) rfl ?_
  refine Ok.aload_n dX7_mendCost_0 rfl ?_
  refine X.rgfR fl_RX7_9 dX7_mendCost_1 e (fun v1 e1 => ?_)
  clear e
  refine Ok.iconstV (v := (nI 5)) dX7_mendCost_4 (by decide +kernel) ?_
  refine X.rnn e1 (fun p2 q e2 => ?_)
  clear e1
  subst q
  refine X.iald dX7_mendCost_5 e2 (fun v3 e3 => ?_)
  clear e2
  refine Ok.i2l dX7_mendCost_6 ?_
  refine Ok.ldc2_w (v := 1000) dX7_mendCost_7 wd586 ?_
  refine Ok.lmul dX7_mendCost_10 ?_
  exact X.lret dX7_mendCost_11 rfl (Nat.le_of_ble_eq_true rfl) (Nat.le_of_ble_eq_true rfl) e3
noncomputable def F_X7_mends_14 (G : Gx) (h : Hp) (nx : Nat) (s0 : Int32) : Rz Int32 :=
zk s0 (some (s0, h, nx))
set_option maxRecDepth 100000 in
set_option maxHeartbeats 4000000 in
theorem k_X7_mends_14 {G : Gx} {d : Nat} {v' : Int32} {h' : Hp} {n' : Nat} {h : Hp} {nx : Nat} {s0 : Int32} (e : F_X7_mends_14 G h nx s0 = some (v', h', n')) : Ok G mX7_mends (d + 0) (Same (some (.int v')) h' n') 14 [none] [.int s0] h nx 0 0 := by
  unfold F_X7_mends_14 at e
  exact X.zret dX7_mends_14 rfl (Nat.le_of_ble_eq_true rfl) (Nat.le_of_ble_eq_true rfl) e
noncomputable def F_X7_mends (G : Gx) (h : Hp) (nx : Nat) (a0 : Nat) : Rz Int32 :=
gfR h a0 [7] 0 (fun v1 =>
nn v1 (fun p2 =>
alI (g_c G 0) h p2 (nI 5) (fun v3 =>
if v3 ≤ 0 then
(F_X7_mends_14 G h nx (nI 0))
else
(F_X7_mends_14 G h nx (nI 1)))))
set_option maxRecDepth 100000 in
set_option maxHeartbeats 4000000 in
theorem k_X7_mends {G : Gx} {d : Nat} {h : Hp} {nx : Nat} {a0 : Nat} {v' : Int32} {h' : Hp} {n' : Nat} (e : F_X7_mends G h nx a0 = some (v', h', n')) : Ct G mX7_mends (d + 0) (Same (some (.int v')) h' n') [.ref a0] h nx := by
  unfold F_X7_mends at e
  refine Ct.of (ls := [some (.ref a0)]) (by decide +kernel) rfl (Nat.le_of_ble_eq_true rfl) rfl ?_
  refine Ok.aload_n dX7_mends_0 rfl ?_
  refine X.rgfR fl_RX7_9 dX7_mends_1 e (fun v1 e1 => ?_)
  clear e
  refine Ok.iconstV (v := (nI 5)) dX7_mends_4 (by decide +kernel) ?_
  refine X.rnn e1 (fun p2 q e2 => ?_)
  clear e1
  subst q
  refine X.iald dX7_mends_5 e2 (fun v3 e3 => ?_)
  clear e2
  refine X.if_le (tgt := 13) dX7_mends_6 (by decide) e3 (fun e4 => ?_) (fun e4 => ?_)
  · clear e3
    refine Ok.iconstV (v := (nI 0)) dX7_mends_13 (by decide +kernel) ?_
    exact Ok.weakL (k_X7_mends_14 (d := d) e4) trivial
  · clear e3
    refine Ok.iconstV (v := (nI 1)) dX7_mends_9 (by decide +kernel) ?_
    refine Ok.goto (tgt := 14) dX7_mends_10 (by decide) ?_
    exact Ok.weakL (k_X7_mends_14 (d := d) e4) trivial
noncomputable def F_X0_lookAt_74 (G : Gx) (h : Hp) (nx : Nat) (s0 : Option Nat) (s1 : Int32) (s2 : Int32) (l2 : Nat) : Rz Int64 :=
nn s0 (fun p1 =>
asI (g_c G 0) id h p1 s1 s2 (fun h2 =>
ck h2 l2 [7] (fun _ =>
cl (F_X7_mendCost G h2 nx l2) (fun r3 h4 n5 =>
some (r3, h4, n5)))))
set_option maxRecDepth 100000 in
set_option maxHeartbeats 4000000 in
theorem k_X0_lookAt_74 {G : Gx} {d : Nat} {v' : Int64} {h' : Hp} {n' : Nat} {h : Hp} {nx : Nat} {s0 : Option Nat} {s1 : Int32} {s2 : Int32} {l2 : Nat} (e : F_X0_lookAt_74 G h nx s0 s1 s2 l2 = some (v', h', n')) : Ok G mX0_lookAt (d + 1) (Same (some (.long v')) h' n') 74 [none, none, some (.ref l2)] [.int s2, .int s1, va_rf s0] h nx 0 0 := by
  unfold F_X0_lookAt_74 at e
  refine X.rnn e (fun p1 q e1 => ?_)
  clear e
  subst q
  refine X.iast dX0_lookAt_74 e1 (fun h2 e2 => ?_)
  clear e1
  refine Ok.aload_n dX0_lookAt_75 rfl ?_
  refine X.rck e2 (fun c fs hb hc e3 => ?_)
  clear e2
  obtain rfl := List.mem_singleton.mp hc
  refine X.callV (My := mX7_mendCost) (n := 0) (As := []) (T := (fun v => (some (.long v)))) (stk' := (fun v => [.long v])) (rest := []) (kc' := 0) (ks' := 0) dX0_lookAt_76 e3 (fun v h n e => k_X7_mendCost (d := d + 0) e) hb rfl wd585 wd81 wd583 wd584 wd920 (by decide +kernel) rfl (by decide) rfl rfl (Nat.le_of_ble_eq_true rfl) (Nat.le_of_ble_eq_true rfl) (Nat.le_of_ble_eq_true rfl) rfl rfl (fun _ => rfl) (fun r3 h4 n5 e4 => ?_)
  clear e3
  exact X.lret dX0_lookAt_79 rfl (Nat.le_of_ble_eq_true rfl) (Nat.le_of_ble_eq_true rfl) e4
noncomputable def F_X0_lookAt (G : Gx) (h : Hp) (nx : Nat) (a0 : Nat) (a1 : Int32) (a2 : Nat) : Rz Int64 :=
gfR h a0 [0] 7 (fun v1 =>
nn v1 (fun p2 =>
asI (g_c G 0) id h p2 a1 (nI 0) (fun h3 =>
gfR h3 a0 [0] 10 (fun v4 =>
nn v4 (fun p5 =>
alI (g_c G 3) h3 p5 a1 (fun v6 =>
if v6 = 0 then
gfR h3 a0 [0] 9 (fun v7 =>
nn v7 (fun p8 =>
alI (g_c G 0) h3 p8 a1 (fun v9 =>
asI (g_c G 0) id h3 p8 a1 ((v9 + (nI 1))) (fun h10 =>
gfR h10 a0 [0] 10 (fun v11 =>
ck h10 a2 [7] (fun _ =>
cl (F_X7_mends G h10 nx a2) (fun r12 h13 n14 =>
nn v11 (fun p15 =>
asI (g_c G 3) (vp_nar .boolean) h13 p15 a1 r12 (fun h16 =>
gfR h16 a0 [0] 6 (fun v17 =>
ck h16 a2 [7] (fun _ =>
cl (F_X7_mends G h16 n14 a2) (fun r18 h19 n20 =>
if r18 = 0 then
(F_X0_lookAt_74 G h19 n20 v17 a1 (nI 0) a2)
else
(F_X0_lookAt_74 G h19 n20 v17 a1 (nI 1000000) a2)))))))))))))
else
gfR h3 a0 [0] 8 (fun v21 =>
nn v21 (fun p22 =>
alI (g_c G 0) h3 p22 a1 (fun v23 =>
asI (g_c G 0) id h3 p22 a1 ((v23 + (nI 1))) (fun h24 =>
gfR h24 a0 [0] 6 (fun v25 =>
nn v25 (fun p26 =>
asI (g_c G 0) id h24 p26 a1 (nI 1000000) (fun h27 =>
some ((0 : Int64), h27, nx))))))))))))))
set_option maxRecDepth 100000 in
set_option maxHeartbeats 4000000 in
theorem k_X0_lookAt {G : Gx} {d : Nat} {h : Hp} {nx : Nat} {a0 : Nat} {a1 : Int32} {a2 : Nat} {v' : Int64} {h' : Hp} {n' : Nat} (e : F_X0_lookAt G h nx a0 a1 a2 = some (v', h', n')) : Ct G mX0_lookAt (d + 1) (Same (some (.long v')) h' n') [.ref a0, .int a1, .ref a2] h nx := by
  unfold F_X0_lookAt at e
  refine Ct.of (ls := [some (.ref a0), some (.int a1), some (.ref a2)]) (by decide +kernel) rfl (Nat.le_of_ble_eq_true rfl) rfl ?_
  refine Ok.aload_n dX0_lookAt_0 rfl ?_
  refine X.rgfR fl_RX0_38 dX0_lookAt_1 e (fun v1 e1 => ?_)
  clear e
  refine Ok.iload_n dX0_lookAt_4 rfl ?_
  refine Ok.iconstV (v := (nI 0)) dX0_lookAt_5 (by decide +kernel) ?_
  refine X.rnn e1 (fun p2 q e2 => ?_)
  clear e1
  subst q
  refine X.iast dX0_lookAt_6 e2 (fun h3 e3 => ?_)
  clear e2
  refine Ok.aload_n dX0_lookAt_7 rfl ?_
  refine X.rgfR fl_RX0_47 dX0_lookAt_8 e3 (fun v4 e4 => ?_)
  clear e3
  refine Ok.iload_n dX0_lookAt_11 rfl ?_
  refine X.rnn e4 (fun p5 q e5 => ?_)
  clear e4
  subst q
  refine X.zald dX0_lookAt_12 e5 (fun v6 e6 => ?_)
  clear e5
  refine X.if_eq (tgt := 36) dX0_lookAt_13 (by decide) e6 (fun e7 => ?_) (fun e7 => ?_)
  · clear e6
    refine Ok.aload_n dX0_lookAt_36 rfl ?_
    refine X.rgfR fl_RX0_44 dX0_lookAt_37 e7 (fun v7 e8 => ?_)
    clear e7
    refine Ok.iload_n dX0_lookAt_40 rfl ?_
    refine Ok.dup2 dX0_lookAt_41 rfl (va_rf_cat _) ?_
    refine X.rnn e8 (fun p8 q e9 => ?_)
    clear e8
    subst q
    refine X.iald dX0_lookAt_42 e9 (fun v9 e10 => ?_)
    clear e9
    refine Ok.iconstV (v := (nI 1)) dX0_lookAt_43 (by decide +kernel) ?_
    refine Ok.iadd dX0_lookAt_44 ?_
    refine X.iast dX0_lookAt_45 e10 (fun h10 e11 => ?_)
    clear e10
    refine Ok.aload_n dX0_lookAt_46 rfl ?_
    refine X.rgfR fl_RX0_47 dX0_lookAt_47 e11 (fun v11 e12 => ?_)
    clear e11
    refine Ok.iload_n dX0_lookAt_50 rfl ?_
    refine Ok.aload_n dX0_lookAt_51 rfl ?_
    refine X.rck e12 (fun c fs hb hc e13 => ?_)
    clear e12
    obtain rfl := List.mem_singleton.mp hc
    refine X.callV (My := mX7_mends) (n := 0) (As := []) (T := (fun v => (some (.int v)))) (stk' := (fun v => [.int v, .int a1, va_rf v11])) (rest := [.int a1, va_rf v11]) (kc' := 0) (ks' := 0) dX0_lookAt_52 e13 (fun v h n e => k_X7_mends (d := d + 0) e) hb rfl wd578 wd81 wd576 wd577 wd919 (by decide +kernel) rfl (by decide) rfl rfl (cs_le (cs_c (a := 1) rfl (cs_c (a := 1) (va_rf_cat _) cs_n)) (by decide)) (Nat.le_of_ble_eq_true rfl) (Nat.le_of_ble_eq_true rfl) rfl rfl (fun _ => rfl) (fun r12 h13 n14 e14 => ?_)
    clear e13
    refine X.rnn e14 (fun p15 q e15 => ?_)
    clear e14
    subst q
    refine X.zast dX0_lookAt_55 e15 (fun h16 e16 => ?_)
    clear e15
    refine Ok.aload_n dX0_lookAt_56 rfl ?_
    refine X.rgfR fl_RX0_35 dX0_lookAt_57 e16 (fun v17 e17 => ?_)
    clear e16
    refine Ok.iload_n dX0_lookAt_60 rfl ?_
    refine Ok.aload_n dX0_lookAt_61 rfl ?_
    refine X.rck e17 (fun c fs hb hc e18 => ?_)
    clear e17
    obtain rfl := List.mem_singleton.mp hc
    refine X.callV (My := mX7_mends) (n := 0) (As := []) (T := (fun v => (some (.int v)))) (stk' := (fun v => [.int v, .int a1, va_rf v17])) (rest := [.int a1, va_rf v17]) (kc' := 0) (ks' := 0) dX0_lookAt_62 e18 (fun v h n e => k_X7_mends (d := d + 0) e) hb rfl wd578 wd81 wd576 wd577 wd919 (by decide +kernel) rfl (by decide) rfl rfl (cs_le (cs_c (a := 1) rfl (cs_c (a := 1) (va_rf_cat _) cs_n)) (by decide)) (Nat.le_of_ble_eq_true rfl) (Nat.le_of_ble_eq_true rfl) rfl rfl (fun _ => rfl) (fun r18 h19 n20 e19 => ?_)
    clear e18
    refine X.if_eq (tgt := 73) dX0_lookAt_65 (by decide) e19 (fun e20 => ?_) (fun e20 => ?_)
    · clear e19
      refine Ok.iconstV (v := (nI 0)) dX0_lookAt_73 (by decide +kernel) ?_
      exact Ok.weakL (k_X0_lookAt_74 (d := d) e20) ⟨rfl, trivial⟩
    · clear e19
      refine Ok.ldc (v := (nI 1000000)) dX0_lookAt_68 wd513 ?_
      refine Ok.goto (tgt := 74) dX0_lookAt_70 (by decide) ?_
      exact Ok.weakL (k_X0_lookAt_74 (d := d) e20) ⟨rfl, trivial⟩
  · clear e6
    refine Ok.aload_n dX0_lookAt_16 rfl ?_
    refine X.rgfR fl_RX0_41 dX0_lookAt_17 e7 (fun v21 e8 => ?_)
    clear e7
    refine Ok.iload_n dX0_lookAt_20 rfl ?_
    refine Ok.dup2 dX0_lookAt_21 rfl (va_rf_cat _) ?_
    refine X.rnn e8 (fun p22 q e9 => ?_)
    clear e8
    subst q
    refine X.iald dX0_lookAt_22 e9 (fun v23 e10 => ?_)
    clear e9
    refine Ok.iconstV (v := (nI 1)) dX0_lookAt_23 (by decide +kernel) ?_
    refine Ok.iadd dX0_lookAt_24 ?_
    refine X.iast dX0_lookAt_25 e10 (fun h24 e11 => ?_)
    clear e10
    refine Ok.aload_n dX0_lookAt_26 rfl ?_
    refine X.rgfR fl_RX0_35 dX0_lookAt_27 e11 (fun v25 e12 => ?_)
    clear e11
    refine Ok.iload_n dX0_lookAt_30 rfl ?_
    refine Ok.ldc (v := (nI 1000000)) dX0_lookAt_31 wd513 ?_
    refine X.rnn e12 (fun p26 q e13 => ?_)
    clear e12
    subst q
    refine X.iast dX0_lookAt_33 e13 (fun h27 e14 => ?_)
    clear e13
    refine XL.lconst (v := 0) dX0_lookAt_34 (by decide +kernel) ?_
    exact X.lret dX0_lookAt_35 rfl (Nat.le_of_ble_eq_true rfl) (Nat.le_of_ble_eq_true rfl) e14
noncomputable def F_X7_lookCost (G : Gx) (h : Hp) (nx : Nat) (a0 : Nat) : Rz Int64 :=
gfR h a0 [7] 0 (fun v1 =>
nn v1 (fun p2 =>
alI (g_c G 0) h p2 (nI 4) (fun v3 =>
some ((((v3.toInt64) * (1000 : Int64))), h, nx))))
set_option maxRecDepth 100000 in
set_option maxHeartbeats 4000000 in
theorem k_X7_lookCost {G : Gx} {d : Nat} {h : Hp} {nx : Nat} {a0 : Nat} {v' : Int64} {h' : Hp} {n' : Nat} (e : F_X7_lookCost G h nx a0 = some (v', h', n')) : Ct G mX7_lookCost (d + 0) (Same (some (.long v')) h' n') [.ref a0] h nx := by
  unfold F_X7_lookCost at e
  refine Ct.of (ls := [some (.ref a0)]) (by decide +kernel) rfl (Nat.le_of_ble_eq_true rfl) rfl ?_
  refine Ok.aload_n dX7_lookCost_0 rfl ?_
  refine X.rgfR fl_RX7_9 dX7_lookCost_1 e (fun v1 e1 => ?_)
  clear e
  refine Ok.iconstV (v := (nI 4)) dX7_lookCost_4 (by decide +kernel) ?_
  refine X.rnn e1 (fun p2 q e2 => ?_)
  clear e1
  subst q
  refine X.iald dX7_lookCost_5 e2 (fun v3 e3 => ?_)
  clear e2
  refine Ok.i2l dX7_lookCost_6 ?_
  refine Ok.ldc2_w (v := 1000) dX7_lookCost_7 wd586 ?_
  refine Ok.lmul dX7_lookCost_10 ?_
  exact X.lret dX7_lookCost_11 rfl (Nat.le_of_ble_eq_true rfl) (Nat.le_of_ble_eq_true rfl) e3
noncomputable def F_X0_lookAndPay_85 (G : Gx) (k5 : Hp → Nat → Nat → Int32 → Int64 → Int32 → Rz Int64) (h : Hp) (nx : Nat) (l0 : Nat) (l1 : Int32) (l2 : Int64) (l4 : Int32) : Rz Int64 :=
nm (l4 + (nI 1)) (fun v1 =>
(k5 h nx l0 l1 l2 v1))
set_option maxRecDepth 100000 in
set_option maxHeartbeats 4000000 in
theorem k_X0_lookAndPay_85 {G : Gx} {d : Nat} {v' : Int64} {h' : Hp} {n' : Nat} {k5 : Hp → Nat → Nat → Int32 → Int64 → Int32 → Rz Int64} (K5 : ∀ {h : Hp} {nx : Nat} {l0 : Nat} {l1 : Int32} {l2 : Int64} {l4 : Int32}, k5 h nx l0 l1 l2 l4 = some (v', h', n') → Ok G mX0_lookAndPay (d + 2) (Same (some (.long v')) h' n') 5 [some (.ref l0), some (.int l1), some (.long l2), none, some (.int l4), none] [] h nx 0 0) {h : Hp} {nx : Nat} {l0 : Nat} {l1 : Int32} {l2 : Int64} {l4 : Int32} (e : F_X0_lookAndPay_85 G k5 h nx l0 l1 l2 l4 = some (v', h', n')) : Ok G mX0_lookAndPay (d + 2) (Same (some (.long v')) h' n') 85 [some (.ref l0), some (.int l1), some (.long l2), none, some (.int l4), none] [] h nx 0 0 := by
  unfold F_X0_lookAndPay_85 at e
  refine X.iinc dX0_lookAndPay_85 rfl (by decide) (by decide +kernel) e (L := fun v1 => [some (.ref l0), some (.int l1), some (.long l2), none, some (.int v1), none]) (fun _ => rfl) (fun v1 e1 => ?_)
  clear e
  refine Ok.goto (tgt := 5) dX0_lookAndPay_88 (by decide) ?_
  exact Ok.weakL (K5 e1) ⟨rfl, ⟨rfl, ⟨rfl, ⟨rfl, trivial⟩⟩⟩⟩
noncomputable def F_X0_lookAndPay_54 (G : Gx) (k5 : Hp → Nat → Nat → Int32 → Int64 → Int32 → Rz Int64) (h : Hp) (nx : Nat) (s0 : Int64) (s1 : Int64) (s2 : Int32) (l0 : Nat) (l1 : Int32) (l4 : Int32) (l5 : Option Nat) : Rz Int64 :=
nm ((s0 + ((s1 * (s2.toInt64))))) (fun v1 =>
if ((((l1 >>> (l4 &&& 31))) &&& (nI 1))) = (nI 1) then
nn l5 (fun p2 =>
ck h p2 [7] (fun _ =>
cl (F_X7_lookCost G h nx p2) (fun r3 h4 n5 =>
ck h4 l0 [0] (fun _ =>
cl (F_X0_lookAt G h4 n5 l0 l4 p2) (fun r6 h7 n8 =>
nm ((v1 - ((r3 + r6)))) (fun v9 =>
(F_X0_lookAndPay_85 G k5 h7 n8 l0 l1 v9 l4)))))))
else
(F_X0_lookAndPay_85 G k5 h nx l0 l1 v1 l4))
set_option maxRecDepth 100000 in
set_option maxHeartbeats 4000000 in
theorem k_X0_lookAndPay_54 {G : Gx} {d : Nat} {v' : Int64} {h' : Hp} {n' : Nat} {k5 : Hp → Nat → Nat → Int32 → Int64 → Int32 → Rz Int64} (K5 : ∀ {h : Hp} {nx : Nat} {l0 : Nat} {l1 : Int32} {l2 : Int64} {l4 : Int32}, k5 h nx l0 l1 l2 l4 = some (v', h', n') → Ok G mX0_lookAndPay (d + 2) (Same (some (.long v')) h' n') 5 [some (.ref l0), some (.int l1), some (.long l2), none, some (.int l4), none] [] h nx 0 0) {h : Hp} {nx : Nat} {s0 : Int64} {s1 : Int64} {s2 : Int32} {l0 : Nat} {l1 : Int32} {l4 : Int32} {l5 : Option Nat} (e : F_X0_lookAndPay_54 G k5 h nx s0 s1 s2 l0 l1 l4 l5 = some (v', h', n')) : Ok G mX0_lookAndPay (d + 2) (Same (some (.long v')) h' n') 54 [some (.ref l0), some (.int l1), none, none, some (.int l4), some (va_rf l5)] [.int s2, .long s1, .long s0] h nx 0 0 := by
  unfold F_X0_lookAndPay_54 at e
  refine Ok.i2l dX0_lookAndPay_54 ?_
  refine Ok.lmul dX0_lookAndPay_55 ?_
  refine Ok.ladd dX0_lookAndPay_56 ?_
  refine X.lstore_n dX0_lookAndPay_57 (by decide) e (L := fun v1 => [some (.ref l0), some (.int l1), some (.long v1), none, some (.int l4), some (va_rf l5)]) (fun _ => rfl) (fun v1 e1 => ?_)
  clear e
  refine Ok.iload_n dX0_lookAndPay_58 rfl ?_
  refine Ok.iload dX0_lookAndPay_59 rfl ?_
  refine Ok.ishr dX0_lookAndPay_61 ?_
  refine Ok.iconstV (v := (nI 1)) dX0_lookAndPay_62 (by decide +kernel) ?_
  refine Ok.iand dX0_lookAndPay_63 ?_
  refine Ok.iconstV (v := (nI 1)) dX0_lookAndPay_64 (by decide +kernel) ?_
  refine X.icmp_ne (tgt := 85) dX0_lookAndPay_65 (by decide) e1 (fun e2 => ?_) (fun e2 => ?_)
  · clear e1
    exact Ok.weakL (k_X0_lookAndPay_85 (d := d) K5 e2) ⟨rfl, ⟨rfl, ⟨rfl, ⟨rfl, trivial⟩⟩⟩⟩
  · clear e1
    refine Ok.lload_n dX0_lookAndPay_68 rfl ?_
    refine Ok.aloadQ dX0_lookAndPay_69 rfl ?_
    refine X.rnn e2 (fun p2 q e3 => ?_)
    clear e2
    subst q
    refine X.rck e3 (fun c fs hb hc e4 => ?_)
    clear e3
    obtain rfl := List.mem_singleton.mp hc
    refine X.callV (My := mX7_lookCost) (n := 0) (As := []) (T := (fun v => (some (.long v)))) (stk' := (fun v => [.long v, .long v1])) (rest := [.long v1]) (kc' := 0) (ks' := 0) dX0_lookAndPay_71 e4 (fun v h n e => k_X7_lookCost (d := d + 1) e) hb rfl wd590 wd81 wd588 wd589 wd914 (by decide +kernel) rfl (by decide) rfl rfl (Nat.le_of_ble_eq_true rfl) (Nat.le_of_ble_eq_true rfl) (Nat.le_of_ble_eq_true rfl) rfl rfl (fun _ => rfl) (fun r3 h4 n5 e5 => ?_)
    clear e4
    refine Ok.aload_n dX0_lookAndPay_74 rfl ?_
    refine Ok.iload dX0_lookAndPay_75 rfl ?_
    refine Ok.aload dX0_lookAndPay_77 rfl ?_
    refine X.rck e5 (fun c fs hb hc e6 => ?_)
    clear e5
    obtain rfl := List.mem_singleton.mp hc
    refine X.callV (My := mX0_lookAt) (n := 2) (As := [.int l4, .ref p2]) (T := (fun v => (some (.long v)))) (stk' := (fun v => [.long v, .long r3, .long v1])) (rest := [.long r3, .long v1]) (kc' := 0) (ks' := 0) dX0_lookAndPay_79 e6 (fun v h n e => k_X0_lookAt (d := d + 0) e) hb rfl wd918 wd77 wd917 wd22 wd915 (by decide +kernel) rfl (by decide) rfl rfl (Nat.le_of_ble_eq_true rfl) (Nat.le_of_ble_eq_true rfl) (Nat.le_of_ble_eq_true rfl) rfl rfl (fun _ => rfl) (fun r6 h7 n8 e7 => ?_)
    clear e6
    refine Ok.ladd dX0_lookAndPay_82 ?_
    refine Ok.lsub dX0_lookAndPay_83 ?_
    refine X.lstore_n dX0_lookAndPay_84 (by decide) e7 (L := fun v9 => [some (.ref l0), some (.int l1), some (.long v9), none, some (.int l4), some (.ref p2)]) (fun _ => rfl) (fun v9 e8 => ?_)
    clear e7
    exact Ok.weakL (k_X0_lookAndPay_85 (d := d) K5 e8) ⟨rfl, ⟨rfl, ⟨rfl, ⟨rfl, trivial⟩⟩⟩⟩
noncomputable def F_X0_lookAndPay_5 (G : Gx) : Nat → Hp → Nat → Nat → Int32 → Int64 → Int32 → Rz Int64 := fun n => Nat.rec (motive := fun _ => Hp → Nat → Nat → Int32 → Int64 → Int32 → Rz Int64) (fun _ _ _ _ _ _ => none) (fun _ k5 => fun h nx l0 l1 l2 l4 =>
gfI h l0 [0] 11 (fun v1 =>
if v1 ≤ l4 then
some (l2, h, nx)
else
ck h l0 [0] (fun _ =>
cl (F_X0_sortAt G h nx l0 l4) (fun r2 h3 n4 =>
gfR h3 l0 [0] 10 (fun v5 =>
nn v5 (fun p6 =>
alI (g_c G 3) h3 p6 l4 (fun v7 =>
if v7 = 0 then
nn r2 (fun p8 =>
gfR h3 p8 [7] 0 (fun v9 =>
nn v9 (fun p10 =>
alI (g_c G 0) h3 p10 (nI 3) (fun v11 =>
(F_X0_lookAndPay_54 G k5 h3 n4 l2 (1000 : Int64) ((-v11)) l0 l1 l4 (some p8))))))
else
nn r2 (fun p12 =>
gfR h3 p12 [7] 0 (fun v13 =>
nn v13 (fun p14 =>
alI (g_c G 0) h3 p14 (nI 2) (fun v15 =>
(F_X0_lookAndPay_54 G k5 h3 n4 l2 (1000 : Int64) v15 l0 l1 l4 (some p12))))))))))))) n
theorem F_X0_lookAndPay_5_0 {G : Gx} {h : Hp} {nx : Nat} {l0 : Nat} {l1 : Int32} {l2 : Int64} {l4 : Int32} : F_X0_lookAndPay_5 G 0 h nx l0 l1 l2 l4 = none := rfl
theorem F_X0_lookAndPay_5_s {G : Gx} {n : Nat} {h : Hp} {nx : Nat} {l0 : Nat} {l1 : Int32} {l2 : Int64} {l4 : Int32} : F_X0_lookAndPay_5 G (n + 1) h nx l0 l1 l2 l4 = (
gfI h l0 [0] 11 (fun v1 =>
if v1 ≤ l4 then
some (l2, h, nx)
else
ck h l0 [0] (fun _ =>
cl (F_X0_sortAt G h nx l0 l4) (fun r2 h3 n4 =>
gfR h3 l0 [0] 10 (fun v5 =>
nn v5 (fun p6 =>
alI (g_c G 3) h3 p6 l4 (fun v7 =>
if v7 = 0 then
nn r2 (fun p8 =>
gfR h3 p8 [7] 0 (fun v9 =>
nn v9 (fun p10 =>
alI (g_c G 0) h3 p10 (nI 3) (fun v11 =>
(F_X0_lookAndPay_54 G (F_X0_lookAndPay_5 G n) h3 n4 l2 (1000 : Int64) ((-v11)) l0 l1 l4 (some p8))))))
else
nn r2 (fun p12 =>
gfR h3 p12 [7] 0 (fun v13 =>
nn v13 (fun p14 =>
alI (g_c G 0) h3 p14 (nI 2) (fun v15 =>
(F_X0_lookAndPay_54 G (F_X0_lookAndPay_5 G n) h3 n4 l2 (1000 : Int64) v15 l0 l1 l4 (some p12))))))))))))) := rfl
set_option maxRecDepth 100000 in
set_option maxHeartbeats 4000000 in
theorem k_X0_lookAndPay_5 {G : Gx} {d : Nat} {v' : Int64} {h' : Hp} {n' : Nat} : ∀ (n : Nat) {h : Hp} {nx : Nat} {l0 : Nat} {l1 : Int32} {l2 : Int64} {l4 : Int32}, F_X0_lookAndPay_5 G n h nx l0 l1 l2 l4 = some (v', h', n') → Ok G mX0_lookAndPay (d + 2) (Same (some (.long v')) h' n') 5 [some (.ref l0), some (.int l1), some (.long l2), none, some (.int l4), none] [] h nx 0 0 := by
  intro n
  induction n with
  | zero =>
    intro h nx l0 l1 l2 l4 e
    rw [F_X0_lookAndPay_5_0] at e
    cases e
  | succ n K5 =>
    intro h nx l0 l1 l2 l4 e
    rw [F_X0_lookAndPay_5_s] at e
    refine Ok.iload dX0_lookAndPay_5 rfl ?_
    refine Ok.aload_n dX0_lookAndPay_7 rfl ?_
    refine X.rgfI fl_RX0_51 dX0_lookAndPay_8 e (fun v1 e1 => ?_)
    clear e
    refine X.icmp_ge (tgt := 91) dX0_lookAndPay_11 (by decide) e1 (fun e2 => ?_) (fun e2 => ?_)
    · clear e1
      refine Ok.lload_n dX0_lookAndPay_91 rfl ?_
      exact X.lret dX0_lookAndPay_92 rfl (Nat.le_of_ble_eq_true rfl) (Nat.le_of_ble_eq_true rfl) e2
    · clear e1
      refine Ok.aload_n dX0_lookAndPay_14 rfl ?_
      refine Ok.iload dX0_lookAndPay_15 rfl ?_
      refine X.rck e2 (fun c fs hb hc e3 => ?_)
      clear e2
      obtain rfl := List.mem_singleton.mp hc
      refine X.callV (My := mX0_sortAt) (n := 1) (As := [.int l4]) (T := (fun v => (some (va_rf v)))) (stk' := (fun v => [va_rf v])) (rest := []) (kc' := 0) (ks' := 0) dX0_lookAndPay_17 e3 (fun v h n e => k_X0_sortAt (d := d + 1) e) hb rfl wd533 wd77 wd531 wd532 wd530 (by decide +kernel) rfl (by decide) rfl rfl (Nat.le_of_ble_eq_true rfl) (Nat.le_of_ble_eq_true rfl) (Nat.le_of_ble_eq_true rfl) rfl rfl (fun _ => rfl) (fun r2 h3 n4 e4 => ?_)
      clear e3
      refine XL.astoreQ (r := r2) dX0_lookAndPay_20 (by decide) (L := [some (.ref l0), some (.int l1), some (.long l2), none, some (.int l4), some (va_rf r2)]) rfl ?_
      refine Ok.lload_n dX0_lookAndPay_22 rfl ?_
      refine Ok.ldc2_w (v := 1000) dX0_lookAndPay_23 wd913 ?_
      refine Ok.aload_n dX0_lookAndPay_26 rfl ?_
      refine X.rgfR fl_RX0_47 dX0_lookAndPay_27 e4 (fun v5 e5 => ?_)
      clear e4
      refine Ok.iload dX0_lookAndPay_30 rfl ?_
      refine X.rnn e5 (fun p6 q e6 => ?_)
      clear e5
      subst q
      refine X.zald dX0_lookAndPay_32 e6 (fun v7 e7 => ?_)
      clear e6
      refine X.if_eq (tgt := 46) dX0_lookAndPay_33 (by decide) e7 (fun e8 => ?_) (fun e8 => ?_)
      · clear e7
        refine Ok.aloadQ dX0_lookAndPay_46 rfl ?_
        refine X.rnn e8 (fun p8 q e9 => ?_)
        clear e8
        subst q
        refine X.rgfR fl_RX0_104 dX0_lookAndPay_48 e9 (fun v9 e10 => ?_)
        clear e9
        refine Ok.iconstV (v := (nI 3)) dX0_lookAndPay_51 (by decide +kernel) ?_
        refine X.rnn e10 (fun p10 q e11 => ?_)
        clear e10
        subst q
        refine X.iald dX0_lookAndPay_52 e11 (fun v11 e12 => ?_)
        clear e11
        refine Ok.ineg dX0_lookAndPay_53 ?_
        exact Ok.weakL (k_X0_lookAndPay_54 (d := d) K5 e12) ⟨rfl, ⟨rfl, ⟨rfl, ⟨rfl, trivial⟩⟩⟩⟩
      · clear e7
        refine Ok.aloadQ dX0_lookAndPay_36 rfl ?_
        refine X.rnn e8 (fun p12 q e9 => ?_)
        clear e8
        subst q
        refine X.rgfR fl_RX0_104 dX0_lookAndPay_38 e9 (fun v13 e10 => ?_)
        clear e9
        refine Ok.iconstV (v := (nI 2)) dX0_lookAndPay_41 (by decide +kernel) ?_
        refine X.rnn e10 (fun p14 q e11 => ?_)
        clear e10
        subst q
        refine X.iald dX0_lookAndPay_42 e11 (fun v15 e12 => ?_)
        clear e11
        refine Ok.goto (tgt := 54) dX0_lookAndPay_43 (by decide) ?_
        exact Ok.weakL (k_X0_lookAndPay_54 (d := d) K5 e12) ⟨rfl, ⟨rfl, ⟨rfl, ⟨rfl, trivial⟩⟩⟩⟩
noncomputable def F_X0_lookAndPay (G : Gx) (h : Hp) (nx : Nat) (a0 : Nat) (a1 : Int32) : Rz Int64 :=
(F_X0_lookAndPay_5 G fuelL h nx a0 a1 (0 : Int64) (nI 0))
set_option maxRecDepth 100000 in
set_option maxHeartbeats 4000000 in
theorem k_X0_lookAndPay {G : Gx} {d : Nat} {h : Hp} {nx : Nat} {a0 : Nat} {a1 : Int32} {v' : Int64} {h' : Hp} {n' : Nat} (e : F_X0_lookAndPay G h nx a0 a1 = some (v', h', n')) : Ct G mX0_lookAndPay (d + 2) (Same (some (.long v')) h' n') [.ref a0, .int a1] h nx := by
  unfold F_X0_lookAndPay at e
  refine Ct.of (ls := [some (.ref a0), some (.int a1), none, none, none, none]) (by decide +kernel) rfl (Nat.le_of_ble_eq_true rfl) rfl ?_
  refine XL.lconst (v := 0) dX0_lookAndPay_0 (by decide +kernel) ?_
  refine XL.lstore_n dX0_lookAndPay_1 (by decide) (L := [some (.ref a0), some (.int a1), some (.long (0 : Int64)), none, none, none]) rfl ?_
  refine Ok.iconstV (v := (nI 0)) dX0_lookAndPay_2 (by decide +kernel) ?_
  refine XL.istore dX0_lookAndPay_3 (by decide) (L := [some (.ref a0), some (.int a1), some (.long (0 : Int64)), none, some (.int (nI 0)), none]) rfl ?_
  exact Ok.weakL (k_X0_lookAndPay_5 (d := d) fuelL e) ⟨rfl, ⟨rfl, ⟨rfl, ⟨rfl, trivial⟩⟩⟩⟩
noncomputable def F_X0_turnAll_100 (G : Gx) (k2 : Hp → Nat → Nat → Int32 → Int32 → Rz Unit) (h : Hp) (nx : Nat) (l0 : Nat) (l1 : Int32) (l2 : Int32) : Rz Unit :=
nm (l2 + (nI 1)) (fun v1 =>
(k2 h nx l0 l1 v1))
set_option maxRecDepth 100000 in
set_option maxHeartbeats 4000000 in
theorem k_X0_turnAll_100 {G : Gx} {d : Nat} {v' : Unit} {h' : Hp} {n' : Nat} {k2 : Hp → Nat → Nat → Int32 → Int32 → Rz Unit} (K2 : ∀ {h : Hp} {nx : Nat} {l0 : Nat} {l1 : Int32} {l2 : Int32}, k2 h nx l0 l1 l2 = some (v', h', n') → Ok G mX0_turnAll (d + 2) (Same none h' n') 2 [some (.ref l0), some (.int l1), some (.int l2), none, none] [] h nx 0 0) {h : Hp} {nx : Nat} {l0 : Nat} {l1 : Int32} {l2 : Int32} (e : F_X0_turnAll_100 G k2 h nx l0 l1 l2 = some (v', h', n')) : Ok G mX0_turnAll (d + 2) (Same none h' n') 100 [some (.ref l0), some (.int l1), some (.int l2), none, none] [] h nx 0 0 := by
  unfold F_X0_turnAll_100 at e
  refine X.iinc dX0_turnAll_100 rfl (by decide) (by decide +kernel) e (L := fun v1 => [some (.ref l0), some (.int l1), some (.int v1), none, none]) (fun _ => rfl) (fun v1 e1 => ?_)
  clear e
  refine Ok.goto (tgt := 2) dX0_turnAll_103 (by decide) ?_
  exact Ok.weakL (K2 e1) ⟨rfl, ⟨rfl, ⟨rfl, trivial⟩⟩⟩
noncomputable def F_X0_turnAll_99 (G : Gx) (k2 : Hp → Nat → Nat → Int32 → Int32 → Rz Unit) (h : Hp) (nx : Nat) (s0 : Option Nat) (s1 : Int32) (s2 : Int32) (l0 : Nat) (l1 : Int32) (l2 : Int32) : Rz Unit :=
nn s0 (fun p1 =>
asI (g_c G 3) (vp_nar .boolean) h p1 s1 s2 (fun h2 =>
(F_X0_turnAll_100 G k2 h2 nx l0 l1 l2)))
set_option maxRecDepth 100000 in
set_option maxHeartbeats 4000000 in
theorem k_X0_turnAll_99 {G : Gx} {d : Nat} {v' : Unit} {h' : Hp} {n' : Nat} {k2 : Hp → Nat → Nat → Int32 → Int32 → Rz Unit} (K2 : ∀ {h : Hp} {nx : Nat} {l0 : Nat} {l1 : Int32} {l2 : Int32}, k2 h nx l0 l1 l2 = some (v', h', n') → Ok G mX0_turnAll (d + 2) (Same none h' n') 2 [some (.ref l0), some (.int l1), some (.int l2), none, none] [] h nx 0 0) {h : Hp} {nx : Nat} {s0 : Option Nat} {s1 : Int32} {s2 : Int32} {l0 : Nat} {l1 : Int32} {l2 : Int32} (e : F_X0_turnAll_99 G k2 h nx s0 s1 s2 l0 l1 l2 = some (v', h', n')) : Ok G mX0_turnAll (d + 2) (Same none h' n') 99 [some (.ref l0), some (.int l1), some (.int l2), none, none] [.int s2, .int s1, va_rf s0] h nx 0 0 := by
  unfold F_X0_turnAll_99 at e
  refine X.rnn e (fun p1 q e1 => ?_)
  clear e
  subst q
  refine X.zast dX0_turnAll_99 e1 (fun h2 e2 => ?_)
  clear e1
  exact Ok.weakL (k_X0_turnAll_100 (d := d) K2 e2) ⟨rfl, ⟨rfl, ⟨rfl, trivial⟩⟩⟩
noncomputable def F_X0_turnAll_57 (G : Gx) (k2 : Hp → Nat → Nat → Int32 → Int32 → Rz Unit) (h : Hp) (nx : Nat) (s0 : Option Nat) (s1 : Int32) (l0 : Nat) (l1 : Int32) (l2 : Int32) (l3 : Int32) : Rz Unit :=
gfR h l0 [0] 7 (fun v1 =>
nn v1 (fun p2 =>
alI (g_c G 0) h p2 l2 (fun v3 =>
gfR h l0 [0] 5 (fun v4 =>
nn v4 (fun p5 =>
alI (g_c G 0) h p5 l2 (fun v6 =>
nn s0 (fun p7 =>
ck h p7 [7] (fun _ =>
cl (F_X7_chance G h nx p7 s1 v3 v6) (fun r8 h9 n10 =>
if r8 ≤ l3 then
(F_X0_turnAll_100 G k2 h9 n10 l0 l1 l2)
else
gfR h9 l0 [0] 10 (fun v11 =>
gfR h9 l0 [0] 10 (fun v12 =>
nn v12 (fun p13 =>
alI (g_c G 3) h9 p13 l2 (fun v14 =>
if v14 = 0 then
(F_X0_turnAll_99 G k2 h9 n10 v11 l2 (nI 1) l0 l1 l2)
else
(F_X0_turnAll_99 G k2 h9 n10 v11 l2 (nI 0) l0 l1 l2))))))))))))))
set_option maxRecDepth 100000 in
set_option maxHeartbeats 4000000 in
theorem k_X0_turnAll_57 {G : Gx} {d : Nat} {v' : Unit} {h' : Hp} {n' : Nat} {k2 : Hp → Nat → Nat → Int32 → Int32 → Rz Unit} (K2 : ∀ {h : Hp} {nx : Nat} {l0 : Nat} {l1 : Int32} {l2 : Int32}, k2 h nx l0 l1 l2 = some (v', h', n') → Ok G mX0_turnAll (d + 2) (Same none h' n') 2 [some (.ref l0), some (.int l1), some (.int l2), none, none] [] h nx 0 0) {h : Hp} {nx : Nat} {s0 : Option Nat} {s1 : Int32} {l0 : Nat} {l1 : Int32} {l2 : Int32} {l3 : Int32} (e : F_X0_turnAll_57 G k2 h nx s0 s1 l0 l1 l2 l3 = some (v', h', n')) : Ok G mX0_turnAll (d + 2) (Same none h' n') 57 [some (.ref l0), some (.int l1), some (.int l2), some (.int l3), none] [.int s1, va_rf s0] h nx 0 0 := by
  unfold F_X0_turnAll_57 at e
  refine Ok.aload_n dX0_turnAll_57 rfl ?_
  refine X.rgfR fl_RX0_38 dX0_turnAll_58 e (fun v1 e1 => ?_)
  clear e
  refine Ok.iload_n dX0_turnAll_61 rfl ?_
  refine X.rnn e1 (fun p2 q e2 => ?_)
  clear e1
  subst q
  refine X.iald dX0_turnAll_62 e2 (fun v3 e3 => ?_)
  clear e2
  refine Ok.aload_n dX0_turnAll_63 rfl ?_
  refine X.rgfR fl_RX0_32 dX0_turnAll_64 e3 (fun v4 e4 => ?_)
  clear e3
  refine Ok.iload_n dX0_turnAll_67 rfl ?_
  refine X.rnn e4 (fun p5 q e5 => ?_)
  clear e4
  subst q
  refine X.iald dX0_turnAll_68 e5 (fun v6 e6 => ?_)
  clear e5
  refine X.rnn e6 (fun p7 q e7 => ?_)
  clear e6
  subst q
  refine X.rck e7 (fun c fs hb hc e8 => ?_)
  clear e7
  obtain rfl := List.mem_singleton.mp hc
  refine X.callV (My := mX7_chance) (n := 3) (As := [.int s1, .int v3, .int v6]) (T := (fun v => (some (.int v)))) (stk' := (fun v => [.int v])) (rest := []) (kc' := 0) (ks' := 0) dX0_turnAll_69 e8 (fun v h n e => k_X7_chance (d := d + 0) e) hb rfl wd499 wd81 wd497 wd498 wd925 (by decide +kernel) rfl (by decide) rfl rfl (Nat.le_of_ble_eq_true rfl) (Nat.le_of_ble_eq_true rfl) (Nat.le_of_ble_eq_true rfl) rfl rfl (fun _ => rfl) (fun r8 h9 n10 e9 => ?_)
  clear e8
  refine XL.istore dX0_turnAll_72 (by decide) (L := [some (.ref l0), some (.int l1), some (.int l2), some (.int l3), some (.int r8)]) rfl ?_
  refine Ok.iload_n dX0_turnAll_74 rfl ?_
  refine Ok.iload dX0_turnAll_75 rfl ?_
  refine X.icmp_ge (tgt := 100) dX0_turnAll_77 (by decide) e9 (fun e10 => ?_) (fun e10 => ?_)
  · clear e9
    exact Ok.weakL (k_X0_turnAll_100 (d := d) K2 e10) ⟨rfl, ⟨rfl, ⟨rfl, trivial⟩⟩⟩
  · clear e9
    refine Ok.aload_n dX0_turnAll_80 rfl ?_
    refine X.rgfR fl_RX0_47 dX0_turnAll_81 e10 (fun v11 e11 => ?_)
    clear e10
    refine Ok.iload_n dX0_turnAll_84 rfl ?_
    refine Ok.aload_n dX0_turnAll_85 rfl ?_
    refine X.rgfR fl_RX0_47 dX0_turnAll_86 e11 (fun v12 e12 => ?_)
    clear e11
    refine Ok.iload_n dX0_turnAll_89 rfl ?_
    refine X.rnn e12 (fun p13 q e13 => ?_)
    clear e12
    subst q
    refine X.zald dX0_turnAll_90 e13 (fun v14 e14 => ?_)
    clear e13
    refine X.if_ne (tgt := 98) dX0_turnAll_91 (by decide) e14 (fun e15 => ?_) (fun e15 => ?_)
    · clear e14
      refine Ok.iconstV (v := (nI 0)) dX0_turnAll_98 (by decide +kernel) ?_
      exact Ok.weakL (k_X0_turnAll_99 (d := d) K2 e15) ⟨rfl, ⟨rfl, ⟨rfl, trivial⟩⟩⟩
    · clear e14
      refine Ok.iconstV (v := (nI 1)) dX0_turnAll_94 (by decide +kernel) ?_
      refine Ok.goto (tgt := 99) dX0_turnAll_95 (by decide) ?_
      exact Ok.weakL (k_X0_turnAll_99 (d := d) K2 e15) ⟨rfl, ⟨rfl, ⟨rfl, trivial⟩⟩⟩
noncomputable def F_X0_turnAll_2 (G : Gx) : Nat → Hp → Nat → Nat → Int32 → Int32 → Rz Unit := fun n => Nat.rec (motive := fun _ => Hp → Nat → Nat → Int32 → Int32 → Rz Unit) (fun _ _ _ _ _ => none) (fun _ k2 => fun h nx l0 l1 l2 =>
gfI h l0 [0] 11 (fun v1 =>
if v1 ≤ l2 then
some ((), h, nx)
else
gfI h l0 [0] 16 (fun v2 =>
nm ((((((((((((l1 * (nI 31))) + ((v2 * (nI 17))))) + ((l2 * (nI 7))))) + (nI 13))) * (nI 7))) - ((((((((((l1 * (nI 31))) + ((v2 * (nI 17))))) + ((l2 * (nI 7))))) + (nI 13))) * (nI 7))) / (nI 1000) * (nI 1000))) (fun v3 =>
ck h l0 [0] (fun _ =>
cl (F_X0_sortAt G h nx l0 l2) (fun r4 h5 n6 =>
gfR h5 l0 [0] 10 (fun v7 =>
nn v7 (fun p8 =>
alI (g_c G 3) h5 p8 l2 (fun v9 =>
if v9 = 0 then
(F_X0_turnAll_57 G k2 h5 n6 r4 (nI 1) l0 l1 l2 v3)
else
(F_X0_turnAll_57 G k2 h5 n6 r4 (nI 0) l0 l1 l2 v3)))))))))) n
theorem F_X0_turnAll_2_0 {G : Gx} {h : Hp} {nx : Nat} {l0 : Nat} {l1 : Int32} {l2 : Int32} : F_X0_turnAll_2 G 0 h nx l0 l1 l2 = none := rfl
theorem F_X0_turnAll_2_s {G : Gx} {n : Nat} {h : Hp} {nx : Nat} {l0 : Nat} {l1 : Int32} {l2 : Int32} : F_X0_turnAll_2 G (n + 1) h nx l0 l1 l2 = (
gfI h l0 [0] 11 (fun v1 =>
if v1 ≤ l2 then
some ((), h, nx)
else
gfI h l0 [0] 16 (fun v2 =>
nm ((((((((((((l1 * (nI 31))) + ((v2 * (nI 17))))) + ((l2 * (nI 7))))) + (nI 13))) * (nI 7))) - ((((((((((l1 * (nI 31))) + ((v2 * (nI 17))))) + ((l2 * (nI 7))))) + (nI 13))) * (nI 7))) / (nI 1000) * (nI 1000))) (fun v3 =>
ck h l0 [0] (fun _ =>
cl (F_X0_sortAt G h nx l0 l2) (fun r4 h5 n6 =>
gfR h5 l0 [0] 10 (fun v7 =>
nn v7 (fun p8 =>
alI (g_c G 3) h5 p8 l2 (fun v9 =>
if v9 = 0 then
(F_X0_turnAll_57 G (F_X0_turnAll_2 G n) h5 n6 r4 (nI 1) l0 l1 l2 v3)
else
(F_X0_turnAll_57 G (F_X0_turnAll_2 G n) h5 n6 r4 (nI 0) l0 l1 l2 v3)))))))))) := rfl
set_option maxRecDepth 100000 in
set_option maxHeartbeats 4000000 in
theorem k_X0_turnAll_2 {G : Gx} {d : Nat} {v' : Unit} {h' : Hp} {n' : Nat} : ∀ (n : Nat) {h : Hp} {nx : Nat} {l0 : Nat} {l1 : Int32} {l2 : Int32}, F_X0_turnAll_2 G n h nx l0 l1 l2 = some (v', h', n') → Ok G mX0_turnAll (d + 2) (Same none h' n') 2 [some (.ref l0), some (.int l1), some (.int l2), none, none] [] h nx 0 0 := by
  intro n
  induction n with
  | zero =>
    intro h nx l0 l1 l2 e
    rw [F_X0_turnAll_2_0] at e
    cases e
  | succ n K2 =>
    intro h nx l0 l1 l2 e
    rw [F_X0_turnAll_2_s] at e
    refine Ok.iload_n dX0_turnAll_2 rfl ?_
    refine Ok.aload_n dX0_turnAll_3 rfl ?_
    refine X.rgfI fl_RX0_51 dX0_turnAll_4 e (fun v1 e1 => ?_)
    clear e
    refine X.icmp_ge (tgt := 106) dX0_turnAll_7 (by decide) e1 (fun e2 => ?_) (fun e2 => ?_)
    · clear e1
      exact X.vret dX0_turnAll_106 rfl (Nat.le_of_ble_eq_true rfl) (Nat.le_of_ble_eq_true rfl) e2
    · clear e1
      refine Ok.iload_n dX0_turnAll_10 rfl ?_
      refine Ok.bipushV (v := (nI 31)) dX0_turnAll_11 (by decide +kernel) ?_
      refine Ok.imul dX0_turnAll_13 ?_
      refine Ok.aload_n dX0_turnAll_14 rfl ?_
      refine X.rgfI fl_RX0_71 dX0_turnAll_15 e2 (fun v2 e3 => ?_)
      clear e2
      refine Ok.bipushV (v := (nI 17)) dX0_turnAll_18 (by decide +kernel) ?_
      refine Ok.imul dX0_turnAll_20 ?_
      refine Ok.iadd dX0_turnAll_21 ?_
      refine Ok.iload_n dX0_turnAll_22 rfl ?_
      refine Ok.bipushV (v := (nI 7)) dX0_turnAll_23 (by decide +kernel) ?_
      refine Ok.imul dX0_turnAll_25 ?_
      refine Ok.iadd dX0_turnAll_26 ?_
      refine Ok.bipushV (v := (nI 13)) dX0_turnAll_27 (by decide +kernel) ?_
      refine Ok.iadd dX0_turnAll_29 ?_
      refine Ok.bipushV (v := (nI 7)) dX0_turnAll_30 (by decide +kernel) ?_
      refine Ok.imul dX0_turnAll_32 ?_
      refine Ok.sipushV (v := (nI 1000)) dX0_turnAll_33 (by decide +kernel) ?_
      refine Ok.irem dX0_turnAll_36 (by decide +kernel) ?_
      refine X.istore_n dX0_turnAll_37 (by decide) e3 (L := fun v3 => [some (.ref l0), some (.int l1), some (.int l2), some (.int v3), none]) (fun _ => rfl) (fun v3 e4 => ?_)
      clear e3
      refine Ok.aload_n dX0_turnAll_38 rfl ?_
      refine Ok.iload_n dX0_turnAll_39 rfl ?_
      refine X.rck e4 (fun c fs hb hc e5 => ?_)
      clear e4
      obtain rfl := List.mem_singleton.mp hc
      refine X.callV (My := mX0_sortAt) (n := 1) (As := [.int l2]) (T := (fun v => (some (va_rf v)))) (stk' := (fun v => [va_rf v])) (rest := []) (kc' := 0) (ks' := 0) dX0_turnAll_40 e5 (fun v h n e => k_X0_sortAt (d := d + 1) e) hb rfl wd533 wd77 wd531 wd532 wd530 (by decide +kernel) rfl (by decide) rfl rfl (Nat.le_of_ble_eq_true rfl) (Nat.le_of_ble_eq_true rfl) (Nat.le_of_ble_eq_true rfl) rfl rfl (fun _ => rfl) (fun r4 h5 n6 e6 => ?_)
      clear e5
      refine Ok.aload_n dX0_turnAll_43 rfl ?_
      refine X.rgfR fl_RX0_47 dX0_turnAll_44 e6 (fun v7 e7 => ?_)
      clear e6
      refine Ok.iload_n dX0_turnAll_47 rfl ?_
      refine X.rnn e7 (fun p8 q e8 => ?_)
      clear e7
      subst q
      refine X.zald dX0_turnAll_48 e8 (fun v9 e9 => ?_)
      clear e8
      refine X.if_eq (tgt := 56) dX0_turnAll_49 (by decide) e9 (fun e10 => ?_) (fun e10 => ?_)
      · clear e9
        refine Ok.iconstV (v := (nI 1)) dX0_turnAll_56 (by decide +kernel) ?_
        exact Ok.weakL (k_X0_turnAll_57 (d := d) K2 e10) ⟨rfl, ⟨rfl, ⟨rfl, ⟨rfl, trivial⟩⟩⟩⟩
      · clear e9
        refine Ok.iconstV (v := (nI 0)) dX0_turnAll_52 (by decide +kernel) ?_
        refine Ok.goto (tgt := 57) dX0_turnAll_53 (by decide) ?_
        exact Ok.weakL (k_X0_turnAll_57 (d := d) K2 e10) ⟨rfl, ⟨rfl, ⟨rfl, ⟨rfl, trivial⟩⟩⟩⟩
noncomputable def F_X0_turnAll (G : Gx) (h : Hp) (nx : Nat) (a0 : Nat) (a1 : Int32) : Rz Unit :=
(F_X0_turnAll_2 G fuelL h nx a0 a1 (nI 0))
set_option maxRecDepth 100000 in
set_option maxHeartbeats 4000000 in
theorem k_X0_turnAll {G : Gx} {d : Nat} {h : Hp} {nx : Nat} {a0 : Nat} {a1 : Int32} {v' : Unit} {h' : Hp} {n' : Nat} (e : F_X0_turnAll G h nx a0 a1 = some (v', h', n')) : Ct G mX0_turnAll (d + 2) (Same none h' n') [.ref a0, .int a1] h nx := by
  unfold F_X0_turnAll at e
  refine Ct.of (ls := [some (.ref a0), some (.int a1), none, none, none]) (by decide +kernel) rfl (Nat.le_of_ble_eq_true rfl) rfl ?_
  refine Ok.iconstV (v := (nI 0)) dX0_turnAll_0 (by decide +kernel) ?_
  refine XL.istore_n dX0_turnAll_1 (by decide) (L := [some (.ref a0), some (.int a1), some (.int (nI 0)), none, none]) rfl ?_
  exact Ok.weakL (k_X0_turnAll_2 (d := d) fuelL e) ⟨rfl, ⟨rfl, ⟨rfl, trivial⟩⟩⟩
noncomputable def F_X0_wayOf_32 (G : Gx) (k4 : Hp → Nat → Nat → Int32 → Int32 → Int32 → Rz Int32) (h : Hp) (nx : Nat) (l0 : Nat) (l1 : Int32) (l2 : Int32) (l3 : Int32) : Rz Int32 :=
nm (l3 + (nI 1)) (fun v1 =>
(k4 h nx l0 l1 l2 v1))
set_option maxRecDepth 100000 in
set_option maxHeartbeats 4000000 in
theorem k_X0_wayOf_32 {G : Gx} {d : Nat} {v' : Int32} {h' : Hp} {n' : Nat} {k4 : Hp → Nat → Nat → Int32 → Int32 → Int32 → Rz Int32} (K4 : ∀ {h : Hp} {nx : Nat} {l0 : Nat} {l1 : Int32} {l2 : Int32} {l3 : Int32}, k4 h nx l0 l1 l2 l3 = some (v', h', n') → Ok G mX0_wayOf (d + 0) (Same (some (.int v')) h' n') 4 [some (.ref l0), some (.int l1), some (.int l2), some (.int l3)] [] h nx 0 0) {h : Hp} {nx : Nat} {l0 : Nat} {l1 : Int32} {l2 : Int32} {l3 : Int32} (e : F_X0_wayOf_32 G k4 h nx l0 l1 l2 l3 = some (v', h', n')) : Ok G mX0_wayOf (d + 0) (Same (some (.int v')) h' n') 32 [some (.ref l0), some (.int l1), some (.int l2), some (.int l3)] [] h nx 0 0 := by
  unfold F_X0_wayOf_32 at e
  refine X.iinc dX0_wayOf_32 rfl (by decide) (by decide +kernel) e (L := fun v1 => [some (.ref l0), some (.int l1), some (.int l2), some (.int v1)]) (fun _ => rfl) (fun v1 e1 => ?_)
  clear e
  refine Ok.goto (tgt := 4) dX0_wayOf_35 (by decide) ?_
  exact Ok.weakL (K4 e1) ⟨rfl, ⟨rfl, ⟨rfl, ⟨rfl, trivial⟩⟩⟩⟩
noncomputable def F_X0_wayOf_4 (G : Gx) : Nat → Hp → Nat → Nat → Int32 → Int32 → Int32 → Rz Int32 := fun n => Nat.rec (motive := fun _ => Hp → Nat → Nat → Int32 → Int32 → Int32 → Rz Int32) (fun _ _ _ _ _ _ => none) (fun _ k4 => fun h nx l0 l1 l2 l3 =>
gfI h l0 [0] 11 (fun v1 =>
if v1 ≤ l3 then
some ((((nI 2) * l2)), h, nx)
else
if ((((l1 >>> (l3 &&& 31))) &&& (nI 1))) = (nI 1) then
gfR h l0 [0] 5 (fun v2 =>
nn v2 (fun p3 =>
alI (g_c G 0) h p3 l3 (fun v4 =>
nm (mxI l2 v4) (fun v5 =>
(F_X0_wayOf_32 G k4 h nx l0 l1 v5 l3)))))
else
(F_X0_wayOf_32 G k4 h nx l0 l1 l2 l3))) n
theorem F_X0_wayOf_4_0 {G : Gx} {h : Hp} {nx : Nat} {l0 : Nat} {l1 : Int32} {l2 : Int32} {l3 : Int32} : F_X0_wayOf_4 G 0 h nx l0 l1 l2 l3 = none := rfl
theorem F_X0_wayOf_4_s {G : Gx} {n : Nat} {h : Hp} {nx : Nat} {l0 : Nat} {l1 : Int32} {l2 : Int32} {l3 : Int32} : F_X0_wayOf_4 G (n + 1) h nx l0 l1 l2 l3 = (
gfI h l0 [0] 11 (fun v1 =>
if v1 ≤ l3 then
some ((((nI 2) * l2)), h, nx)
else
if ((((l1 >>> (l3 &&& 31))) &&& (nI 1))) = (nI 1) then
gfR h l0 [0] 5 (fun v2 =>
nn v2 (fun p3 =>
alI (g_c G 0) h p3 l3 (fun v4 =>
nm (mxI l2 v4) (fun v5 =>
(F_X0_wayOf_32 G (F_X0_wayOf_4 G n) h nx l0 l1 v5 l3)))))
else
(F_X0_wayOf_32 G (F_X0_wayOf_4 G n) h nx l0 l1 l2 l3))) := rfl
set_option maxRecDepth 100000 in
set_option maxHeartbeats 4000000 in
theorem k_X0_wayOf_4 {G : Gx} {d : Nat} {v' : Int32} {h' : Hp} {n' : Nat} : ∀ (n : Nat) {h : Hp} {nx : Nat} {l0 : Nat} {l1 : Int32} {l2 : Int32} {l3 : Int32}, F_X0_wayOf_4 G n h nx l0 l1 l2 l3 = some (v', h', n') → Ok G mX0_wayOf (d + 0) (Same (some (.int v')) h' n') 4 [some (.ref l0), some (.int l1), some (.int l2), some (.int l3)] [] h nx 0 0 := by
  intro n
  induction n with
  | zero =>
    intro h nx l0 l1 l2 l3 e
    rw [F_X0_wayOf_4_0] at e
    cases e
  | succ n K4 =>
    intro h nx l0 l1 l2 l3 e
    rw [F_X0_wayOf_4_s] at e
    refine Ok.iload_n dX0_wayOf_4 rfl ?_
    refine Ok.aload_n dX0_wayOf_5 rfl ?_
    refine X.rgfI fl_RX0_51 dX0_wayOf_6 e (fun v1 e1 => ?_)
    clear e
    refine X.icmp_ge (tgt := 38) dX0_wayOf_9 (by decide) e1 (fun e2 => ?_) (fun e2 => ?_)
    · clear e1
      refine Ok.iconstV (v := (nI 2)) dX0_wayOf_38 (by decide +kernel) ?_
      refine Ok.iload_n dX0_wayOf_39 rfl ?_
      refine Ok.imul dX0_wayOf_40 ?_
      exact X.iret dX0_wayOf_41 rfl (Nat.le_of_ble_eq_true rfl) (Nat.le_of_ble_eq_true rfl) e2
    · clear e1
      refine Ok.iload_n dX0_wayOf_12 rfl ?_
      refine Ok.iload_n dX0_wayOf_13 rfl ?_
      refine Ok.ishr dX0_wayOf_14 ?_
      refine Ok.iconstV (v := (nI 1)) dX0_wayOf_15 (by decide +kernel) ?_
      refine Ok.iand dX0_wayOf_16 ?_
      refine Ok.iconstV (v := (nI 1)) dX0_wayOf_17 (by decide +kernel) ?_
      refine X.icmp_ne (tgt := 32) dX0_wayOf_18 (by decide) e2 (fun e3 => ?_) (fun e3 => ?_)
      · clear e2
        exact Ok.weakL (k_X0_wayOf_32 (d := d) K4 e3) ⟨rfl, ⟨rfl, ⟨rfl, ⟨rfl, trivial⟩⟩⟩⟩
      · clear e2
        refine Ok.iload_n dX0_wayOf_21 rfl ?_
        refine Ok.aload_n dX0_wayOf_22 rfl ?_
        refine X.rgfR fl_RX0_32 dX0_wayOf_23 e3 (fun v2 e4 => ?_)
        clear e3
        refine Ok.iload_n dX0_wayOf_26 rfl ?_
        refine X.rnn e4 (fun p3 q e5 => ?_)
        clear e4
        subst q
        refine X.iald dX0_wayOf_27 e5 (fun v4 e6 => ?_)
        clear e5
        refine Ok.mmaxI dX0_wayOf_28 wd954 wd455 wd83 wd456 (Nat.le_of_ble_eq_true rfl) (Nat.le_of_ble_eq_true rfl) (Nat.le_of_ble_eq_true rfl) ?_
        refine X.istore_n dX0_wayOf_31 (by decide) e6 (L := fun v5 => [some (.ref l0), some (.int l1), some (.int v5), some (.int l3)]) (fun _ => rfl) (fun v5 e7 => ?_)
        clear e6
        exact Ok.weakL (k_X0_wayOf_32 (d := d) K4 e7) ⟨rfl, ⟨rfl, ⟨rfl, ⟨rfl, trivial⟩⟩⟩⟩
noncomputable def F_X0_wayOf (G : Gx) (h : Hp) (nx : Nat) (a0 : Nat) (a1 : Int32) : Rz Int32 :=
(F_X0_wayOf_4 G fuelL h nx a0 a1 (nI 0) (nI 0))
set_option maxRecDepth 100000 in
set_option maxHeartbeats 4000000 in
theorem k_X0_wayOf {G : Gx} {d : Nat} {h : Hp} {nx : Nat} {a0 : Nat} {a1 : Int32} {v' : Int32} {h' : Hp} {n' : Nat} (e : F_X0_wayOf G h nx a0 a1 = some (v', h', n')) : Ct G mX0_wayOf (d + 0) (Same (some (.int v')) h' n') [.ref a0, .int a1] h nx := by
  unfold F_X0_wayOf at e
  refine Ct.of (ls := [some (.ref a0), some (.int a1), none, none]) (by decide +kernel) rfl (Nat.le_of_ble_eq_true rfl) rfl ?_
  refine Ok.iconstV (v := (nI 0)) dX0_wayOf_0 (by decide +kernel) ?_
  refine XL.istore_n dX0_wayOf_1 (by decide) (L := [some (.ref a0), some (.int a1), some (.int (nI 0)), none]) rfl ?_
  refine Ok.iconstV (v := (nI 0)) dX0_wayOf_2 (by decide +kernel) ?_
  refine XL.istore_n dX0_wayOf_3 (by decide) (L := [some (.ref a0), some (.int a1), some (.int (nI 0)), some (.int (nI 0))]) rfl ?_
  exact Ok.weakL (k_X0_wayOf_4 (d := d) fuelL e) ⟨rfl, ⟨rfl, ⟨rfl, ⟨rfl, trivial⟩⟩⟩⟩
noncomputable def F_X6_init (G : Gx) (h : Hp) (nx : Nat) (a0 : Nat) (a1 : Int32) (a2 : Int32) : Rz Unit :=
pfV h a0 [1, 2, 3, 4, 6, 8, 10] 0 (.int a1) (fun h1 =>
pfV h1 a0 [1, 2, 3, 4, 6, 8, 10] 1 (.int a2) (fun h2 =>
some ((), h2, nx)))
set_option maxRecDepth 100000 in
set_option maxHeartbeats 4000000 in
theorem k_X6_init {G : Gx} {d : Nat} {h : Hp} {nx : Nat} {a0 : Nat} {a1 : Int32} {a2 : Int32} {v' : Unit} {h' : Hp} {n' : Nat} (e : F_X6_init G h nx a0 a1 a2 = some (v', h', n')) : Ct G mX6_init (d + 0) (Same none h' n') [.ref a0, .int a1, .int a2] h nx := by
  unfold F_X6_init at e
  refine Ct.of (ls := [some (.ref a0), some (.int a1), some (.int a2)]) (by decide +kernel) rfl (Nat.le_of_ble_eq_true rfl) rfl ?_
  refine Ok.aload_n dX6_init_0 rfl ?_
  refine Ok.objInit dX6_init_1 wd632 wo_1 wo_2 (Nat.le_of_ble_eq_true rfl) ?_
  refine Ok.aload_n dX6_init_4 rfl ?_
  refine Ok.iload_n dX6_init_5 rfl ?_
  refine X.pfF (v := (.int a1)) fp_RX6_9 rfl rfl rfl dX6_init_6 e (fun h1 e1 => ?_)
  clear e
  refine Ok.aload_n dX6_init_9 rfl ?_
  refine Ok.iload_n dX6_init_10 rfl ?_
  refine X.pfF (v := (.int a2)) fp_RX6_15 rfl rfl rfl dX6_init_11 e1 (fun h2 e2 => ?_)
  clear e1
  exact X.vret dX6_init_14 rfl (Nat.le_of_ble_eq_true rfl) (Nat.le_of_ble_eq_true rfl) e2
noncomputable def F_X10_init (G : Gx) (h : Hp) (nx : Nat) (a0 : Nat) (a1 : Int32) (a2 : Int32) : Rz Unit :=
cl (F_X6_init G h nx a0 a1 a2) (fun _ h2 n3 =>
some ((), h2, n3))
set_option maxRecDepth 100000 in
set_option maxHeartbeats 4000000 in
theorem k_X10_init {G : Gx} {d : Nat} {h : Hp} {nx : Nat} {a0 : Nat} {a1 : Int32} {a2 : Int32} {v' : Unit} {h' : Hp} {n' : Nat} (e : F_X10_init G h nx a0 a1 a2 = some (v', h', n')) : Ct G mX10_init (d + 1) (Same none h' n') [.ref a0, .int a1, .int a2] h nx := by
  unfold F_X10_init at e
  refine Ct.of (ls := [some (.ref a0), some (.int a1), some (.int a2)]) (by decide +kernel) rfl (Nat.le_of_ble_eq_true rfl) rfl ?_
  refine Ok.aload_n dX10_init_0 rfl ?_
  refine Ok.iload_n dX10_init_1 rfl ?_
  refine Ok.iload_n dX10_init_2 rfl ?_
  refine X.callI (My := mX6_init) (n := 2) (As := [.int a1, .int a2]) (T := (fun v => none)) (stk' := (fun _ => [])) (rest := []) (kc' := 0) (ks' := 0) dX10_init_3 e (fun v h n e => k_X6_init (d := d + 0) e) rfl wd631 wd89 wd630 rfl wd658 (by decide +kernel) rfl (by decide) rfl rfl (Nat.le_of_ble_eq_true rfl) (Nat.le_of_ble_eq_true rfl) (Nat.le_of_ble_eq_true rfl) rfl rfl (fun _ => rfl) (fun _ h2 n3 e1 => ?_)
  clear e
  exact X.vret dX10_init_6 rfl (Nat.le_of_ble_eq_true rfl) (Nat.le_of_ble_eq_true rfl) e1
noncomputable def F_X1_init (G : Gx) (h : Hp) (nx : Nat) (a0 : Nat) (a1 : Int32) (a2 : Int32) : Rz Unit :=
cl (F_X10_init G h nx a0 a1 a2) (fun _ h2 n3 =>
some ((), h2, n3))
set_option maxRecDepth 100000 in
set_option maxHeartbeats 4000000 in
theorem k_X1_init {G : Gx} {d : Nat} {h : Hp} {nx : Nat} {a0 : Nat} {a1 : Int32} {a2 : Int32} {v' : Unit} {h' : Hp} {n' : Nat} (e : F_X1_init G h nx a0 a1 a2 = some (v', h', n')) : Ct G mX1_init (d + 2) (Same none h' n') [.ref a0, .int a1, .int a2] h nx := by
  unfold F_X1_init at e
  refine Ct.of (ls := [some (.ref a0), some (.int a1), some (.int a2)]) (by decide +kernel) rfl (Nat.le_of_ble_eq_true rfl) rfl ?_
  refine Ok.aload_n dX1_init_0 rfl ?_
  refine Ok.iload_n dX1_init_1 rfl ?_
  refine Ok.iload_n dX1_init_2 rfl ?_
  refine X.callI (My := mX10_init) (n := 2) (As := [.int a1, .int a2]) (T := (fun v => none)) (stk' := (fun _ => [])) (rest := []) (kc' := 0) (ks' := 0) dX1_init_3 e (fun v h n e => k_X10_init (d := d + 0) e) rfl wd657 wd91 wd656 rfl wd676 (by decide +kernel) rfl (by decide) rfl rfl (Nat.le_of_ble_eq_true rfl) (Nat.le_of_ble_eq_true rfl) (Nat.le_of_ble_eq_true rfl) rfl rfl (fun _ => rfl) (fun _ h2 n3 e1 => ?_)
  clear e
  exact X.vret dX1_init_6 rfl (Nat.le_of_ble_eq_true rfl) (Nat.le_of_ble_eq_true rfl) e1
noncomputable def F_X1_beginning (G : Gx) (h : Hp) (nx : Nat) (a0 : Nat) (a1 : Int32) (a2 : Int32) : Rz Int32 :=
gfI h a0 [1] 1 (fun v1 =>
some (((((((a2 * (nI 31))) + ((v1 * (nI 17))))) - ((((a2 * (nI 31))) + ((v1 * (nI 17))))) / (nI 97) * (nI 97))), h, nx))
set_option maxRecDepth 100000 in
set_option maxHeartbeats 4000000 in
theorem k_X1_beginning {G : Gx} {d : Nat} {h : Hp} {nx : Nat} {a0 : Nat} {a1 : Int32} {a2 : Int32} {v' : Int32} {h' : Hp} {n' : Nat} (e : F_X1_beginning G h nx a0 a1 a2 = some (v', h', n')) : Ct G mX1_beginning (d + 0) (Same (some (.int v')) h' n') [.ref a0, .int a1, .int a2] h nx := by
  unfold F_X1_beginning at e
  refine Ct.of (ls := [some (.ref a0), some (.int a1), some (.int a2)]) (by decide +kernel) rfl (Nat.le_of_ble_eq_true rfl) rfl ?_
  refine Ok.iload_n dX1_beginning_0 rfl ?_
  refine Ok.bipushV (v := (nI 31)) dX1_beginning_1 (by decide +kernel) ?_
  refine Ok.imul dX1_beginning_3 ?_
  refine Ok.aload_n dX1_beginning_4 rfl ?_
  refine X.rgfI fl_RX1_7 dX1_beginning_5 e (fun v1 e1 => ?_)
  clear e
  refine Ok.bipushV (v := (nI 17)) dX1_beginning_8 (by decide +kernel) ?_
  refine Ok.imul dX1_beginning_10 ?_
  refine Ok.iadd dX1_beginning_11 ?_
  refine Ok.bipushV (v := (nI 97)) dX1_beginning_12 (by decide +kernel) ?_
  refine Ok.irem dX1_beginning_14 (by decide +kernel) ?_
  exact X.iret dX1_beginning_15 rfl (Nat.le_of_ble_eq_true rfl) (Nat.le_of_ble_eq_true rfl) e1
noncomputable def F_X6_began_21 (G : Gx) (h : Hp) (nx : Nat) : Rz Unit :=
some ((), h, nx)
set_option maxRecDepth 100000 in
set_option maxHeartbeats 4000000 in
theorem k_X6_began_21 {G : Gx} {d : Nat} {v' : Unit} {h' : Hp} {n' : Nat} {h : Hp} {nx : Nat} (e : F_X6_began_21 G h nx = some (v', h', n')) : Ok G mX6_began (d + 0) (Same none h' n') 21 [none, none] [] h nx 0 0 := by
  unfold F_X6_began_21 at e
  exact X.vret dX6_began_21 rfl (Nat.le_of_ble_eq_true rfl) (Nat.le_of_ble_eq_true rfl) e
noncomputable def F_X6_began (G : Gx) (h : Hp) (nx : Nat) (a0 : Nat) (a1 : Int32) : Rz Unit :=
alI (g_c G 0) h a0 (nI 0) (fun v1 =>
asI (g_c G 0) id h a0 (nI 0) ((v1 + (nI 1))) (fun h2 =>
alI (g_c G 0) h2 a0 (nI 0) (fun v3 =>
if (nI 20) < v3 then
(F_X6_began_21 G h2 nx)
else
alI (g_c G 0) h2 a0 (nI 0) (fun v4 =>
asI (g_c G 0) id h2 a0 v4 a1 (fun h5 =>
(F_X6_began_21 G h5 nx))))))
set_option maxRecDepth 100000 in
set_option maxHeartbeats 4000000 in
theorem k_X6_began {G : Gx} {d : Nat} {h : Hp} {nx : Nat} {a0 : Nat} {a1 : Int32} {v' : Unit} {h' : Hp} {n' : Nat} (e : F_X6_began G h nx a0 a1 = some (v', h', n')) : Ct G mX6_began (d + 0) (Same none h' n') [.ref a0, .int a1] h nx := by
  unfold F_X6_began at e
  refine Ct.of (ls := [some (.ref a0), some (.int a1)]) (by decide +kernel) rfl (Nat.le_of_ble_eq_true rfl) rfl ?_
  refine Ok.aload_n dX6_began_0 rfl ?_
  refine Ok.iconstV (v := (nI 0)) dX6_began_1 (by decide +kernel) ?_
  refine Ok.dup2 dX6_began_2 rfl rfl ?_
  refine X.iald dX6_began_3 e (fun v1 e1 => ?_)
  clear e
  refine Ok.iconstV (v := (nI 1)) dX6_began_4 (by decide +kernel) ?_
  refine Ok.iadd dX6_began_5 ?_
  refine X.iast dX6_began_6 e1 (fun h2 e2 => ?_)
  clear e1
  refine Ok.aload_n dX6_began_7 rfl ?_
  refine Ok.iconstV (v := (nI 0)) dX6_began_8 (by decide +kernel) ?_
  refine X.iald dX6_began_9 e2 (fun v3 e3 => ?_)
  clear e2
  refine Ok.bipushV (v := (nI 20)) dX6_began_10 (by decide +kernel) ?_
  refine X.icmp_gt (tgt := 21) dX6_began_12 (by decide) e3 (fun e4 => ?_) (fun e4 => ?_)
  · clear e3
    exact Ok.weakL (k_X6_began_21 (d := d) e4) trivial
  · clear e3
    refine Ok.aload_n dX6_began_15 rfl ?_
    refine Ok.aload_n dX6_began_16 rfl ?_
    refine Ok.iconstV (v := (nI 0)) dX6_began_17 (by decide +kernel) ?_
    refine X.iald dX6_began_18 e4 (fun v4 e5 => ?_)
    clear e4
    refine Ok.iload_n dX6_began_19 rfl ?_
    refine X.iast dX6_began_20 e5 (fun h5 e6 => ?_)
    clear e5
    exact Ok.weakL (k_X6_began_21 (d := d) e6) trivial
noncomputable def F_X6_means (G : Gx) (h : Hp) (nx : Nat) (a0 : Nat) (a1 : Int32) (a2 : Nat) : Rz Int32 :=
cl (F_X6_began G h nx a2 (nI 1)) (fun _ h2 n3 =>
gfI h2 a0 [1, 2, 3, 4, 6, 8, 10] 0 (fun v4 =>
some (((a1 + v4)), h2, n3)))
set_option maxRecDepth 100000 in
set_option maxHeartbeats 4000000 in
theorem k_X6_means {G : Gx} {d : Nat} {h : Hp} {nx : Nat} {a0 : Nat} {a1 : Int32} {a2 : Nat} {v' : Int32} {h' : Hp} {n' : Nat} (e : F_X6_means G h nx a0 a1 a2 = some (v', h', n')) : Ct G mX6_means (d + 1) (Same (some (.int v')) h' n') [.ref a0, .int a1, .ref a2] h nx := by
  unfold F_X6_means at e
  refine Ct.of (ls := [some (.ref a0), some (.int a1), some (.ref a2)]) (by decide +kernel) rfl (Nat.le_of_ble_eq_true rfl) rfl ?_
  refine Ok.aload_n dX6_means_0 rfl ?_
  refine Ok.iconstV (v := (nI 1)) dX6_means_1 (by decide +kernel) ?_
  refine X.callS (My := mX6_began) (n := 2) (As := [.ref a2, .int (nI 1)]) (T := (fun v => none)) (stk' := (fun _ => [])) (rest := []) (kc' := 0) (ks' := 0) dX6_means_2 e (fun v h n e => k_X6_began (d := d + 0) e) wd986 wd89 wd985 wd996 (by decide +kernel) rfl (by decide) rfl rfl (Nat.le_of_ble_eq_true rfl) (Nat.le_of_ble_eq_true rfl) (Nat.le_of_ble_eq_true rfl) rfl rfl (fun _ => rfl) (fun _ h2 n3 e1 => ?_)
  clear e
  refine Ok.iload_n dX6_means_5 rfl ?_
  refine Ok.aload_n dX6_means_6 rfl ?_
  refine X.rgfI fl_RX6_9 dX6_means_7 e1 (fun v4 e2 => ?_)
  clear e1
  refine Ok.iadd dX6_means_10 ?_
  exact X.iret dX6_means_11 rfl (Nat.le_of_ble_eq_true rfl) (Nat.le_of_ble_eq_true rfl) e2
noncomputable def F_X4_means (G : Gx) (h : Hp) (nx : Nat) (a0 : Nat) (a1 : Int32) (a2 : Nat) : Rz Int32 :=
cl (F_X6_began G h nx a2 (nI 11)) (fun _ h2 n3 =>
ck h2 a0 [4] (fun _ =>
cl (F_X6_means G h2 n3 a0 ((a1 * (nI 3))) a2) (fun r4 h5 n6 =>
some (r4, h5, n6))))
set_option maxRecDepth 100000 in
set_option maxHeartbeats 4000000 in
theorem k_X4_means {G : Gx} {d : Nat} {h : Hp} {nx : Nat} {a0 : Nat} {a1 : Int32} {a2 : Nat} {v' : Int32} {h' : Hp} {n' : Nat} (e : F_X4_means G h nx a0 a1 a2 = some (v', h', n')) : Ct G mX4_means (d + 2) (Same (some (.int v')) h' n') [.ref a0, .int a1, .ref a2] h nx := by
  unfold F_X4_means at e
  refine Ct.of (ls := [some (.ref a0), some (.int a1), some (.ref a2)]) (by decide +kernel) rfl (Nat.le_of_ble_eq_true rfl) rfl ?_
  refine Ok.aload_n dX4_means_0 rfl ?_
  refine Ok.bipushV (v := (nI 11)) dX4_means_1 (by decide +kernel) ?_
  refine X.callSI (x := ⟨"GateWatch$Numbered", "began", "([II)V"⟩) (owner := RX6) (My := mX6_began) (n := 2) (As := [.ref a2, .int (nI 11)]) (T := (fun v => none)) (stk' := (fun _ => [])) (rest := []) (kc' := 0) (ks' := 0) dX4_means_3 e (fun v h n e => k_X6_began (d := d + 1) e) wd986 wd89 wd985 wd983 wd984 rfl (by decide +kernel) rfl (by decide) rfl rfl (Nat.le_of_ble_eq_true rfl) (Nat.le_of_ble_eq_true rfl) (Nat.le_of_ble_eq_true rfl) rfl rfl (fun _ => rfl) (fun _ h2 n3 e1 => ?_)
  clear e
  refine Ok.aload_n dX4_means_6 rfl ?_
  refine Ok.iload_n dX4_means_7 rfl ?_
  refine Ok.iconstV (v := (nI 3)) dX4_means_8 (by decide +kernel) ?_
  refine Ok.imul dX4_means_9 ?_
  refine Ok.aload_n dX4_means_10 rfl ?_
  refine X.rck e1 (fun c fs hb hc e2 => ?_)
  clear e1
  obtain ⟨r0, hcl⟩ := vw_at hc (by decide)
  refine X.callSU (My := mX6_means) (n := 2) (As := [.int ((a1 * (nI 3))), .ref a2]) (T := (fun v => (some (.int v)))) (stk' := (fun v => [.int v])) (rest := []) (kc' := 0) (ks' := 0) dX4_means_11 e2 (fun v h n e => k_X6_means (d := d + 0) e) hb hcl wd995 wd89 wd974 wd987 wd976 wd652 (by decide) rfl (by decide) rfl rfl (Nat.le_of_ble_eq_true rfl) (Nat.le_of_ble_eq_true rfl) (Nat.le_of_ble_eq_true rfl) rfl rfl (fun _ => rfl) (fun r4 h5 n6 e3 => ?_)
  clear e2
  exact X.iret dX4_means_14 rfl (Nat.le_of_ble_eq_true rfl) (Nat.le_of_ble_eq_true rfl) e3
noncomputable def F_X8_means (G : Gx) (h : Hp) (nx : Nat) (a0 : Nat) (a1 : Int32) (a2 : Nat) : Rz Int32 :=
cl (F_X6_began G h nx a2 (nI 61)) (fun _ h2 n3 =>
ck h2 a0 [8] (fun _ =>
cl (F_X6_means G h2 n3 a0 a1 a2) (fun r4 h5 n6 =>
gfI h5 a0 [8] 1 (fun v7 =>
some (((r4 + v7)), h5, n6)))))
set_option maxRecDepth 100000 in
set_option maxHeartbeats 4000000 in
theorem k_X8_means {G : Gx} {d : Nat} {h : Hp} {nx : Nat} {a0 : Nat} {a1 : Int32} {a2 : Nat} {v' : Int32} {h' : Hp} {n' : Nat} (e : F_X8_means G h nx a0 a1 a2 = some (v', h', n')) : Ct G mX8_means (d + 2) (Same (some (.int v')) h' n') [.ref a0, .int a1, .ref a2] h nx := by
  unfold F_X8_means at e
  refine Ct.of (ls := [some (.ref a0), some (.int a1), some (.ref a2)]) (by decide +kernel) rfl (Nat.le_of_ble_eq_true rfl) rfl ?_
  refine Ok.aload_n dX8_means_0 rfl ?_
  refine Ok.bipushV (v := (nI 61)) dX8_means_1 (by decide +kernel) ?_
  refine X.callSI (x := ⟨"GateWatch$Told", "began", "([II)V"⟩) (owner := RX6) (My := mX6_began) (n := 2) (As := [.ref a2, .int (nI 61)]) (T := (fun v => none)) (stk' := (fun _ => [])) (rest := []) (kc' := 0) (ks' := 0) dX8_means_3 e (fun v h n e => k_X6_began (d := d + 1) e) wd986 wd89 wd985 wd991 wd992 rfl (by decide +kernel) rfl (by decide) rfl rfl (Nat.le_of_ble_eq_true rfl) (Nat.le_of_ble_eq_true rfl) (Nat.le_of_ble_eq_true rfl) rfl rfl (fun _ => rfl) (fun _ h2 n3 e1 => ?_)
  clear e
  refine Ok.aload_n dX8_means_6 rfl ?_
  refine Ok.iload_n dX8_means_7 rfl ?_
  refine Ok.aload_n dX8_means_8 rfl ?_
  refine X.rck e1 (fun c fs hb hc e2 => ?_)
  clear e1
  obtain ⟨r0, hcl⟩ := vw_at hc (by decide)
  refine X.callSU (My := mX6_means) (n := 2) (As := [.int a1, .ref a2]) (T := (fun v => (some (.int v)))) (stk' := (fun v => [.int v])) (rest := []) (kc' := 0) (ks' := 0) dX8_means_9 e2 (fun v h n e => k_X6_means (d := d + 0) e) hb hcl wd995 wd89 wd974 wd993 wd976 wd697 (by decide) rfl (by decide) rfl rfl (Nat.le_of_ble_eq_true rfl) (Nat.le_of_ble_eq_true rfl) (Nat.le_of_ble_eq_true rfl) rfl rfl (fun _ => rfl) (fun r4 h5 n6 e3 => ?_)
  clear e2
  refine Ok.aload_n dX8_means_12 rfl ?_
  refine X.rgfI fl_RX8_49 dX8_means_13 e3 (fun v7 e4 => ?_)
  clear e3
  refine Ok.iadd dX8_means_16 ?_
  exact X.iret dX8_means_17 rfl (Nat.le_of_ble_eq_true rfl) (Nat.le_of_ble_eq_true rfl) e4
noncomputable def F_X6_rows (G : Gx) (h : Hp) (nx : Nat) (a0 : Nat) (a1 : Int32) (a2 : Nat) : Rz Int32 :=
cl (F_X6_began G h nx a2 (nI 2)) (fun _ h2 n3 =>
cl (ck h2 a0 [1, 2, 3, 4, 6, 8, 10] (fun c => match c with
| 1 => F_X6_means G h2 n3 a0 a1 a2
| 2 => F_X6_means G h2 n3 a0 a1 a2
| 3 => F_X6_means G h2 n3 a0 a1 a2
| 4 => F_X4_means G h2 n3 a0 a1 a2
| 6 => F_X6_means G h2 n3 a0 a1 a2
| 8 => F_X8_means G h2 n3 a0 a1 a2
| 10 => F_X6_means G h2 n3 a0 a1 a2
| _ => none)) (fun r4 h5 n6 =>
gfI h5 a0 [1, 2, 3, 4, 6, 8, 10] 1 (fun v7 =>
some (((r4 - v7)), h5, n6))))
set_option maxRecDepth 100000 in
set_option maxHeartbeats 4000000 in
theorem k_X6_rows {G : Gx} {d : Nat} {h : Hp} {nx : Nat} {a0 : Nat} {a1 : Int32} {a2 : Nat} {v' : Int32} {h' : Hp} {n' : Nat} (e : F_X6_rows G h nx a0 a1 a2 = some (v', h', n')) : Ct G mX6_rows (d + 3) (Same (some (.int v')) h' n') [.ref a0, .int a1, .ref a2] h nx := by
  unfold F_X6_rows at e
  refine Ct.of (ls := [some (.ref a0), some (.int a1), some (.ref a2)]) (by decide +kernel) rfl (Nat.le_of_ble_eq_true rfl) rfl ?_
  refine Ok.aload_n dX6_rows_0 rfl ?_
  refine Ok.iconstV (v := (nI 2)) dX6_rows_1 (by decide +kernel) ?_
  refine X.callS (My := mX6_began) (n := 2) (As := [.ref a2, .int (nI 2)]) (T := (fun v => none)) (stk' := (fun _ => [])) (rest := []) (kc' := 0) (ks' := 0) dX6_rows_2 e (fun v h n e => k_X6_began (d := d + 2) e) wd986 wd89 wd985 wd996 (by decide +kernel) rfl (by decide) rfl rfl (Nat.le_of_ble_eq_true rfl) (Nat.le_of_ble_eq_true rfl) (Nat.le_of_ble_eq_true rfl) rfl rfl (fun _ => rfl) (fun _ h2 n3 e1 => ?_)
  clear e
  refine Ok.aload_n dX6_rows_5 rfl ?_
  refine Ok.iload_n dX6_rows_6 rfl ?_
  refine Ok.aload_n dX6_rows_7 rfl ?_
  refine X.callC (n := 2) (As := [.int a1, .ref a2]) (T := (fun v => (some (.int v)))) (stk' := (fun v => [.int v])) (rest := []) dX6_rows_8 (Nat.le_of_ble_eq_true rfl) e1 (fun c hc => ?_) rfl rfl (Nat.le_of_ble_eq_true rfl) (Nat.le_of_ble_eq_true rfl) (fun _ => rfl) (fun r4 h5 n6 e2 => ?_)
  · simp only [List.mem_cons, List.not_mem_nil, or_false] at hc
    rcases hc with rfl | rfl | rfl | rfl | rfl | rfl | rfl
    · exact ⟨mX6_means, vu_RX6_45_1, fun v h n e2 => k_X6_means (d := d + 1) e2⟩
    · exact ⟨mX6_means, vu_RX6_45_2, fun v h n e2 => k_X6_means (d := d + 1) e2⟩
    · exact ⟨mX6_means, vu_RX6_45_3, fun v h n e2 => k_X6_means (d := d + 1) e2⟩
    · exact ⟨mX4_means, vu_RX6_45_4, fun v h n e2 => k_X4_means (d := d + 0) e2⟩
    · exact ⟨mX6_means, vu_RX6_45_6, fun v h n e2 => k_X6_means (d := d + 1) e2⟩
    · exact ⟨mX8_means, vu_RX6_45_8, fun v h n e2 => k_X8_means (d := d + 0) e2⟩
    · exact ⟨mX6_means, vu_RX6_45_10, fun v h n e2 => k_X6_means (d := d + 1) e2⟩
  clear e1
  refine Ok.aload_n dX6_rows_11 rfl ?_
  refine X.rgfI fl_RX6_15 dX6_rows_12 e2 (fun v7 e3 => ?_)
  clear e2
  refine Ok.isub dX6_rows_15 ?_
  exact X.iret dX6_rows_16 rfl (Nat.le_of_ble_eq_true rfl) (Nat.le_of_ble_eq_true rfl) e3
