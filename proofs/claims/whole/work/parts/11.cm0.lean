noncomputable def F_X12_init (G : Gx) (h : Hp) (nx : Nat) (a0 : Nat) : Rz Unit :=
nwI G (g_c G 0) h nx (nI 1240) 1240 (fun p1 h2 n3 =>
pfV h2 a0 [12] 1 (va_rf (some p1)) (fun h4 =>
nwI G (g_c G 0) h4 n3 (nI 1240) 1240 (fun p5 h6 n7 =>
pfV h6 a0 [12] 2 (va_rf (some p5)) (fun h8 =>
nwI G (g_c G 3) h8 n7 (nI 64) 64 (fun p9 h10 n11 =>
pfV h10 a0 [12] 9 (va_rf (some p9)) (fun h12 =>
pfV h12 a0 [12] 10 (.int (-1 : Int32)) (fun h13 =>
nwI G (g_c G 0) h13 n11 (nI 27) 27 (fun p14 h15 n16 =>
pfV h15 a0 [12] 12 (va_rf (some p14)) (fun h17 =>
nwI G (g_c G 0) h17 n16 (nI 27) 27 (fun p18 h19 n20 =>
pfV h19 a0 [12] 13 (va_rf (some p18)) (fun h21 =>
nwJ G (g_c G 1) h21 n20 (nI 243) 243 (fun p22 h23 n24 =>
pfV h23 a0 [12] 14 (va_rf (some p22)) (fun h25 =>
nwJ G (g_c G 1) h25 n24 (nI 243) 243 (fun p26 h27 n28 =>
pfV h27 a0 [12] 15 (va_rf (some p26)) (fun h29 =>
nwJ G (g_c G 1) h29 n28 (nI 243) 243 (fun p30 h31 n32 =>
pfV h31 a0 [12] 16 (va_rf (some p30)) (fun h33 =>
nwI G (g_c G 0) h33 n32 (nI 243) 243 (fun p34 h35 n36 =>
pfV h35 a0 [12] 17 (va_rf (some p34)) (fun h37 =>
nwI G (g_c G 0) h37 n36 (nI 8) 8 (fun p38 h39 n40 =>
pfV h39 a0 [12] 21 (va_rf (some p38)) (fun h41 =>
nwI G (g_c G 0) h41 n40 (nI 32) 32 (fun p42 h43 n44 =>
pfV h43 a0 [12] 22 (va_rf (some p42)) (fun h45 =>
nwI G (g_c G 0) h45 n44 (nI 32) 32 (fun p46 h47 n48 =>
pfV h47 a0 [12] 23 (va_rf (some p46)) (fun h49 =>
nwI G (g_c G 0) h49 n48 (nI 3) 3 (fun p50 h51 n52 =>
pfV h51 a0 [12] 24 (va_rf (some p50)) (fun h53 =>
nwJ G (g_c G 1) h53 n52 (nI 201) 201 (fun p54 h55 n56 =>
pfV h55 a0 [12] 27 (va_rf (some p54)) (fun h57 =>
nwI G (g_c G 0) h57 n56 (nI 3) 3 (fun p58 h59 n60 =>
pfV h59 a0 [12] 28 (va_rf (some p58)) (fun h61 =>
nwI G (g_c G 0) h61 n60 (nI 20) 20 (fun p62 h63 n64 =>
pfV h63 a0 [12] 29 (va_rf (some p62)) (fun h65 =>
gfR h65 a0 [12] 1 (fun v66 =>
nn v66 (fun p67 =>
asI (g_c G 0) id h65 p67 (nI 4) (nI 1) (fun h68 =>
some ((), h68, n64)))))))))))))))))))))))))))))))))))))
set_option maxRecDepth 100000 in
set_option maxHeartbeats 4000000 in
theorem k_X12_init {G : Gx} {d : Nat} {h : Hp} {nx : Nat} {a0 : Nat} {v' : Unit} {h' : Hp} {n' : Nat} (e : F_X12_init G h nx a0 = some (v', h', n')) : Ct G mX12_init (d + 0) (Same none h' n') [.ref a0] h nx := by
  unfold F_X12_init at e
  refine Ct.of (ls := [some (.ref a0)]) (by decide +kernel) rfl (Nat.le_of_ble_eq_true rfl) rfl ?_
  refine Ok.aload_n dX12_init_0 rfl ?_
  refine Ok.objInit dX12_init_1 wd1087 wo_1 wo_2 (Nat.le_of_ble_eq_true rfl) ?_
  refine Ok.aload_n dX12_init_4 rfl ?_
  refine Ok.sipushV (v := (nI 1240)) dX12_init_5 (by decide +kernel) ?_
  refine X.rnwI dX12_init_8 wd203 (by decide +kernel) (Nat.le_of_ble_eq_true rfl) (Nat.le_of_ble_eq_true rfl) e (fun p1 h2 n3 e1 => ?_)
  clear e
  refine Ok.mono (kc' := 1) (ks' := 1240) ?_ (by decide) (by decide)
  refine X.pfF (v := (va_rf (some p1))) fp_RX12_9 rfl (nar_q (Or.inr ⟨_, rfl⟩) (some p1)) (fits_q (Or.inr ⟨_, rfl⟩) (some p1)) dX12_init_10 e1 (fun h4 e2 => ?_)
  clear e1
  refine Ok.aload_n dX12_init_13 rfl ?_
  refine Ok.sipushV (v := (nI 1240)) dX12_init_14 (by decide +kernel) ?_
  refine X.rnwI dX12_init_17 wd203 (by decide +kernel) (Nat.le_of_ble_eq_true rfl) (Nat.le_of_ble_eq_true rfl) e2 (fun p5 h6 n7 e3 => ?_)
  clear e2
  refine Ok.mono (kc' := 2) (ks' := 2480) ?_ (by decide) (by decide)
  refine X.pfF (v := (va_rf (some p5))) fp_RX12_15 rfl (nar_q (Or.inr ⟨_, rfl⟩) (some p5)) (fits_q (Or.inr ⟨_, rfl⟩) (some p5)) dX12_init_19 e3 (fun h8 e4 => ?_)
  clear e3
  refine Ok.aload_n dX12_init_22 rfl ?_
  refine Ok.bipushV (v := (nI 64)) dX12_init_23 (by decide +kernel) ?_
  refine X.nwZ dX12_init_25 wd204 (by decide +kernel) (Nat.le_of_ble_eq_true rfl) (Nat.le_of_ble_eq_true rfl) e4 (fun p9 h10 n11 e5 => ?_)
  clear e4
  refine Ok.mono (kc' := 3) (ks' := 2544) ?_ (by decide) (by decide)
  refine X.pfF (v := (va_rf (some p9))) fp_RX12_18 rfl (nar_q (Or.inr ⟨_, rfl⟩) (some p9)) (fits_q (Or.inr ⟨_, rfl⟩) (some p9)) dX12_init_27 e5 (fun h12 e6 => ?_)
  clear e5
  refine Ok.aload_n dX12_init_30 rfl ?_
  refine Ok.iconstV (v := (-1 : Int32)) dX12_init_31 (by decide +kernel) ?_
  refine X.rpfV (v := (.int (-1 : Int32))) fp_RX12_22 rfl rfl dX12_init_32 e6 (fun h13 e7 => ?_)
  clear e6
  refine Ok.aload_n dX12_init_35 rfl ?_
  refine Ok.bipushV (v := (nI 27)) dX12_init_36 (by decide +kernel) ?_
  refine X.rnwI dX12_init_38 wd203 (by decide +kernel) (Nat.le_of_ble_eq_true rfl) (Nat.le_of_ble_eq_true rfl) e7 (fun p14 h15 n16 e8 => ?_)
  clear e7
  refine Ok.mono (kc' := 4) (ks' := 2571) ?_ (by decide) (by decide)
  refine X.pfF (v := (va_rf (some p14))) fp_RX12_26 rfl (nar_q (Or.inr ⟨_, rfl⟩) (some p14)) (fits_q (Or.inr ⟨_, rfl⟩) (some p14)) dX12_init_40 e8 (fun h17 e9 => ?_)
  clear e8
  refine Ok.aload_n dX12_init_43 rfl ?_
  refine Ok.bipushV (v := (nI 27)) dX12_init_44 (by decide +kernel) ?_
  refine X.rnwI dX12_init_46 wd203 (by decide +kernel) (Nat.le_of_ble_eq_true rfl) (Nat.le_of_ble_eq_true rfl) e9 (fun p18 h19 n20 e10 => ?_)
  clear e9
  refine Ok.mono (kc' := 5) (ks' := 2598) ?_ (by decide) (by decide)
  refine X.pfF (v := (va_rf (some p18))) fp_RX12_29 rfl (nar_q (Or.inr ⟨_, rfl⟩) (some p18)) (fits_q (Or.inr ⟨_, rfl⟩) (some p18)) dX12_init_48 e10 (fun h21 e11 => ?_)
  clear e10
  refine Ok.aload_n dX12_init_51 rfl ?_
  refine Ok.sipushV (v := (nI 243)) dX12_init_52 (by decide +kernel) ?_
  refine X.rnwJ dX12_init_55 wd252 (by decide +kernel) (Nat.le_of_ble_eq_true rfl) (Nat.le_of_ble_eq_true rfl) e11 (fun p22 h23 n24 e12 => ?_)
  clear e11
  refine Ok.mono (kc' := 6) (ks' := 2841) ?_ (by decide) (by decide)
  refine X.pfF (v := (va_rf (some p22))) fp_RX12_32 rfl (nar_q (Or.inr ⟨_, rfl⟩) (some p22)) (fits_q (Or.inr ⟨_, rfl⟩) (some p22)) dX12_init_57 e12 (fun h25 e13 => ?_)
  clear e12
  refine Ok.aload_n dX12_init_60 rfl ?_
  refine Ok.sipushV (v := (nI 243)) dX12_init_61 (by decide +kernel) ?_
  refine X.rnwJ dX12_init_64 wd252 (by decide +kernel) (Nat.le_of_ble_eq_true rfl) (Nat.le_of_ble_eq_true rfl) e13 (fun p26 h27 n28 e14 => ?_)
  clear e13
  refine Ok.mono (kc' := 7) (ks' := 3084) ?_ (by decide) (by decide)
  refine X.pfF (v := (va_rf (some p26))) fp_RX12_36 rfl (nar_q (Or.inr ⟨_, rfl⟩) (some p26)) (fits_q (Or.inr ⟨_, rfl⟩) (some p26)) dX12_init_66 e14 (fun h29 e15 => ?_)
  clear e14
  refine Ok.aload_n dX12_init_69 rfl ?_
  refine Ok.sipushV (v := (nI 243)) dX12_init_70 (by decide +kernel) ?_
  refine X.rnwJ dX12_init_73 wd252 (by decide +kernel) (Nat.le_of_ble_eq_true rfl) (Nat.le_of_ble_eq_true rfl) e15 (fun p30 h31 n32 e16 => ?_)
  clear e15
  refine Ok.mono (kc' := 8) (ks' := 3327) ?_ (by decide) (by decide)
  refine X.pfF (v := (va_rf (some p30))) fp_RX12_39 rfl (nar_q (Or.inr ⟨_, rfl⟩) (some p30)) (fits_q (Or.inr ⟨_, rfl⟩) (some p30)) dX12_init_75 e16 (fun h33 e17 => ?_)
  clear e16
  refine Ok.aload_n dX12_init_78 rfl ?_
  refine Ok.sipushV (v := (nI 243)) dX12_init_79 (by decide +kernel) ?_
  refine X.rnwI dX12_init_82 wd203 (by decide +kernel) (Nat.le_of_ble_eq_true rfl) (Nat.le_of_ble_eq_true rfl) e17 (fun p34 h35 n36 e18 => ?_)
  clear e17
  refine Ok.mono (kc' := 9) (ks' := 3570) ?_ (by decide) (by decide)
  refine X.pfF (v := (va_rf (some p34))) fp_RX12_42 rfl (nar_q (Or.inr ⟨_, rfl⟩) (some p34)) (fits_q (Or.inr ⟨_, rfl⟩) (some p34)) dX12_init_84 e18 (fun h37 e19 => ?_)
  clear e18
  refine Ok.aload_n dX12_init_87 rfl ?_
  refine Ok.bipushV (v := (nI 8)) dX12_init_88 (by decide +kernel) ?_
  refine X.rnwI dX12_init_90 wd203 (by decide +kernel) (Nat.le_of_ble_eq_true rfl) (Nat.le_of_ble_eq_true rfl) e19 (fun p38 h39 n40 e20 => ?_)
  clear e19
  refine Ok.mono (kc' := 10) (ks' := 3578) ?_ (by decide) (by decide)
  refine X.pfF (v := (va_rf (some p38))) fp_RX12_45 rfl (nar_q (Or.inr ⟨_, rfl⟩) (some p38)) (fits_q (Or.inr ⟨_, rfl⟩) (some p38)) dX12_init_92 e20 (fun h41 e21 => ?_)
  clear e20
  refine Ok.aload_n dX12_init_95 rfl ?_
  refine Ok.bipushV (v := (nI 32)) dX12_init_96 (by decide +kernel) ?_
  refine X.rnwI dX12_init_98 wd203 (by decide +kernel) (Nat.le_of_ble_eq_true rfl) (Nat.le_of_ble_eq_true rfl) e21 (fun p42 h43 n44 e22 => ?_)
  clear e21
  refine Ok.mono (kc' := 11) (ks' := 3610) ?_ (by decide) (by decide)
  refine X.pfF (v := (va_rf (some p42))) fp_RX12_48 rfl (nar_q (Or.inr ⟨_, rfl⟩) (some p42)) (fits_q (Or.inr ⟨_, rfl⟩) (some p42)) dX12_init_100 e22 (fun h45 e23 => ?_)
  clear e22
  refine Ok.aload_n dX12_init_103 rfl ?_
  refine Ok.bipushV (v := (nI 32)) dX12_init_104 (by decide +kernel) ?_
  refine X.rnwI dX12_init_106 wd203 (by decide +kernel) (Nat.le_of_ble_eq_true rfl) (Nat.le_of_ble_eq_true rfl) e23 (fun p46 h47 n48 e24 => ?_)
  clear e23
  refine Ok.mono (kc' := 12) (ks' := 3642) ?_ (by decide) (by decide)
  refine X.pfF (v := (va_rf (some p46))) fp_RX12_51 rfl (nar_q (Or.inr ⟨_, rfl⟩) (some p46)) (fits_q (Or.inr ⟨_, rfl⟩) (some p46)) dX12_init_108 e24 (fun h49 e25 => ?_)
  clear e24
  refine Ok.aload_n dX12_init_111 rfl ?_
  refine Ok.iconstV (v := (nI 3)) dX12_init_112 (by decide +kernel) ?_
  refine X.rnwI dX12_init_113 wd203 (by decide +kernel) (Nat.le_of_ble_eq_true rfl) (Nat.le_of_ble_eq_true rfl) e25 (fun p50 h51 n52 e26 => ?_)
  clear e25
  refine Ok.mono (kc' := 13) (ks' := 3645) ?_ (by decide) (by decide)
  refine X.pfF (v := (va_rf (some p50))) fp_RX12_54 rfl (nar_q (Or.inr ⟨_, rfl⟩) (some p50)) (fits_q (Or.inr ⟨_, rfl⟩) (some p50)) dX12_init_115 e26 (fun h53 e27 => ?_)
  clear e26
  refine Ok.aload_n dX12_init_118 rfl ?_
  refine Ok.sipushV (v := (nI 201)) dX12_init_119 (by decide +kernel) ?_
  refine X.rnwJ dX12_init_122 wd252 (by decide +kernel) (Nat.le_of_ble_eq_true rfl) (Nat.le_of_ble_eq_true rfl) e27 (fun p54 h55 n56 e28 => ?_)
  clear e27
  refine Ok.mono (kc' := 14) (ks' := 3846) ?_ (by decide) (by decide)
  refine X.pfF (v := (va_rf (some p54))) fp_RX12_57 rfl (nar_q (Or.inr ⟨_, rfl⟩) (some p54)) (fits_q (Or.inr ⟨_, rfl⟩) (some p54)) dX12_init_124 e28 (fun h57 e29 => ?_)
  clear e28
  refine Ok.aload_n dX12_init_127 rfl ?_
  refine Ok.iconstV (v := (nI 3)) dX12_init_128 (by decide +kernel) ?_
  refine X.rnwI dX12_init_129 wd203 (by decide +kernel) (Nat.le_of_ble_eq_true rfl) (Nat.le_of_ble_eq_true rfl) e29 (fun p58 h59 n60 e30 => ?_)
  clear e29
  refine Ok.mono (kc' := 15) (ks' := 3849) ?_ (by decide) (by decide)
  refine X.pfF (v := (va_rf (some p58))) fp_RX12_60 rfl (nar_q (Or.inr ⟨_, rfl⟩) (some p58)) (fits_q (Or.inr ⟨_, rfl⟩) (some p58)) dX12_init_131 e30 (fun h61 e31 => ?_)
  clear e30
  refine Ok.aload_n dX12_init_134 rfl ?_
  refine Ok.bipushV (v := (nI 20)) dX12_init_135 (by decide +kernel) ?_
  refine X.rnwI dX12_init_137 wd203 (by decide +kernel) (Nat.le_of_ble_eq_true rfl) (Nat.le_of_ble_eq_true rfl) e31 (fun p62 h63 n64 e32 => ?_)
  clear e31
  refine Ok.mono (kc' := 16) (ks' := 3869) ?_ (by decide) (by decide)
  refine X.pfF (v := (va_rf (some p62))) fp_RX12_63 rfl (nar_q (Or.inr ⟨_, rfl⟩) (some p62)) (fits_q (Or.inr ⟨_, rfl⟩) (some p62)) dX12_init_139 e32 (fun h65 e33 => ?_)
  clear e32
  refine Ok.aload_n dX12_init_142 rfl ?_
  refine X.rgfR fl_RX12_9 dX12_init_143 e33 (fun v66 e34 => ?_)
  clear e33
  refine Ok.iconstV (v := (nI 4)) dX12_init_146 (by decide +kernel) ?_
  refine Ok.iconstV (v := (nI 1)) dX12_init_147 (by decide +kernel) ?_
  refine X.rnn e34 (fun p67 q e35 => ?_)
  clear e34
  subst q
  refine X.iast dX12_init_148 e35 (fun h68 e36 => ?_)
  clear e35
  exact X.vret dX12_init_149 rfl (Nat.le_of_ble_eq_true rfl) (Nat.le_of_ble_eq_true rfl) e36
noncomputable def F_X12_in_15 (G : Gx) (h : Hp) (nx : Nat) (s0 : Int32) : Rz Int32 :=
zk s0 (some (s0, h, nx))
set_option maxRecDepth 100000 in
set_option maxHeartbeats 4000000 in
theorem k_X12_in_15 {G : Gx} {d : Nat} {v' : Int32} {h' : Hp} {n' : Nat} {h : Hp} {nx : Nat} {s0 : Int32} (e : F_X12_in_15 G h nx s0 = some (v', h', n')) : Ok G mX12_in (d + 0) (Same (some (.int v')) h' n') 15 [none, none, none] [.int s0] h nx 0 0 := by
  unfold F_X12_in_15 at e
  exact X.zret dX12_in_15 rfl (Nat.le_of_ble_eq_true rfl) (Nat.le_of_ble_eq_true rfl) e
noncomputable def F_X12_in_14 (G : Gx) (h : Hp) (nx : Nat) : Rz Int32 :=
(F_X12_in_15 G h nx (nI 0))
set_option maxRecDepth 100000 in
set_option maxHeartbeats 4000000 in
theorem k_X12_in_14 {G : Gx} {d : Nat} {v' : Int32} {h' : Hp} {n' : Nat} {h : Hp} {nx : Nat} (e : F_X12_in_14 G h nx = some (v', h', n')) : Ok G mX12_in (d + 0) (Same (some (.int v')) h' n') 14 [none, none, none] [] h nx 0 0 := by
  unfold F_X12_in_14 at e
  refine Ok.iconstV (v := (nI 0)) dX12_in_14 (by decide +kernel) ?_
  exact Ok.weakL (k_X12_in_15 (d := d) e) trivial
noncomputable def F_X12_in (G : Gx) (h : Hp) (nx : Nat) (a0 : Int32) (a1 : Int32) (a2 : Int32) : Rz Int32 :=
if a0 < a1 then
(F_X12_in_14 G h nx)
else
if a2 < a0 then
(F_X12_in_14 G h nx)
else
(F_X12_in_15 G h nx (nI 1))
set_option maxRecDepth 100000 in
set_option maxHeartbeats 4000000 in
theorem k_X12_in {G : Gx} {d : Nat} {h : Hp} {nx : Nat} {a0 : Int32} {a1 : Int32} {a2 : Int32} {v' : Int32} {h' : Hp} {n' : Nat} (e : F_X12_in G h nx a0 a1 a2 = some (v', h', n')) : Ct G mX12_in (d + 0) (Same (some (.int v')) h' n') [.int a0, .int a1, .int a2] h nx := by
  unfold F_X12_in at e
  refine Ct.of (ls := [some (.int a0), some (.int a1), some (.int a2)]) (by decide +kernel) rfl (Nat.le_of_ble_eq_true rfl) rfl ?_
  refine Ok.iload_n dX12_in_0 rfl ?_
  refine Ok.iload_n dX12_in_1 rfl ?_
  refine X.icmp_lt (tgt := 14) dX12_in_2 (by decide) e (fun e1 => ?_) (fun e1 => ?_)
  · clear e
    exact Ok.weakL (k_X12_in_14 (d := d) e1) trivial
  · clear e
    refine Ok.iload_n dX12_in_5 rfl ?_
    refine Ok.iload_n dX12_in_6 rfl ?_
    refine X.icmp_gt (tgt := 14) dX12_in_7 (by decide) e1 (fun e2 => ?_) (fun e2 => ?_)
    · clear e1
      exact Ok.weakL (k_X12_in_14 (d := d) e2) trivial
    · clear e1
      refine Ok.iconstV (v := (nI 1)) dX12_in_10 (by decide +kernel) ?_
      refine Ok.goto (tgt := 15) dX12_in_11 (by decide) ?_
      exact Ok.weakL (k_X12_in_15 (d := d) e2) trivial
noncomputable def F_X12_isSort (G : Gx) (h : Hp) (nx : Nat) (a0 : Nat) (a1 : Int32) : Rz Int32 :=
gfR h a0 [12] 1 (fun v1 =>
nn v1 (fun p2 =>
alI (g_c G 0) h p2 (nI 0) (fun v3 =>
cl (F_X12_in G h nx a1 (nI 0) ((v3 - (nI 1)))) (fun r4 h5 n6 =>
zk r4 (some (r4, h5, n6))))))
set_option maxRecDepth 100000 in
set_option maxHeartbeats 4000000 in
theorem k_X12_isSort {G : Gx} {d : Nat} {h : Hp} {nx : Nat} {a0 : Nat} {a1 : Int32} {v' : Int32} {h' : Hp} {n' : Nat} (e : F_X12_isSort G h nx a0 a1 = some (v', h', n')) : Ct G mX12_isSort (d + 1) (Same (some (.int v')) h' n') [.ref a0, .int a1] h nx := by
  unfold F_X12_isSort at e
  refine Ct.of (ls := [some (.ref a0), some (.int a1)]) (by decide +kernel) rfl (Nat.le_of_ble_eq_true rfl) rfl ?_
  refine Ok.iload_n dX12_isSort_0 rfl ?_
  refine Ok.iconstV (v := (nI 0)) dX12_isSort_1 (by decide +kernel) ?_
  refine Ok.aload_n dX12_isSort_2 rfl ?_
  refine X.rgfR fl_RX12_9 dX12_isSort_3 e (fun v1 e1 => ?_)
  clear e
  refine Ok.iconstV (v := (nI 0)) dX12_isSort_6 (by decide +kernel) ?_
  refine X.rnn e1 (fun p2 q e2 => ?_)
  clear e1
  subst q
  refine X.iald dX12_isSort_7 e2 (fun v3 e3 => ?_)
  clear e2
  refine Ok.iconstV (v := (nI 1)) dX12_isSort_8 (by decide +kernel) ?_
  refine Ok.isub dX12_isSort_9 ?_
  refine X.callS (My := mX12_in) (n := 3) (As := [.int a1, .int (nI 0), .int ((v3 - (nI 1)))]) (T := (fun v => (some (.int v)))) (stk' := (fun v => [.int v])) (rest := []) (kc' := 0) (ks' := 0) dX12_isSort_10 e3 (fun v h n e => k_X12_in (d := d + 0) e) wd1196 wd80 wd1195 wd1194 (by decide +kernel) rfl (by decide) rfl rfl (Nat.le_of_ble_eq_true rfl) (Nat.le_of_ble_eq_true rfl) (Nat.le_of_ble_eq_true rfl) rfl rfl (fun _ => rfl) (fun r4 h5 n6 e4 => ?_)
  clear e3
  exact X.zret dX12_isSort_13 rfl (Nat.le_of_ble_eq_true rfl) (Nat.le_of_ble_eq_true rfl) e4
noncomputable def F_X12_isThing (G : Gx) (h : Hp) (nx : Nat) (a0 : Nat) (a1 : Int32) : Rz Int32 :=
gfR h a0 [12] 1 (fun v1 =>
nn v1 (fun p2 =>
alI (g_c G 0) h p2 (nI 1) (fun v3 =>
cl (F_X12_in G h nx a1 (nI 0) ((v3 - (nI 1)))) (fun r4 h5 n6 =>
zk r4 (some (r4, h5, n6))))))
set_option maxRecDepth 100000 in
set_option maxHeartbeats 4000000 in
theorem k_X12_isThing {G : Gx} {d : Nat} {h : Hp} {nx : Nat} {a0 : Nat} {a1 : Int32} {v' : Int32} {h' : Hp} {n' : Nat} (e : F_X12_isThing G h nx a0 a1 = some (v', h', n')) : Ct G mX12_isThing (d + 1) (Same (some (.int v')) h' n') [.ref a0, .int a1] h nx := by
  unfold F_X12_isThing at e
  refine Ct.of (ls := [some (.ref a0), some (.int a1)]) (by decide +kernel) rfl (Nat.le_of_ble_eq_true rfl) rfl ?_
  refine Ok.iload_n dX12_isThing_0 rfl ?_
  refine Ok.iconstV (v := (nI 0)) dX12_isThing_1 (by decide +kernel) ?_
  refine Ok.aload_n dX12_isThing_2 rfl ?_
  refine X.rgfR fl_RX12_9 dX12_isThing_3 e (fun v1 e1 => ?_)
  clear e
  refine Ok.iconstV (v := (nI 1)) dX12_isThing_6 (by decide +kernel) ?_
  refine X.rnn e1 (fun p2 q e2 => ?_)
  clear e1
  subst q
  refine X.iald dX12_isThing_7 e2 (fun v3 e3 => ?_)
  clear e2
  refine Ok.iconstV (v := (nI 1)) dX12_isThing_8 (by decide +kernel) ?_
  refine Ok.isub dX12_isThing_9 ?_
  refine X.callS (My := mX12_in) (n := 3) (As := [.int a1, .int (nI 0), .int ((v3 - (nI 1)))]) (T := (fun v => (some (.int v)))) (stk' := (fun v => [.int v])) (rest := []) (kc' := 0) (ks' := 0) dX12_isThing_10 e3 (fun v h n e => k_X12_in (d := d + 0) e) wd1196 wd80 wd1195 wd1194 (by decide +kernel) rfl (by decide) rfl rfl (Nat.le_of_ble_eq_true rfl) (Nat.le_of_ble_eq_true rfl) (Nat.le_of_ble_eq_true rfl) rfl rfl (fun _ => rfl) (fun r4 h5 n6 e4 => ?_)
  clear e3
  exact X.zret dX12_isThing_13 rfl (Nat.le_of_ble_eq_true rfl) (Nat.le_of_ble_eq_true rfl) e4
noncomputable def F_X12_isPlan (G : Gx) (h : Hp) (nx : Nat) (a0 : Nat) (a1 : Int32) : Rz Int32 :=
gfR h a0 [12] 1 (fun v1 =>
nn v1 (fun p2 =>
alI (g_c G 0) h p2 (nI 2) (fun v3 =>
cl (F_X12_in G h nx a1 (nI 0) ((v3 - (nI 1)))) (fun r4 h5 n6 =>
zk r4 (some (r4, h5, n6))))))
set_option maxRecDepth 100000 in
set_option maxHeartbeats 4000000 in
theorem k_X12_isPlan {G : Gx} {d : Nat} {h : Hp} {nx : Nat} {a0 : Nat} {a1 : Int32} {v' : Int32} {h' : Hp} {n' : Nat} (e : F_X12_isPlan G h nx a0 a1 = some (v', h', n')) : Ct G mX12_isPlan (d + 1) (Same (some (.int v')) h' n') [.ref a0, .int a1] h nx := by
  unfold F_X12_isPlan at e
  refine Ct.of (ls := [some (.ref a0), some (.int a1)]) (by decide +kernel) rfl (Nat.le_of_ble_eq_true rfl) rfl ?_
  refine Ok.iload_n dX12_isPlan_0 rfl ?_
  refine Ok.iconstV (v := (nI 0)) dX12_isPlan_1 (by decide +kernel) ?_
  refine Ok.aload_n dX12_isPlan_2 rfl ?_
  refine X.rgfR fl_RX12_9 dX12_isPlan_3 e (fun v1 e1 => ?_)
  clear e
  refine Ok.iconstV (v := (nI 2)) dX12_isPlan_6 (by decide +kernel) ?_
  refine X.rnn e1 (fun p2 q e2 => ?_)
  clear e1
  subst q
  refine X.iald dX12_isPlan_7 e2 (fun v3 e3 => ?_)
  clear e2
  refine Ok.iconstV (v := (nI 1)) dX12_isPlan_8 (by decide +kernel) ?_
  refine Ok.isub dX12_isPlan_9 ?_
  refine X.callS (My := mX12_in) (n := 3) (As := [.int a1, .int (nI 0), .int ((v3 - (nI 1)))]) (T := (fun v => (some (.int v)))) (stk' := (fun v => [.int v])) (rest := []) (kc' := 0) (ks' := 0) dX12_isPlan_10 e3 (fun v h n e => k_X12_in (d := d + 0) e) wd1196 wd80 wd1195 wd1194 (by decide +kernel) rfl (by decide) rfl rfl (Nat.le_of_ble_eq_true rfl) (Nat.le_of_ble_eq_true rfl) (Nat.le_of_ble_eq_true rfl) rfl rfl (fun _ => rfl) (fun r4 h5 n6 e4 => ?_)
  clear e3
  exact X.zret dX12_isPlan_13 rfl (Nat.le_of_ble_eq_true rfl) (Nat.le_of_ble_eq_true rfl) e4
noncomputable def F_X12_count1_4 (G : Gx) : Nat → Hp → Nat → Int32 → Int32 → Int32 → Rz Int32 := fun n => Nat.rec (motive := fun _ => Hp → Nat → Int32 → Int32 → Int32 → Rz Int32) (fun _ _ _ _ _ => none) (fun _ k4 => fun h nx l0 l1 l2 =>
if (nI 8) ≤ l2 then
some (l1, h, nx)
else
nm ((l1 + ((((l0 >>> (l2 &&& 31))) &&& (nI 1))))) (fun v1 =>
nm (l2 + (nI 1)) (fun v2 =>
(k4 h nx l0 v1 v2)))) n
theorem F_X12_count1_4_0 {G : Gx} {h : Hp} {nx : Nat} {l0 : Int32} {l1 : Int32} {l2 : Int32} : F_X12_count1_4 G 0 h nx l0 l1 l2 = none := rfl
theorem F_X12_count1_4_s {G : Gx} {n : Nat} {h : Hp} {nx : Nat} {l0 : Int32} {l1 : Int32} {l2 : Int32} : F_X12_count1_4 G (n + 1) h nx l0 l1 l2 = (
if (nI 8) ≤ l2 then
some (l1, h, nx)
else
nm ((l1 + ((((l0 >>> (l2 &&& 31))) &&& (nI 1))))) (fun v1 =>
nm (l2 + (nI 1)) (fun v2 =>
((F_X12_count1_4 G n) h nx l0 v1 v2)))) := rfl
set_option maxRecDepth 100000 in
set_option maxHeartbeats 4000000 in
theorem k_X12_count1_4 {G : Gx} {d : Nat} {v' : Int32} {h' : Hp} {n' : Nat} : ∀ (n : Nat) {h : Hp} {nx : Nat} {l0 : Int32} {l1 : Int32} {l2 : Int32}, F_X12_count1_4 G n h nx l0 l1 l2 = some (v', h', n') → Ok G mX12_count1 (d + 0) (Same (some (.int v')) h' n') 4 [some (.int l0), some (.int l1), some (.int l2)] [] h nx 0 0 := by
  intro n
  induction n with
  | zero =>
    intro h nx l0 l1 l2 e
    rw [F_X12_count1_4_0] at e
    cases e
  | succ n K4 =>
    intro h nx l0 l1 l2 e
    rw [F_X12_count1_4_s] at e
    refine Ok.iload_n dX12_count1_4 rfl ?_
    refine Ok.bipushV (v := (nI 8)) dX12_count1_5 (by decide +kernel) ?_
    refine X.icmp_ge (tgt := 24) dX12_count1_7 (by decide) e (fun e1 => ?_) (fun e1 => ?_)
    · clear e
      refine Ok.iload_n dX12_count1_24 rfl ?_
      exact X.iret dX12_count1_25 rfl (Nat.le_of_ble_eq_true rfl) (Nat.le_of_ble_eq_true rfl) e1
    · clear e
      refine Ok.iload_n dX12_count1_10 rfl ?_
      refine Ok.iload_n dX12_count1_11 rfl ?_
      refine Ok.iload_n dX12_count1_12 rfl ?_
      refine Ok.ishr dX12_count1_13 ?_
      refine Ok.iconstV (v := (nI 1)) dX12_count1_14 (by decide +kernel) ?_
      refine Ok.iand dX12_count1_15 ?_
      refine Ok.iadd dX12_count1_16 ?_
      refine X.istore_n dX12_count1_17 (by decide) e1 (L := fun v1 => [some (.int l0), some (.int v1), some (.int l2)]) (fun _ => rfl) (fun v1 e2 => ?_)
      clear e1
      refine X.iinc dX12_count1_18 rfl (by decide) (by decide +kernel) e2 (L := fun v2 => [some (.int l0), some (.int v1), some (.int v2)]) (fun _ => rfl) (fun v2 e3 => ?_)
      clear e2
      refine Ok.goto (tgt := 4) dX12_count1_21 (by decide) ?_
      exact Ok.weakL (K4 e3) ⟨rfl, ⟨rfl, ⟨rfl, trivial⟩⟩⟩
noncomputable def F_X12_count1 (G : Gx) (h : Hp) (nx : Nat) (a0 : Int32) : Rz Int32 :=
(F_X12_count1_4 G fuelL h nx a0 (nI 0) (nI 0))
set_option maxRecDepth 100000 in
set_option maxHeartbeats 4000000 in
theorem k_X12_count1 {G : Gx} {d : Nat} {h : Hp} {nx : Nat} {a0 : Int32} {v' : Int32} {h' : Hp} {n' : Nat} (e : F_X12_count1 G h nx a0 = some (v', h', n')) : Ct G mX12_count1 (d + 0) (Same (some (.int v')) h' n') [.int a0] h nx := by
  unfold F_X12_count1 at e
  refine Ct.of (ls := [some (.int a0), none, none]) (by decide +kernel) rfl (Nat.le_of_ble_eq_true rfl) rfl ?_
  refine Ok.iconstV (v := (nI 0)) dX12_count1_0 (by decide +kernel) ?_
  refine XL.istore_n dX12_count1_1 (by decide) (L := [some (.int a0), some (.int (nI 0)), none]) rfl ?_
  refine Ok.iconstV (v := (nI 0)) dX12_count1_2 (by decide +kernel) ?_
  refine XL.istore_n dX12_count1_3 (by decide) (L := [some (.int a0), some (.int (nI 0)), some (.int (nI 0))]) rfl ?_
  exact Ok.weakL (k_X12_count1_4 (d := d) fuelL e) ⟨rfl, ⟨rfl, ⟨rfl, trivial⟩⟩⟩
noncomputable def F_X12_feed_34 (G : Gx) : Nat → Hp → Nat → Nat → Int64 → Int32 → Rz Int32 := fun n => Nat.rec (motive := fun _ => Hp → Nat → Nat → Int64 → Int32 → Rz Int32) (fun _ _ _ _ _ => none) (fun _ k34 => fun h nx l0 l1 l4 =>
if l4 < 0 then
gfR h l0 [12] 1 (fun v1 =>
nn v1 (fun p2 =>
alI (g_c G 0) h p2 (nI 5) (fun v3 =>
some (v3, h, nx))))
else
gfR h l0 [12] 1 (fun v4 =>
gfR h l0 [12] 1 (fun v5 =>
nn v5 (fun p6 =>
alI (g_c G 0) h p6 (nI 5) (fun v7 =>
nn v4 (fun p8 =>
asI (g_c G 0) id h p8 (((nI 10) + v7)) (((((l1 >>> ((((nI 8) * l4)).toInt64 &&& 63))) &&& (255 : Int64))).toInt32) (fun h9 =>
gfR h9 l0 [12] 1 (fun v10 =>
nn v10 (fun p11 =>
alI (g_c G 0) h9 p11 (nI 5) (fun v12 =>
asI (g_c G 0) id h9 p11 (nI 5) ((v12 + (nI 1))) (fun h13 =>
nm (l4 + (-1 : Int32)) (fun v14 =>
(k34 h13 nx l0 l1 v14))))))))))))) n
theorem F_X12_feed_34_0 {G : Gx} {h : Hp} {nx : Nat} {l0 : Nat} {l1 : Int64} {l4 : Int32} : F_X12_feed_34 G 0 h nx l0 l1 l4 = none := rfl
theorem F_X12_feed_34_s {G : Gx} {n : Nat} {h : Hp} {nx : Nat} {l0 : Nat} {l1 : Int64} {l4 : Int32} : F_X12_feed_34 G (n + 1) h nx l0 l1 l4 = (
if l4 < 0 then
gfR h l0 [12] 1 (fun v1 =>
nn v1 (fun p2 =>
alI (g_c G 0) h p2 (nI 5) (fun v3 =>
some (v3, h, nx))))
else
gfR h l0 [12] 1 (fun v4 =>
gfR h l0 [12] 1 (fun v5 =>
nn v5 (fun p6 =>
alI (g_c G 0) h p6 (nI 5) (fun v7 =>
nn v4 (fun p8 =>
asI (g_c G 0) id h p8 (((nI 10) + v7)) (((((l1 >>> ((((nI 8) * l4)).toInt64 &&& 63))) &&& (255 : Int64))).toInt32) (fun h9 =>
gfR h9 l0 [12] 1 (fun v10 =>
nn v10 (fun p11 =>
alI (g_c G 0) h9 p11 (nI 5) (fun v12 =>
asI (g_c G 0) id h9 p11 (nI 5) ((v12 + (nI 1))) (fun h13 =>
nm (l4 + (-1 : Int32)) (fun v14 =>
((F_X12_feed_34 G n) h13 nx l0 l1 v14))))))))))))) := rfl
set_option maxRecDepth 100000 in
set_option maxHeartbeats 4000000 in
theorem k_X12_feed_34 {G : Gx} {d : Nat} {v' : Int32} {h' : Hp} {n' : Nat} : ∀ (n : Nat) {h : Hp} {nx : Nat} {l0 : Nat} {l1 : Int64} {l4 : Int32}, F_X12_feed_34 G n h nx l0 l1 l4 = some (v', h', n') → Ok G mX12_feed (d + 1) (Same (some (.int v')) h' n') 34 [some (.ref l0), some (.long l1), none, none, some (.int l4)] [] h nx 0 0 := by
  intro n
  induction n with
  | zero =>
    intro h nx l0 l1 l4 e
    rw [F_X12_feed_34_0] at e
    cases e
  | succ n K34 =>
    intro h nx l0 l1 l4 e
    rw [F_X12_feed_34_s] at e
    refine Ok.iload dX12_feed_34 rfl ?_
    refine X.if_lt (tgt := 81) dX12_feed_36 (by decide) e (fun e1 => ?_) (fun e1 => ?_)
    · clear e
      refine Ok.aload_n dX12_feed_81 rfl ?_
      refine X.rgfR fl_RX12_9 dX12_feed_82 e1 (fun v1 e2 => ?_)
      clear e1
      refine Ok.iconstV (v := (nI 5)) dX12_feed_85 (by decide +kernel) ?_
      refine X.rnn e2 (fun p2 q e3 => ?_)
      clear e2
      subst q
      refine X.iald dX12_feed_86 e3 (fun v3 e4 => ?_)
      clear e3
      exact X.iret dX12_feed_87 rfl (Nat.le_of_ble_eq_true rfl) (Nat.le_of_ble_eq_true rfl) e4
    · clear e
      refine Ok.aload_n dX12_feed_39 rfl ?_
      refine X.rgfR fl_RX12_9 dX12_feed_40 e1 (fun v4 e2 => ?_)
      clear e1
      refine Ok.bipushV (v := (nI 10)) dX12_feed_43 (by decide +kernel) ?_
      refine Ok.aload_n dX12_feed_45 rfl ?_
      refine X.rgfR fl_RX12_9 dX12_feed_46 e2 (fun v5 e3 => ?_)
      clear e2
      refine Ok.iconstV (v := (nI 5)) dX12_feed_49 (by decide +kernel) ?_
      refine X.rnn e3 (fun p6 q e4 => ?_)
      clear e3
      subst q
      refine X.iald dX12_feed_50 e4 (fun v7 e5 => ?_)
      clear e4
      refine Ok.iadd dX12_feed_51 ?_
      refine Ok.lload_n dX12_feed_52 rfl ?_
      refine Ok.bipushV (v := (nI 8)) dX12_feed_53 (by decide +kernel) ?_
      refine Ok.iload dX12_feed_55 rfl ?_
      refine Ok.imul dX12_feed_57 ?_
      refine Ok.lshr dX12_feed_58 ?_
      refine Ok.ldc2_w (v := 255) dX12_feed_59 wd1197 ?_
      refine Ok.land dX12_feed_62 ?_
      refine Ok.l2i dX12_feed_63 ?_
      refine X.rnn e5 (fun p8 q e6 => ?_)
      clear e5
      subst q
      refine X.iast dX12_feed_64 e6 (fun h9 e7 => ?_)
      clear e6
      refine Ok.aload_n dX12_feed_65 rfl ?_
      refine X.rgfR fl_RX12_9 dX12_feed_66 e7 (fun v10 e8 => ?_)
      clear e7
      refine Ok.iconstV (v := (nI 5)) dX12_feed_69 (by decide +kernel) ?_
      refine Ok.dup2 dX12_feed_70 rfl (va_rf_cat _) ?_
      refine X.rnn e8 (fun p11 q e9 => ?_)
      clear e8
      subst q
      refine X.iald dX12_feed_71 e9 (fun v12 e10 => ?_)
      clear e9
      refine Ok.iconstV (v := (nI 1)) dX12_feed_72 (by decide +kernel) ?_
      refine Ok.iadd dX12_feed_73 ?_
      refine X.iast dX12_feed_74 e10 (fun h13 e11 => ?_)
      clear e10
      refine X.iinc dX12_feed_75 rfl (by decide) (by decide +kernel) e11 (L := fun v14 => [some (.ref l0), some (.long l1), none, none, some (.int v14)]) (fun _ => rfl) (fun v14 e12 => ?_)
      clear e11
      refine Ok.goto (tgt := 34) dX12_feed_78 (by decide) ?_
      exact Ok.weakL (K34 e12) ⟨rfl, ⟨rfl, ⟨rfl, trivial⟩⟩⟩
noncomputable def F_X12_feed (G : Gx) (h : Hp) (nx : Nat) (a0 : Nat) (a1 : Int64) (a2 : Int32) : Rz Int32 :=
cl (F_X12_in G h nx a2 (nI 1) (nI 8)) (fun r1 h2 n3 =>
if r1 = 0 then
some ((-2 : Int32), h2, n3)
else
gfR h2 a0 [12] 1 (fun v4 =>
nn v4 (fun p5 =>
alI (g_c G 0) h2 p5 (nI 5) (fun v6 =>
if ((v6 + a2)) ≤ (nI 120) then
nm ((a2 - (nI 1))) (fun v7 =>
(F_X12_feed_34 G fuelL h2 n3 a0 a1 v7))
else
some ((-4 : Int32), h2, n3)))))
set_option maxRecDepth 100000 in
set_option maxHeartbeats 4000000 in
theorem k_X12_feed {G : Gx} {d : Nat} {h : Hp} {nx : Nat} {a0 : Nat} {a1 : Int64} {a2 : Int32} {v' : Int32} {h' : Hp} {n' : Nat} (e : F_X12_feed G h nx a0 a1 a2 = some (v', h', n')) : Ct G mX12_feed (d + 1) (Same (some (.int v')) h' n') [.ref a0, .long a1, .int a2] h nx := by
  unfold F_X12_feed at e
  refine Ct.of (ls := [some (.ref a0), some (.long a1), none, some (.int a2), none]) (by decide +kernel) rfl (Nat.le_of_ble_eq_true rfl) rfl ?_
  refine Ok.iload_n dX12_feed_0 rfl ?_
  refine Ok.iconstV (v := (nI 1)) dX12_feed_1 (by decide +kernel) ?_
  refine Ok.bipushV (v := (nI 8)) dX12_feed_2 (by decide +kernel) ?_
  refine X.callS (My := mX12_in) (n := 3) (As := [.int a2, .int (nI 1), .int (nI 8)]) (T := (fun v => (some (.int v)))) (stk' := (fun v => [.int v])) (rest := []) (kc' := 0) (ks' := 0) dX12_feed_4 e (fun v h n e => k_X12_in (d := d + 0) e) wd1196 wd80 wd1195 wd1194 (by decide +kernel) rfl (by decide) rfl rfl (Nat.le_of_ble_eq_true rfl) (Nat.le_of_ble_eq_true rfl) (Nat.le_of_ble_eq_true rfl) rfl rfl (fun _ => rfl) (fun r1 h2 n3 e1 => ?_)
  clear e
  refine X.if_ne (tgt := 13) dX12_feed_7 (by decide) e1 (fun e2 => ?_) (fun e2 => ?_)
  · clear e1
    refine Ok.aload_n dX12_feed_13 rfl ?_
    refine X.rgfR fl_RX12_9 dX12_feed_14 e2 (fun v4 e3 => ?_)
    clear e2
    refine Ok.iconstV (v := (nI 5)) dX12_feed_17 (by decide +kernel) ?_
    refine X.rnn e3 (fun p5 q e4 => ?_)
    clear e3
    subst q
    refine X.iald dX12_feed_18 e4 (fun v6 e5 => ?_)
    clear e4
    refine Ok.iload_n dX12_feed_19 rfl ?_
    refine Ok.iadd dX12_feed_20 ?_
    refine Ok.bipushV (v := (nI 120)) dX12_feed_21 (by decide +kernel) ?_
    refine X.icmp_le (tgt := 29) dX12_feed_23 (by decide) e5 (fun e6 => ?_) (fun e6 => ?_)
    · clear e5
      refine Ok.iload_n dX12_feed_29 rfl ?_
      refine Ok.iconstV (v := (nI 1)) dX12_feed_30 (by decide +kernel) ?_
      refine Ok.isub dX12_feed_31 ?_
      refine X.istore dX12_feed_32 (by decide) e6 (L := fun v7 => [some (.ref a0), some (.long a1), none, some (.int a2), some (.int v7)]) (fun _ => rfl) (fun v7 e7 => ?_)
      clear e6
      exact Ok.weakL (k_X12_feed_34 (d := d) fuelL e7) ⟨rfl, ⟨rfl, ⟨rfl, trivial⟩⟩⟩
    · clear e5
      refine Ok.bipushV (v := (-4 : Int32)) dX12_feed_26 (by decide +kernel) ?_
      exact X.iret dX12_feed_28 rfl (Nat.le_of_ble_eq_true rfl) (Nat.le_of_ble_eq_true rfl) e6
  · clear e1
    refine Ok.bipushV (v := (-2 : Int32)) dX12_feed_10 (by decide +kernel) ?_
    exact X.iret dX12_feed_12 rfl (Nat.le_of_ble_eq_true rfl) (Nat.le_of_ble_eq_true rfl) e2
noncomputable def F_X12_here_27 (G : Gx) (h : Hp) (nx : Nat) (s0 : Int32) : Rz Int32 :=
some (s0, h, nx)
set_option maxRecDepth 100000 in
set_option maxHeartbeats 4000000 in
theorem k_X12_here_27 {G : Gx} {d : Nat} {v' : Int32} {h' : Hp} {n' : Nat} {h : Hp} {nx : Nat} {s0 : Int32} (e : F_X12_here_27 G h nx s0 = some (v', h', n')) : Ok G mX12_here (d + 0) (Same (some (.int v')) h' n') 27 [none] [.int s0] h nx 0 0 := by
  unfold F_X12_here_27 at e
  exact X.iret dX12_here_27 rfl (Nat.le_of_ble_eq_true rfl) (Nat.le_of_ble_eq_true rfl) e
noncomputable def F_X12_here (G : Gx) (h : Hp) (nx : Nat) (a0 : Nat) : Rz Int32 :=
gfI h a0 [12] 5 (fun v1 =>
gfI h a0 [12] 6 (fun v2 =>
if v2 ≤ v1 then
(F_X12_here_27 G h nx (-1 : Int32))
else
gfR h a0 [12] 1 (fun v3 =>
gfI h a0 [12] 5 (fun v4 =>
nn v3 (fun p5 =>
alI (g_c G 0) h p5 (((nI 10) + v4)) (fun v6 =>
(F_X12_here_27 G h nx v6)))))))
set_option maxRecDepth 100000 in
set_option maxHeartbeats 4000000 in
theorem k_X12_here {G : Gx} {d : Nat} {h : Hp} {nx : Nat} {a0 : Nat} {v' : Int32} {h' : Hp} {n' : Nat} (e : F_X12_here G h nx a0 = some (v', h', n')) : Ct G mX12_here (d + 0) (Same (some (.int v')) h' n') [.ref a0] h nx := by
  unfold F_X12_here at e
  refine Ct.of (ls := [some (.ref a0)]) (by decide +kernel) rfl (Nat.le_of_ble_eq_true rfl) rfl ?_
  refine Ok.aload_n dX12_here_0 rfl ?_
  refine X.rgfI fl_RX12_75 dX12_here_1 e (fun v1 e1 => ?_)
  clear e
  refine Ok.aload_n dX12_here_4 rfl ?_
  refine X.rgfI fl_RX12_78 dX12_here_5 e1 (fun v2 e2 => ?_)
  clear e1
  refine X.icmp_ge (tgt := 26) dX12_here_8 (by decide) e2 (fun e3 => ?_) (fun e3 => ?_)
  · clear e2
    refine Ok.iconstV (v := (-1 : Int32)) dX12_here_26 (by decide +kernel) ?_
    exact Ok.weakL (k_X12_here_27 (d := d) e3) trivial
  · clear e2
    refine Ok.aload_n dX12_here_11 rfl ?_
    refine X.rgfR fl_RX12_9 dX12_here_12 e3 (fun v3 e4 => ?_)
    clear e3
    refine Ok.bipushV (v := (nI 10)) dX12_here_15 (by decide +kernel) ?_
    refine Ok.aload_n dX12_here_17 rfl ?_
    refine X.rgfI fl_RX12_75 dX12_here_18 e4 (fun v4 e5 => ?_)
    clear e4
    refine Ok.iadd dX12_here_21 ?_
    refine X.rnn e5 (fun p5 q e6 => ?_)
    clear e5
    subst q
    refine X.iald dX12_here_22 e6 (fun v6 e7 => ?_)
    clear e6
    refine Ok.goto (tgt := 27) dX12_here_23 (by decide) ?_
    exact Ok.weakL (k_X12_here_27 (d := d) e7) trivial
noncomputable def F_X12_must_41 (G : Gx) (h : Hp) (nx : Nat) (s0 : Nat) (s1 : Int32) (s2 : Int32) : Rz Unit :=
pfV h s0 [12] 5 (.int ((s1 + s2))) (fun h1 =>
some ((), h1, nx))
set_option maxRecDepth 100000 in
set_option maxHeartbeats 4000000 in
theorem k_X12_must_41 {G : Gx} {d : Nat} {v' : Unit} {h' : Hp} {n' : Nat} {h : Hp} {nx : Nat} {s0 : Nat} {s1 : Int32} {s2 : Int32} (e : F_X12_must_41 G h nx s0 s1 s2 = some (v', h', n')) : Ok G mX12_must (d + 1) (Same none h' n') 41 [none, none] [.int s2, .int s1, .ref s0] h nx 0 0 := by
  unfold F_X12_must_41 at e
  refine Ok.iadd dX12_must_41 ?_
  refine X.rpfV (v := (.int ((s1 + s2)))) fp_RX12_75 rfl rfl dX12_must_42 e (fun h1 e1 => ?_)
  clear e
  exact X.vret dX12_must_45 rfl (Nat.le_of_ble_eq_true rfl) (Nat.le_of_ble_eq_true rfl) e1
noncomputable def F_X12_must_21 (G : Gx) (h : Hp) (nx : Nat) (s0 : Nat) (s1 : Int32) (l0 : Nat) : Rz Unit :=
zk s1 (
pfV h s0 [12] 7 (.int s1) (fun h1 =>
gfI h1 l0 [12] 5 (fun v2 =>
gfI h1 l0 [12] 7 (fun v3 =>
if v3 = 0 then
(F_X12_must_41 G h1 nx l0 v2 (nI 1))
else
(F_X12_must_41 G h1 nx l0 v2 (nI 0))))))
set_option maxRecDepth 100000 in
set_option maxHeartbeats 4000000 in
theorem k_X12_must_21 {G : Gx} {d : Nat} {v' : Unit} {h' : Hp} {n' : Nat} {h : Hp} {nx : Nat} {s0 : Nat} {s1 : Int32} {l0 : Nat} (e : F_X12_must_21 G h nx s0 s1 l0 = some (v', h', n')) : Ok G mX12_must (d + 1) (Same none h' n') 21 [some (.ref l0), none] [.int s1, .ref s0] h nx 0 0 := by
  unfold F_X12_must_21 at e
  refine X.rzk e (fun z e1 => ?_)
  clear e
  refine X.rpfV (v := (.int s1)) fp_RX12_81 (nar_z z) (fits_z z) dX12_must_21 e1 (fun h1 e2 => ?_)
  clear e1
  refine Ok.aload_n dX12_must_24 rfl ?_
  refine Ok.dup dX12_must_25 rfl ?_
  refine X.rgfI fl_RX12_75 dX12_must_26 e2 (fun v2 e3 => ?_)
  clear e2
  refine Ok.aload_n dX12_must_29 rfl ?_
  refine X.rgfI fl_RX12_81 dX12_must_30 e3 (fun v3 e4 => ?_)
  clear e3
  refine X.if_eq (tgt := 40) dX12_must_33 (by decide) e4 (fun e5 => ?_) (fun e5 => ?_)
  · clear e4
    refine Ok.iconstV (v := (nI 1)) dX12_must_40 (by decide +kernel) ?_
    exact Ok.weakL (k_X12_must_41 (d := d) e5) trivial
  · clear e4
    refine Ok.iconstV (v := (nI 0)) dX12_must_36 (by decide +kernel) ?_
    refine Ok.goto (tgt := 41) dX12_must_37 (by decide) ?_
    exact Ok.weakL (k_X12_must_41 (d := d) e5) trivial
noncomputable def F_X12_must_16 (G : Gx) (h : Hp) (nx : Nat) (s0 : Nat) (l0 : Nat) : Rz Unit :=
(F_X12_must_21 G h nx s0 (nI 1) l0)
set_option maxRecDepth 100000 in
set_option maxHeartbeats 4000000 in
theorem k_X12_must_16 {G : Gx} {d : Nat} {v' : Unit} {h' : Hp} {n' : Nat} {h : Hp} {nx : Nat} {s0 : Nat} {l0 : Nat} (e : F_X12_must_16 G h nx s0 l0 = some (v', h', n')) : Ok G mX12_must (d + 1) (Same none h' n') 16 [some (.ref l0), none] [.ref s0] h nx 0 0 := by
  unfold F_X12_must_16 at e
  refine Ok.iconstV (v := (nI 1)) dX12_must_16 (by decide +kernel) ?_
  refine Ok.goto (tgt := 21) dX12_must_17 (by decide) ?_
  exact Ok.weakL (k_X12_must_21 (d := d) e) ⟨rfl, trivial⟩
noncomputable def F_X12_must (G : Gx) (h : Hp) (nx : Nat) (a0 : Nat) (a1 : Int32) : Rz Unit :=
gfI h a0 [12] 7 (fun v1 =>
if v1 = 0 then
ck h a0 [12] (fun _ =>
cl (F_X12_here G h nx a0) (fun r2 h3 n4 =>
if r2 = a1 then
(F_X12_must_21 G h3 n4 a0 (nI 0) a0)
else
(F_X12_must_16 G h3 n4 a0 a0)))
else
(F_X12_must_16 G h nx a0 a0))
set_option maxRecDepth 100000 in
set_option maxHeartbeats 4000000 in
theorem k_X12_must {G : Gx} {d : Nat} {h : Hp} {nx : Nat} {a0 : Nat} {a1 : Int32} {v' : Unit} {h' : Hp} {n' : Nat} (e : F_X12_must G h nx a0 a1 = some (v', h', n')) : Ct G mX12_must (d + 1) (Same none h' n') [.ref a0, .int a1] h nx := by
  unfold F_X12_must at e
  refine Ct.of (ls := [some (.ref a0), some (.int a1)]) (by decide +kernel) rfl (Nat.le_of_ble_eq_true rfl) rfl ?_
  refine Ok.aload_n dX12_must_0 rfl ?_
  refine Ok.aload_n dX12_must_1 rfl ?_
  refine X.rgfI fl_RX12_81 dX12_must_2 e (fun v1 e1 => ?_)
  clear e
  refine X.if_ne (tgt := 16) dX12_must_5 (by decide) e1 (fun e2 => ?_) (fun e2 => ?_)
  · clear e1
    exact Ok.weakL (k_X12_must_16 (d := d) e2) ⟨rfl, trivial⟩
  · clear e1
    refine Ok.aload_n dX12_must_8 rfl ?_
    refine X.rck e2 (fun c fs hb hc e3 => ?_)
    clear e2
    obtain rfl := List.mem_singleton.mp hc
    refine X.callV (My := mX12_here) (n := 0) (As := []) (T := (fun v => (some (.int v)))) (stk' := (fun v => [.int v, .ref a0])) (rest := [.ref a0]) (kc' := 0) (ks' := 0) dX12_must_9 e3 (fun v h n e => k_X12_here (d := d + 0) e) hb rfl wd1209 wd80 wd1208 wd26 wd1206 (by decide +kernel) rfl (by decide) rfl rfl (Nat.le_of_ble_eq_true rfl) (Nat.le_of_ble_eq_true rfl) (Nat.le_of_ble_eq_true rfl) rfl rfl (fun _ => rfl) (fun r2 h3 n4 e4 => ?_)
    clear e3
    refine Ok.iload_n dX12_must_12 rfl ?_
    refine X.icmp_eq (tgt := 20) dX12_must_13 (by decide) e4 (fun e5 => ?_) (fun e5 => ?_)
    · clear e4
      refine Ok.iconstV (v := (nI 0)) dX12_must_20 (by decide +kernel) ?_
      exact Ok.weakL (k_X12_must_21 (d := d) e5) ⟨rfl, trivial⟩
    · clear e4
      exact Ok.weakL (k_X12_must_16 (d := d) e5) ⟨rfl, trivial⟩
noncomputable def F_X12_spells_2 (G : Gx) : Nat → Hp → Nat → Nat → Nat → Int32 → Rz Unit := fun n => Nat.rec (motive := fun _ => Hp → Nat → Nat → Nat → Int32 → Rz Unit) (fun _ _ _ _ _ => none) (fun _ k2 => fun h nx l0 l1 l2 =>
stL l1 (fun v1 =>
if v1 ≤ l2 then
some ((), h, nx)
else
stC l1 l2 (fun v2 =>
ck h l0 [12] (fun _ =>
cl (F_X12_must G h nx l0 v2) (fun _ h4 n5 =>
nm (l2 + (nI 1)) (fun v6 =>
(k2 h4 n5 l0 l1 v6))))))) n
theorem F_X12_spells_2_0 {G : Gx} {h : Hp} {nx : Nat} {l0 : Nat} {l1 : Nat} {l2 : Int32} : F_X12_spells_2 G 0 h nx l0 l1 l2 = none := rfl
theorem F_X12_spells_2_s {G : Gx} {n : Nat} {h : Hp} {nx : Nat} {l0 : Nat} {l1 : Nat} {l2 : Int32} : F_X12_spells_2 G (n + 1) h nx l0 l1 l2 = (
stL l1 (fun v1 =>
if v1 ≤ l2 then
some ((), h, nx)
else
stC l1 l2 (fun v2 =>
ck h l0 [12] (fun _ =>
cl (F_X12_must G h nx l0 v2) (fun _ h4 n5 =>
nm (l2 + (nI 1)) (fun v6 =>
((F_X12_spells_2 G n) h4 n5 l0 l1 v6))))))) := rfl
set_option maxRecDepth 100000 in
set_option maxHeartbeats 4000000 in
theorem k_X12_spells_2 {G : Gx} {d : Nat} {v' : Unit} {h' : Hp} {n' : Nat} : ∀ (n : Nat) {h : Hp} {nx : Nat} {l0 : Nat} {l1 : Nat} {l2 : Int32}, F_X12_spells_2 G n h nx l0 l1 l2 = some (v', h', n') → Ok G mX12_spells (d + 5) (Same none h' n') 2 [some (.ref l0), some (.ref (g_sK G l1)), some (.int l2)] [] h nx 0 0 := by
  intro n
  induction n with
  | zero =>
    intro h nx l0 l1 l2 e
    rw [F_X12_spells_2_0] at e
    cases e
  | succ n K2 =>
    intro h nx l0 l1 l2 e
    rw [F_X12_spells_2_s] at e
    refine Ok.iload_n dX12_spells_2 rfl ?_
    refine Ok.aload_n dX12_spells_3 rfl ?_
    refine X.rstL dX12_spells_4 wd1220 ⟨(Nat.le_of_ble_eq_true rfl), (Nat.le_of_ble_eq_true rfl)⟩ (Nat.le_of_ble_eq_true rfl) e (fun v1 e1 => ?_)
    clear e
    refine X.icmp_ge (tgt := 25) dX12_spells_7 (by decide) e1 (fun e2 => ?_) (fun e2 => ?_)
    · clear e1
      exact X.vret dX12_spells_25 rfl (Nat.le_of_ble_eq_true rfl) (Nat.le_of_ble_eq_true rfl) e2
    · clear e1
      refine Ok.aload_n dX12_spells_10 rfl ?_
      refine Ok.aload_n dX12_spells_11 rfl ?_
      refine Ok.iload_n dX12_spells_12 rfl ?_
      refine X.rstC dX12_spells_13 wd1221 ⟨(Nat.le_of_ble_eq_true rfl), (Nat.le_of_ble_eq_true rfl)⟩ (Nat.le_of_ble_eq_true rfl) e2 (fun v2 e3 => ?_)
      clear e2
      refine X.rck e3 (fun c fs hb hc e4 => ?_)
      clear e3
      obtain rfl := List.mem_singleton.mp hc
      refine X.callV (My := mX12_must) (n := 1) (As := [.int v2]) (T := (fun v => none)) (stk' := (fun _ => [])) (rest := []) (kc' := 0) (ks' := 0) dX12_spells_16 e4 (fun v h n e => k_X12_must (d := d + 3) e) hb rfl wd1225 wd80 wd1224 wd29 wd1222 (by decide +kernel) rfl (by decide) rfl rfl (Nat.le_of_ble_eq_true rfl) (Nat.le_of_ble_eq_true rfl) (Nat.le_of_ble_eq_true rfl) rfl rfl (fun _ => rfl) (fun _ h4 n5 e5 => ?_)
      clear e4
      refine X.iinc dX12_spells_19 rfl (by decide) (by decide +kernel) e5 (L := fun v6 => [some (.ref l0), some (.ref (g_sK G l1)), some (.int v6)]) (fun _ => rfl) (fun v6 e6 => ?_)
      clear e5
      refine Ok.goto (tgt := 2) dX12_spells_22 (by decide) ?_
      exact Ok.weakL (K2 e6) ⟨rfl, ⟨rfl, ⟨rfl, trivial⟩⟩⟩
noncomputable def F_X12_spells (G : Gx) (h : Hp) (nx : Nat) (a0 : Nat) (a1 : Nat) : Rz Unit :=
(F_X12_spells_2 G fuelL h nx a0 a1 (nI 0))
set_option maxRecDepth 100000 in
set_option maxHeartbeats 4000000 in
theorem k_X12_spells {G : Gx} {d : Nat} {h : Hp} {nx : Nat} {a0 : Nat} {a1 : Nat} {v' : Unit} {h' : Hp} {n' : Nat} (e : F_X12_spells G h nx a0 a1 = some (v', h', n')) : Ct G mX12_spells (d + 5) (Same none h' n') [.ref a0, .ref (g_sK G a1)] h nx := by
  unfold F_X12_spells at e
  refine Ct.of (ls := [some (.ref a0), some (.ref (g_sK G a1)), none]) (by decide +kernel) rfl (Nat.le_of_ble_eq_true rfl) rfl ?_
  refine Ok.iconstV (v := (nI 0)) dX12_spells_0 (by decide +kernel) ?_
  refine XL.istore_n dX12_spells_1 (by decide) (L := [some (.ref a0), some (.ref (g_sK G a1)), some (.int (nI 0))]) rfl ?_
  exact Ok.weakL (k_X12_spells_2 (d := d) fuelL e) ⟨rfl, ⟨rfl, ⟨rfl, trivial⟩⟩⟩
noncomputable def F_X12_figures_97 (G : Gx) (h : Hp) (nx : Nat) (l1 : Int32) : Rz Int32 :=
some (l1, h, nx)
set_option maxRecDepth 100000 in
set_option maxHeartbeats 4000000 in
theorem k_X12_figures_97 {G : Gx} {d : Nat} {v' : Int32} {h' : Hp} {n' : Nat} {h : Hp} {nx : Nat} {l1 : Int32} (e : F_X12_figures_97 G h nx l1 = some (v', h', n')) : Ok G mX12_figures (d + 1) (Same (some (.int v')) h' n') 97 [none, some (.int l1), none] [] h nx 0 0 := by
  unfold F_X12_figures_97 at e
  refine Ok.iload_n dX12_figures_97 rfl ?_
  exact X.iret dX12_figures_98 rfl (Nat.le_of_ble_eq_true rfl) (Nat.le_of_ble_eq_true rfl) e
noncomputable def F_X12_figures_68 (G : Gx) (k34 : Hp → Nat → Nat → Int32 → Int32 → Rz Int32) (h : Hp) (nx : Nat) (l0 : Nat) (l1 : Int32) (l2 : Int32) : Rz Int32 :=
ck h l0 [12] (fun _ =>
cl (F_X12_here G h nx l0) (fun r1 h2 n3 =>
nm (((((((nI 10) * l1)) + r1)) - (nI 48))) (fun v4 =>
gfI h2 l0 [12] 5 (fun v5 =>
pfV h2 l0 [12] 5 (.int ((v5 + (nI 1)))) (fun h6 =>
nm (l2 + (nI 1)) (fun v7 =>
(k34 h6 n3 l0 v4 v7)))))))
set_option maxRecDepth 100000 in
set_option maxHeartbeats 4000000 in
theorem k_X12_figures_68 {G : Gx} {d : Nat} {v' : Int32} {h' : Hp} {n' : Nat} {k34 : Hp → Nat → Nat → Int32 → Int32 → Rz Int32} (K34 : ∀ {h : Hp} {nx : Nat} {l0 : Nat} {l1 : Int32} {l2 : Int32}, k34 h nx l0 l1 l2 = some (v', h', n') → Ok G mX12_figures (d + 1) (Same (some (.int v')) h' n') 34 [some (.ref l0), some (.int l1), some (.int l2)] [] h nx 0 0) {h : Hp} {nx : Nat} {l0 : Nat} {l1 : Int32} {l2 : Int32} (e : F_X12_figures_68 G k34 h nx l0 l1 l2 = some (v', h', n')) : Ok G mX12_figures (d + 1) (Same (some (.int v')) h' n') 68 [some (.ref l0), some (.int l1), some (.int l2)] [] h nx 0 0 := by
  unfold F_X12_figures_68 at e
  refine Ok.bipushV (v := (nI 10)) dX12_figures_68 (by decide +kernel) ?_
  refine Ok.iload_n dX12_figures_70 rfl ?_
  refine Ok.imul dX12_figures_71 ?_
  refine Ok.aload_n dX12_figures_72 rfl ?_
  refine X.rck e (fun c fs hb hc e1 => ?_)
  clear e
  obtain rfl := List.mem_singleton.mp hc
  refine X.callV (My := mX12_here) (n := 0) (As := []) (T := (fun v => (some (.int v)))) (stk' := (fun v => [.int v, .int (((nI 10) * l1))])) (rest := [.int (((nI 10) * l1))]) (kc' := 0) (ks' := 0) dX12_figures_73 e1 (fun v h n e => k_X12_here (d := d + 0) e) hb rfl wd1209 wd80 wd1208 wd26 wd1206 (by decide +kernel) rfl (by decide) rfl rfl (Nat.le_of_ble_eq_true rfl) (Nat.le_of_ble_eq_true rfl) (Nat.le_of_ble_eq_true rfl) rfl rfl (fun _ => rfl) (fun r1 h2 n3 e2 => ?_)
  clear e1
  refine Ok.iadd dX12_figures_76 ?_
  refine Ok.bipushV (v := (nI 48)) dX12_figures_77 (by decide +kernel) ?_
  refine Ok.isub dX12_figures_79 ?_
  refine X.istore_n dX12_figures_80 (by decide) e2 (L := fun v4 => [some (.ref l0), some (.int v4), some (.int l2)]) (fun _ => rfl) (fun v4 e3 => ?_)
  clear e2
  refine Ok.aload_n dX12_figures_81 rfl ?_
  refine Ok.dup dX12_figures_82 rfl ?_
  refine X.rgfI fl_RX12_75 dX12_figures_83 e3 (fun v5 e4 => ?_)
  clear e3
  refine Ok.iconstV (v := (nI 1)) dX12_figures_86 (by decide +kernel) ?_
  refine Ok.iadd dX12_figures_87 ?_
  refine X.rpfV (v := (.int ((v5 + (nI 1))))) fp_RX12_75 rfl rfl dX12_figures_88 e4 (fun h6 e5 => ?_)
  clear e4
  refine X.iinc dX12_figures_91 rfl (by decide) (by decide +kernel) e5 (L := fun v7 => [some (.ref l0), some (.int v4), some (.int v7)]) (fun _ => rfl) (fun v7 e6 => ?_)
  clear e5
  refine Ok.goto (tgt := 34) dX12_figures_94 (by decide) ?_
  exact Ok.weakL (K34 e6) ⟨rfl, ⟨rfl, ⟨rfl, trivial⟩⟩⟩
noncomputable def F_X12_figures_34 (G : Gx) : Nat → Hp → Nat → Nat → Int32 → Int32 → Rz Int32 := fun n => Nat.rec (motive := fun _ => Hp → Nat → Nat → Int32 → Int32 → Rz Int32) (fun _ _ _ _ _ => none) (fun _ k34 => fun h nx l0 l1 l2 =>
if (nI 3) ≤ l2 then
(F_X12_figures_97 G h nx l1)
else
gfI h l0 [12] 7 (fun v1 =>
if v1 = 0 then
ck h l0 [12] (fun _ =>
cl (F_X12_here G h nx l0) (fun r2 h3 n4 =>
cl (F_X12_in G h3 n4 r2 (nI 48) (nI 57)) (fun r5 h6 n7 =>
if r5 = 0 then
(F_X12_figures_97 G h6 n7 l1)
else
if l2 = 0 then
(F_X12_figures_68 G k34 h6 n7 l0 l1 l2)
else
if l1 ≤ 0 then
(F_X12_figures_97 G h6 n7 l1)
else
(F_X12_figures_68 G k34 h6 n7 l0 l1 l2))))
else
(F_X12_figures_97 G h nx l1))) n
theorem F_X12_figures_34_0 {G : Gx} {h : Hp} {nx : Nat} {l0 : Nat} {l1 : Int32} {l2 : Int32} : F_X12_figures_34 G 0 h nx l0 l1 l2 = none := rfl
theorem F_X12_figures_34_s {G : Gx} {n : Nat} {h : Hp} {nx : Nat} {l0 : Nat} {l1 : Int32} {l2 : Int32} : F_X12_figures_34 G (n + 1) h nx l0 l1 l2 = (
if (nI 3) ≤ l2 then
(F_X12_figures_97 G h nx l1)
else
gfI h l0 [12] 7 (fun v1 =>
if v1 = 0 then
ck h l0 [12] (fun _ =>
cl (F_X12_here G h nx l0) (fun r2 h3 n4 =>
cl (F_X12_in G h3 n4 r2 (nI 48) (nI 57)) (fun r5 h6 n7 =>
if r5 = 0 then
(F_X12_figures_97 G h6 n7 l1)
else
if l2 = 0 then
(F_X12_figures_68 G (F_X12_figures_34 G n) h6 n7 l0 l1 l2)
else
if l1 ≤ 0 then
(F_X12_figures_97 G h6 n7 l1)
else
(F_X12_figures_68 G (F_X12_figures_34 G n) h6 n7 l0 l1 l2))))
else
(F_X12_figures_97 G h nx l1))) := rfl
set_option maxRecDepth 100000 in
set_option maxHeartbeats 4000000 in
theorem k_X12_figures_34 {G : Gx} {d : Nat} {v' : Int32} {h' : Hp} {n' : Nat} : ∀ (n : Nat) {h : Hp} {nx : Nat} {l0 : Nat} {l1 : Int32} {l2 : Int32}, F_X12_figures_34 G n h nx l0 l1 l2 = some (v', h', n') → Ok G mX12_figures (d + 1) (Same (some (.int v')) h' n') 34 [some (.ref l0), some (.int l1), some (.int l2)] [] h nx 0 0 := by
  intro n
  induction n with
  | zero =>
    intro h nx l0 l1 l2 e
    rw [F_X12_figures_34_0] at e
    cases e
  | succ n K34 =>
    intro h nx l0 l1 l2 e
    rw [F_X12_figures_34_s] at e
    refine Ok.iload_n dX12_figures_34 rfl ?_
    refine Ok.iconstV (v := (nI 3)) dX12_figures_35 (by decide +kernel) ?_
    refine X.icmp_ge (tgt := 97) dX12_figures_36 (by decide) e (fun e1 => ?_) (fun e1 => ?_)
    · clear e
      exact Ok.weakL (k_X12_figures_97 (d := d) e1) ⟨rfl, trivial⟩
    · clear e
      refine Ok.aload_n dX12_figures_39 rfl ?_
      refine X.rgfI fl_RX12_81 dX12_figures_40 e1 (fun v1 e2 => ?_)
      clear e1
      refine X.if_ne (tgt := 97) dX12_figures_43 (by decide) e2 (fun e3 => ?_) (fun e3 => ?_)
      · clear e2
        exact Ok.weakL (k_X12_figures_97 (d := d) e3) ⟨rfl, trivial⟩
      · clear e2
        refine Ok.aload_n dX12_figures_46 rfl ?_
        refine X.rck e3 (fun c fs hb hc e4 => ?_)
        clear e3
        obtain rfl := List.mem_singleton.mp hc
        refine X.callV (My := mX12_here) (n := 0) (As := []) (T := (fun v => (some (.int v)))) (stk' := (fun v => [.int v])) (rest := []) (kc' := 0) (ks' := 0) dX12_figures_47 e4 (fun v h n e => k_X12_here (d := d + 0) e) hb rfl wd1209 wd80 wd1208 wd26 wd1206 (by decide +kernel) rfl (by decide) rfl rfl (Nat.le_of_ble_eq_true rfl) (Nat.le_of_ble_eq_true rfl) (Nat.le_of_ble_eq_true rfl) rfl rfl (fun _ => rfl) (fun r2 h3 n4 e5 => ?_)
        clear e4
        refine Ok.bipushV (v := (nI 48)) dX12_figures_50 (by decide +kernel) ?_
        refine Ok.bipushV (v := (nI 57)) dX12_figures_52 (by decide +kernel) ?_
        refine X.callS (My := mX12_in) (n := 3) (As := [.int r2, .int (nI 48), .int (nI 57)]) (T := (fun v => (some (.int v)))) (stk' := (fun v => [.int v])) (rest := []) (kc' := 0) (ks' := 0) dX12_figures_54 e5 (fun v h n e => k_X12_in (d := d + 0) e) wd1196 wd80 wd1195 wd1194 (by decide +kernel) rfl (by decide) rfl rfl (Nat.le_of_ble_eq_true rfl) (Nat.le_of_ble_eq_true rfl) (Nat.le_of_ble_eq_true rfl) rfl rfl (fun _ => rfl) (fun r5 h6 n7 e6 => ?_)
        clear e5
        refine X.if_eq (tgt := 97) dX12_figures_57 (by decide) e6 (fun e7 => ?_) (fun e7 => ?_)
        · clear e6
          exact Ok.weakL (k_X12_figures_97 (d := d) e7) ⟨rfl, trivial⟩
        · clear e6
          refine Ok.iload_n dX12_figures_60 rfl ?_
          refine X.if_eq (tgt := 68) dX12_figures_61 (by decide) e7 (fun e8 => ?_) (fun e8 => ?_)
          · clear e7
            exact Ok.weakL (k_X12_figures_68 (d := d) K34 e8) ⟨rfl, ⟨rfl, ⟨rfl, trivial⟩⟩⟩
          · clear e7
            refine Ok.iload_n dX12_figures_64 rfl ?_
            refine X.if_le (tgt := 97) dX12_figures_65 (by decide) e8 (fun e9 => ?_) (fun e9 => ?_)
            · clear e8
              exact Ok.weakL (k_X12_figures_97 (d := d) e9) ⟨rfl, trivial⟩
            · clear e8
              exact Ok.weakL (k_X12_figures_68 (d := d) K34 e9) ⟨rfl, ⟨rfl, ⟨rfl, trivial⟩⟩⟩
noncomputable def F_X12_figures_27 (G : Gx) (h : Hp) (nx : Nat) (s0 : Nat) (s1 : Int32) (l0 : Nat) : Rz Int32 :=
zk s1 (
pfV h s0 [12] 7 (.int s1) (fun h1 =>
(F_X12_figures_34 G fuelL h1 nx l0 (nI 0) (nI 0))))
set_option maxRecDepth 100000 in
set_option maxHeartbeats 4000000 in
theorem k_X12_figures_27 {G : Gx} {d : Nat} {v' : Int32} {h' : Hp} {n' : Nat} {h : Hp} {nx : Nat} {s0 : Nat} {s1 : Int32} {l0 : Nat} (e : F_X12_figures_27 G h nx s0 s1 l0 = some (v', h', n')) : Ok G mX12_figures (d + 1) (Same (some (.int v')) h' n') 27 [some (.ref l0), none, none] [.int s1, .ref s0] h nx 0 0 := by
  unfold F_X12_figures_27 at e
  refine X.rzk e (fun z e1 => ?_)
  clear e
  refine X.rpfV (v := (.int s1)) fp_RX12_81 (nar_z z) (fits_z z) dX12_figures_27 e1 (fun h1 e2 => ?_)
  clear e1
  refine Ok.iconstV (v := (nI 0)) dX12_figures_30 (by decide +kernel) ?_
  refine XL.istore_n dX12_figures_31 (by decide) (L := [some (.ref l0), some (.int (nI 0)), none]) rfl ?_
  refine Ok.iconstV (v := (nI 0)) dX12_figures_32 (by decide +kernel) ?_
  refine XL.istore_n dX12_figures_33 (by decide) (L := [some (.ref l0), some (.int (nI 0)), some (.int (nI 0))]) rfl ?_
  exact Ok.weakL (k_X12_figures_34 (d := d) fuelL e2) ⟨rfl, ⟨rfl, ⟨rfl, trivial⟩⟩⟩
noncomputable def F_X12_figures_22 (G : Gx) (h : Hp) (nx : Nat) (s0 : Nat) (l0 : Nat) : Rz Int32 :=
(F_X12_figures_27 G h nx s0 (nI 1) l0)
set_option maxRecDepth 100000 in
set_option maxHeartbeats 4000000 in
theorem k_X12_figures_22 {G : Gx} {d : Nat} {v' : Int32} {h' : Hp} {n' : Nat} {h : Hp} {nx : Nat} {s0 : Nat} {l0 : Nat} (e : F_X12_figures_22 G h nx s0 l0 = some (v', h', n')) : Ok G mX12_figures (d + 1) (Same (some (.int v')) h' n') 22 [some (.ref l0), none, none] [.ref s0] h nx 0 0 := by
  unfold F_X12_figures_22 at e
  refine Ok.iconstV (v := (nI 1)) dX12_figures_22 (by decide +kernel) ?_
  refine Ok.goto (tgt := 27) dX12_figures_23 (by decide) ?_
  exact Ok.weakL (k_X12_figures_27 (d := d) e) ⟨rfl, trivial⟩
noncomputable def F_X12_figures (G : Gx) (h : Hp) (nx : Nat) (a0 : Nat) : Rz Int32 :=
gfI h a0 [12] 7 (fun v1 =>
if v1 = 0 then
ck h a0 [12] (fun _ =>
cl (F_X12_here G h nx a0) (fun r2 h3 n4 =>
cl (F_X12_in G h3 n4 r2 (nI 48) (nI 57)) (fun r5 h6 n7 =>
if r5 = 0 then
(F_X12_figures_22 G h6 n7 a0 a0)
else
(F_X12_figures_27 G h6 n7 a0 (nI 0) a0))))
else
(F_X12_figures_22 G h nx a0 a0))
set_option maxRecDepth 100000 in
set_option maxHeartbeats 4000000 in
theorem k_X12_figures {G : Gx} {d : Nat} {h : Hp} {nx : Nat} {a0 : Nat} {v' : Int32} {h' : Hp} {n' : Nat} (e : F_X12_figures G h nx a0 = some (v', h', n')) : Ct G mX12_figures (d + 1) (Same (some (.int v')) h' n') [.ref a0] h nx := by
  unfold F_X12_figures at e
  refine Ct.of (ls := [some (.ref a0), none, none]) (by decide +kernel) rfl (Nat.le_of_ble_eq_true rfl) rfl ?_
  refine Ok.aload_n dX12_figures_0 rfl ?_
  refine Ok.aload_n dX12_figures_1 rfl ?_
  refine X.rgfI fl_RX12_81 dX12_figures_2 e (fun v1 e1 => ?_)
  clear e
  refine X.if_ne (tgt := 22) dX12_figures_5 (by decide) e1 (fun e2 => ?_) (fun e2 => ?_)
  · clear e1
    exact Ok.weakL (k_X12_figures_22 (d := d) e2) ⟨rfl, trivial⟩
  · clear e1
    refine Ok.aload_n dX12_figures_8 rfl ?_
    refine X.rck e2 (fun c fs hb hc e3 => ?_)
    clear e2
    obtain rfl := List.mem_singleton.mp hc
    refine X.callV (My := mX12_here) (n := 0) (As := []) (T := (fun v => (some (.int v)))) (stk' := (fun v => [.int v, .ref a0])) (rest := [.ref a0]) (kc' := 0) (ks' := 0) dX12_figures_9 e3 (fun v h n e => k_X12_here (d := d + 0) e) hb rfl wd1209 wd80 wd1208 wd26 wd1206 (by decide +kernel) rfl (by decide) rfl rfl (Nat.le_of_ble_eq_true rfl) (Nat.le_of_ble_eq_true rfl) (Nat.le_of_ble_eq_true rfl) rfl rfl (fun _ => rfl) (fun r2 h3 n4 e4 => ?_)
    clear e3
    refine Ok.bipushV (v := (nI 48)) dX12_figures_12 (by decide +kernel) ?_
    refine Ok.bipushV (v := (nI 57)) dX12_figures_14 (by decide +kernel) ?_
    refine X.callS (My := mX12_in) (n := 3) (As := [.int r2, .int (nI 48), .int (nI 57)]) (T := (fun v => (some (.int v)))) (stk' := (fun v => [.int v, .ref a0])) (rest := [.ref a0]) (kc' := 0) (ks' := 0) dX12_figures_16 e4 (fun v h n e => k_X12_in (d := d + 0) e) wd1196 wd80 wd1195 wd1194 (by decide +kernel) rfl (by decide) rfl rfl (Nat.le_of_ble_eq_true rfl) (Nat.le_of_ble_eq_true rfl) (Nat.le_of_ble_eq_true rfl) rfl rfl (fun _ => rfl) (fun r5 h6 n7 e5 => ?_)
    clear e4
    refine X.if_ne (tgt := 26) dX12_figures_19 (by decide) e5 (fun e6 => ?_) (fun e6 => ?_)
    · clear e5
      refine Ok.iconstV (v := (nI 0)) dX12_figures_26 (by decide +kernel) ?_
      exact Ok.weakL (k_X12_figures_27 (d := d) e6) ⟨rfl, trivial⟩
    · clear e5
      exact Ok.weakL (k_X12_figures_22 (d := d) e6) ⟨rfl, trivial⟩
noncomputable def F_X12_emits_56 (G : Gx) (h : Hp) (nx : Nat) : Rz Unit :=
some ((), h, nx)
set_option maxRecDepth 100000 in
set_option maxHeartbeats 4000000 in
theorem k_X12_emits_56 {G : Gx} {d : Nat} {v' : Unit} {h' : Hp} {n' : Nat} {h : Hp} {nx : Nat} (e : F_X12_emits_56 G h nx = some (v', h', n')) : Ok G mX12_emits (d + 0) (Same none h' n') 56 [none, none] [] h nx 0 0 := by
  unfold F_X12_emits_56 at e
  exact X.vret dX12_emits_56 rfl (Nat.le_of_ble_eq_true rfl) (Nat.le_of_ble_eq_true rfl) e
noncomputable def F_X12_emits (G : Gx) (h : Hp) (nx : Nat) (a0 : Nat) (a1 : Int32) : Rz Unit :=
gfI h a0 [12] 7 (fun v1 =>
if v1 = 0 then
gfR h a0 [12] 1 (fun v2 =>
gfI h a0 [12] 4 (fun v3 =>
gfR h a0 [12] 1 (fun v4 =>
gfI h a0 [12] 4 (fun v5 =>
nn v4 (fun p6 =>
alI (g_c G 0) h p6 (((nI 130) + v5)) (fun v7 =>
nn v2 (fun p8 =>
asI (g_c G 0) id h p8 (((((nI 170) + (((nI 140) * v3)))) + v7)) a1 (fun h9 =>
gfR h9 a0 [12] 1 (fun v10 =>
gfI h9 a0 [12] 4 (fun v11 =>
nn v10 (fun p12 =>
alI (g_c G 0) h9 p12 (((nI 130) + v11)) (fun v13 =>
asI (g_c G 0) id h9 p12 (((nI 130) + v11)) ((v13 + (nI 1))) (fun h14 =>
(F_X12_emits_56 G h14 nx))))))))))))))
else
(F_X12_emits_56 G h nx))
set_option maxRecDepth 100000 in
set_option maxHeartbeats 4000000 in
theorem k_X12_emits {G : Gx} {d : Nat} {h : Hp} {nx : Nat} {a0 : Nat} {a1 : Int32} {v' : Unit} {h' : Hp} {n' : Nat} (e : F_X12_emits G h nx a0 a1 = some (v', h', n')) : Ct G mX12_emits (d + 0) (Same none h' n') [.ref a0, .int a1] h nx := by
  unfold F_X12_emits at e
  refine Ct.of (ls := [some (.ref a0), some (.int a1)]) (by decide +kernel) rfl (Nat.le_of_ble_eq_true rfl) rfl ?_
  refine Ok.aload_n dX12_emits_0 rfl ?_
  refine X.rgfI fl_RX12_81 dX12_emits_1 e (fun v1 e1 => ?_)
  clear e
  refine X.if_ne (tgt := 56) dX12_emits_4 (by decide) e1 (fun e2 => ?_) (fun e2 => ?_)
  · clear e1
    exact Ok.weakL (k_X12_emits_56 (d := d) e2) trivial
  · clear e1
    refine Ok.aload_n dX12_emits_7 rfl ?_
    refine X.rgfR fl_RX12_9 dX12_emits_8 e2 (fun v2 e3 => ?_)
    clear e2
    refine Ok.sipushV (v := (nI 170)) dX12_emits_11 (by decide +kernel) ?_
    refine Ok.sipushV (v := (nI 140)) dX12_emits_14 (by decide +kernel) ?_
    refine Ok.aload_n dX12_emits_17 rfl ?_
    refine X.rgfI fl_RX12_102 dX12_emits_18 e3 (fun v3 e4 => ?_)
    clear e3
    refine Ok.imul dX12_emits_21 ?_
    refine Ok.iadd dX12_emits_22 ?_
    refine Ok.aload_n dX12_emits_23 rfl ?_
    refine X.rgfR fl_RX12_9 dX12_emits_24 e4 (fun v4 e5 => ?_)
    clear e4
    refine Ok.sipushV (v := (nI 130)) dX12_emits_27 (by decide +kernel) ?_
    refine Ok.aload_n dX12_emits_30 rfl ?_
    refine X.rgfI fl_RX12_102 dX12_emits_31 e5 (fun v5 e6 => ?_)
    clear e5
    refine Ok.iadd dX12_emits_34 ?_
    refine X.rnn e6 (fun p6 q e7 => ?_)
    clear e6
    subst q
    refine X.iald dX12_emits_35 e7 (fun v7 e8 => ?_)
    clear e7
    refine Ok.iadd dX12_emits_36 ?_
    refine Ok.iload_n dX12_emits_37 rfl ?_
    refine X.rnn e8 (fun p8 q e9 => ?_)
    clear e8
    subst q
    refine X.iast dX12_emits_38 e9 (fun h9 e10 => ?_)
    clear e9
    refine Ok.aload_n dX12_emits_39 rfl ?_
    refine X.rgfR fl_RX12_9 dX12_emits_40 e10 (fun v10 e11 => ?_)
    clear e10
    refine Ok.sipushV (v := (nI 130)) dX12_emits_43 (by decide +kernel) ?_
    refine Ok.aload_n dX12_emits_46 rfl ?_
    refine X.rgfI fl_RX12_102 dX12_emits_47 e11 (fun v11 e12 => ?_)
    clear e11
    refine Ok.iadd dX12_emits_50 ?_
    refine Ok.dup2 dX12_emits_51 rfl (va_rf_cat _) ?_
    refine X.rnn e12 (fun p12 q e13 => ?_)
    clear e12
    subst q
    refine X.iald dX12_emits_52 e13 (fun v13 e14 => ?_)
    clear e13
    refine Ok.iconstV (v := (nI 1)) dX12_emits_53 (by decide +kernel) ?_
    refine Ok.iadd dX12_emits_54 ?_
    refine X.iast dX12_emits_55 e14 (fun h14 e15 => ?_)
    clear e14
    exact Ok.weakL (k_X12_emits_56 (d := d) e15) trivial
noncomputable def F_X12_every_43 (G : Gx) (c_X12_every : Hp → Nat → Nat → Rz Unit) (c_X12_factor : Hp → Nat → Nat → Rz Unit) (c_X12_some : Hp → Nat → Nat → Rz Unit) (h : Hp) (nx : Nat) : Rz Unit :=
some ((), h, nx)
set_option maxRecDepth 100000 in
set_option maxHeartbeats 4000000 in
theorem k_X12_every_43 {G : Gx} {d : Nat} {v' : Unit} {h' : Hp} {n' : Nat} {c_X12_every : Hp → Nat → Nat → Rz Unit} (C_X12_every : ∀ {h : Hp} {nx : Nat} {b0 : Nat} {v : Unit} {h1 : Hp} {n1 : Nat}, c_X12_every h nx b0 = some (v, h1, n1) → Ct G mX12_every (d + 2) (Same none h1 n1) [.ref b0] h nx) {c_X12_factor : Hp → Nat → Nat → Rz Unit} (C_X12_factor : ∀ {h : Hp} {nx : Nat} {b0 : Nat} {v : Unit} {h1 : Hp} {n1 : Nat}, c_X12_factor h nx b0 = some (v, h1, n1) → Ct G mX12_factor (d + 2) (Same none h1 n1) [.ref b0] h nx) {c_X12_some : Hp → Nat → Nat → Rz Unit} (C_X12_some : ∀ {h : Hp} {nx : Nat} {b0 : Nat} {v : Unit} {h1 : Hp} {n1 : Nat}, c_X12_some h nx b0 = some (v, h1, n1) → Ct G mX12_some (d + 2) (Same none h1 n1) [.ref b0] h nx) {h : Hp} {nx : Nat} (e : F_X12_every_43 G c_X12_every c_X12_factor c_X12_some h nx = some (v', h', n')) : Ok G mX12_every (d + 3) (Same none h' n') 43 [none] [] h nx 0 0 := by
  unfold F_X12_every_43 at e
  exact X.vret dX12_every_43 rfl (Nat.le_of_ble_eq_true rfl) (Nat.le_of_ble_eq_true rfl) e
noncomputable def F_X12_every_4 (G : Gx) (c_X12_every : Hp → Nat → Nat → Rz Unit) (c_X12_factor : Hp → Nat → Nat → Rz Unit) (c_X12_some : Hp → Nat → Nat → Rz Unit) : Nat → Hp → Nat → Nat → Rz Unit := fun n => Nat.rec (motive := fun _ => Hp → Nat → Nat → Rz Unit) (fun _ _ _ => none) (fun _ k4 => fun h nx l0 =>
gfI h l0 [12] 7 (fun v1 =>
if v1 = 0 then
ck h l0 [12] (fun _ =>
cl (F_X12_here G h nx l0) (fun r2 h3 n4 =>
if r2 = (nI 38) then
gfI h3 l0 [12] 5 (fun v5 =>
pfV h3 l0 [12] 5 (.int ((v5 + (nI 1)))) (fun h6 =>
ck h6 l0 [12] (fun _ =>
cl (c_X12_factor h6 n4 l0) (fun _ h8 n9 =>
ck h8 l0 [12] (fun _ =>
cl (F_X12_emits G h8 n9 l0 (-2 : Int32)) (fun _ h11 n12 =>
(k4 h11 n12 l0)))))))
else
(F_X12_every_43 G c_X12_every c_X12_factor c_X12_some h3 n4)))
else
(F_X12_every_43 G c_X12_every c_X12_factor c_X12_some h nx))) n
theorem F_X12_every_4_0 {G : Gx} (c_X12_every : Hp → Nat → Nat → Rz Unit) (c_X12_factor : Hp → Nat → Nat → Rz Unit) (c_X12_some : Hp → Nat → Nat → Rz Unit) {h : Hp} {nx : Nat} {l0 : Nat} : F_X12_every_4 G c_X12_every c_X12_factor c_X12_some 0 h nx l0 = none := rfl
theorem F_X12_every_4_s {G : Gx} (c_X12_every : Hp → Nat → Nat → Rz Unit) (c_X12_factor : Hp → Nat → Nat → Rz Unit) (c_X12_some : Hp → Nat → Nat → Rz Unit) {n : Nat} {h : Hp} {nx : Nat} {l0 : Nat} : F_X12_every_4 G c_X12_every c_X12_factor c_X12_some (n + 1) h nx l0 = (
gfI h l0 [12] 7 (fun v1 =>
if v1 = 0 then
ck h l0 [12] (fun _ =>
cl (F_X12_here G h nx l0) (fun r2 h3 n4 =>
if r2 = (nI 38) then
gfI h3 l0 [12] 5 (fun v5 =>
pfV h3 l0 [12] 5 (.int ((v5 + (nI 1)))) (fun h6 =>
ck h6 l0 [12] (fun _ =>
cl (c_X12_factor h6 n4 l0) (fun _ h8 n9 =>
ck h8 l0 [12] (fun _ =>
cl (F_X12_emits G h8 n9 l0 (-2 : Int32)) (fun _ h11 n12 =>
((F_X12_every_4 G c_X12_every c_X12_factor c_X12_some n) h11 n12 l0)))))))
else
(F_X12_every_43 G c_X12_every c_X12_factor c_X12_some h3 n4)))
else
(F_X12_every_43 G c_X12_every c_X12_factor c_X12_some h nx))) := rfl
set_option maxRecDepth 100000 in
set_option maxHeartbeats 4000000 in
theorem k_X12_every_4 {G : Gx} {d : Nat} {v' : Unit} {h' : Hp} {n' : Nat} {c_X12_every : Hp → Nat → Nat → Rz Unit} (C_X12_every : ∀ {h : Hp} {nx : Nat} {b0 : Nat} {v : Unit} {h1 : Hp} {n1 : Nat}, c_X12_every h nx b0 = some (v, h1, n1) → Ct G mX12_every (d + 2) (Same none h1 n1) [.ref b0] h nx) {c_X12_factor : Hp → Nat → Nat → Rz Unit} (C_X12_factor : ∀ {h : Hp} {nx : Nat} {b0 : Nat} {v : Unit} {h1 : Hp} {n1 : Nat}, c_X12_factor h nx b0 = some (v, h1, n1) → Ct G mX12_factor (d + 2) (Same none h1 n1) [.ref b0] h nx) {c_X12_some : Hp → Nat → Nat → Rz Unit} (C_X12_some : ∀ {h : Hp} {nx : Nat} {b0 : Nat} {v : Unit} {h1 : Hp} {n1 : Nat}, c_X12_some h nx b0 = some (v, h1, n1) → Ct G mX12_some (d + 2) (Same none h1 n1) [.ref b0] h nx) : ∀ (n : Nat) {h : Hp} {nx : Nat} {l0 : Nat}, F_X12_every_4 G c_X12_every c_X12_factor c_X12_some n h nx l0 = some (v', h', n') → Ok G mX12_every (d + 3) (Same none h' n') 4 [some (.ref l0)] [] h nx 0 0 := by
  intro n
  induction n with
  | zero =>
    intro h nx l0 e
    rw [F_X12_every_4_0] at e
    cases e
  | succ n K4 =>
    intro h nx l0 e
    rw [F_X12_every_4_s] at e
    refine Ok.aload_n dX12_every_4 rfl ?_
    refine X.rgfI fl_RX12_81 dX12_every_5 e (fun v1 e1 => ?_)
    clear e
    refine X.if_ne (tgt := 43) dX12_every_8 (by decide) e1 (fun e2 => ?_) (fun e2 => ?_)
    · clear e1
      exact Ok.weakL (k_X12_every_43 (d := d) C_X12_every C_X12_factor C_X12_some e2) trivial
    · clear e1
      refine Ok.aload_n dX12_every_11 rfl ?_
      refine X.rck e2 (fun c fs hb hc e3 => ?_)
      clear e2
      obtain rfl := List.mem_singleton.mp hc
      refine X.callV (My := mX12_here) (n := 0) (As := []) (T := (fun v => (some (.int v)))) (stk' := (fun v => [.int v])) (rest := []) (kc' := 0) (ks' := 0) dX12_every_12 e3 (fun v h n e => k_X12_here (d := d + 2) e) hb rfl wd1209 wd80 wd1208 wd26 wd1206 (by decide +kernel) rfl (by decide) rfl rfl (Nat.le_of_ble_eq_true rfl) (Nat.le_of_ble_eq_true rfl) (Nat.le_of_ble_eq_true rfl) rfl rfl (fun _ => rfl) (fun r2 h3 n4 e4 => ?_)
      clear e3
      refine Ok.bipushV (v := (nI 38)) dX12_every_15 (by decide +kernel) ?_
      refine X.icmp_ne (tgt := 43) dX12_every_17 (by decide) e4 (fun e5 => ?_) (fun e5 => ?_)
      · clear e4
        exact Ok.weakL (k_X12_every_43 (d := d) C_X12_every C_X12_factor C_X12_some e5) trivial
      · clear e4
        refine Ok.aload_n dX12_every_20 rfl ?_
        refine Ok.dup dX12_every_21 rfl ?_
        refine X.rgfI fl_RX12_75 dX12_every_22 e5 (fun v5 e6 => ?_)
        clear e5
        refine Ok.iconstV (v := (nI 1)) dX12_every_25 (by decide +kernel) ?_
        refine Ok.iadd dX12_every_26 ?_
        refine X.rpfV (v := (.int ((v5 + (nI 1))))) fp_RX12_75 rfl rfl dX12_every_27 e6 (fun h6 e7 => ?_)
        clear e6
        refine Ok.aload_n dX12_every_30 rfl ?_
        refine X.rck e7 (fun c fs hb hc e8 => ?_)
        clear e7
        obtain rfl := List.mem_singleton.mp hc
        refine X.callV (My := mX12_factor) (n := 0) (As := []) (T := (fun v => none)) (stk' := (fun _ => [])) (rest := []) (kc' := 0) (ks' := 0) dX12_every_31 e8 (fun v h n e => C_X12_factor e) hb rfl wd1241 wd80 wd1240 wd33 wd1238 (by decide +kernel) rfl (by decide) rfl rfl (Nat.le_of_ble_eq_true rfl) (Nat.le_of_ble_eq_true rfl) (Nat.le_of_ble_eq_true rfl) rfl rfl (fun _ => rfl) (fun _ h8 n9 e9 => ?_)
        clear e8
        refine Ok.aload_n dX12_every_34 rfl ?_
        refine Ok.bipushV (v := (-2 : Int32)) dX12_every_35 (by decide +kernel) ?_
        refine X.rck e9 (fun c fs hb hc e10 => ?_)
        clear e9
        obtain rfl := List.mem_singleton.mp hc
        refine X.callV (My := mX12_emits) (n := 1) (As := [.int (-2 : Int32)]) (T := (fun v => none)) (stk' := (fun _ => [])) (rest := []) (kc' := 0) (ks' := 0) dX12_every_37 e10 (fun v h n e => k_X12_emits (d := d + 2) e) hb rfl wd1245 wd80 wd1244 wd34 wd1242 (by decide +kernel) rfl (by decide) rfl rfl (Nat.le_of_ble_eq_true rfl) (Nat.le_of_ble_eq_true rfl) (Nat.le_of_ble_eq_true rfl) rfl rfl (fun _ => rfl) (fun _ h11 n12 e11 => ?_)
        clear e10
        refine Ok.goto (tgt := 4) dX12_every_40 (by decide) ?_
        exact Ok.weakL (K4 e11) ⟨rfl, trivial⟩
noncomputable def B_X12_every (G : Gx) (c_X12_every : Hp → Nat → Nat → Rz Unit) (c_X12_factor : Hp → Nat → Nat → Rz Unit) (c_X12_some : Hp → Nat → Nat → Rz Unit) (h : Hp) (nx : Nat) (a0 : Nat) : Rz Unit :=
ck h a0 [12] (fun _ =>
cl (c_X12_factor h nx a0) (fun _ h2 n3 =>
(F_X12_every_4 G c_X12_every c_X12_factor c_X12_some fuelL h2 n3 a0)))
set_option maxRecDepth 100000 in
set_option maxHeartbeats 4000000 in
theorem b_X12_every {G : Gx} {d : Nat} {c_X12_every : Hp → Nat → Nat → Rz Unit} (C_X12_every : ∀ {h : Hp} {nx : Nat} {b0 : Nat} {v : Unit} {h1 : Hp} {n1 : Nat}, c_X12_every h nx b0 = some (v, h1, n1) → Ct G mX12_every (d + 2) (Same none h1 n1) [.ref b0] h nx) {c_X12_factor : Hp → Nat → Nat → Rz Unit} (C_X12_factor : ∀ {h : Hp} {nx : Nat} {b0 : Nat} {v : Unit} {h1 : Hp} {n1 : Nat}, c_X12_factor h nx b0 = some (v, h1, n1) → Ct G mX12_factor (d + 2) (Same none h1 n1) [.ref b0] h nx) {c_X12_some : Hp → Nat → Nat → Rz Unit} (C_X12_some : ∀ {h : Hp} {nx : Nat} {b0 : Nat} {v : Unit} {h1 : Hp} {n1 : Nat}, c_X12_some h nx b0 = some (v, h1, n1) → Ct G mX12_some (d + 2) (Same none h1 n1) [.ref b0] h nx) {h : Hp} {nx : Nat} {a0 : Nat} {v' : Unit} {h' : Hp} {n' : Nat} (e : B_X12_every G c_X12_every c_X12_factor c_X12_some h nx a0 = some (v', h', n')) : Ct G mX12_every (d + 3) (Same none h' n') [.ref a0] h nx := by
  unfold B_X12_every at e
  refine Ct.of (ls := [some (.ref a0)]) (by decide +kernel) rfl (Nat.le_of_ble_eq_true rfl) rfl ?_
  refine Ok.aload_n dX12_every_0 rfl ?_
  refine X.rck e (fun c fs hb hc e1 => ?_)
  clear e
  obtain rfl := List.mem_singleton.mp hc
  refine X.callV (My := mX12_factor) (n := 0) (As := []) (T := (fun v => none)) (stk' := (fun _ => [])) (rest := []) (kc' := 0) (ks' := 0) dX12_every_1 e1 (fun v h n e => C_X12_factor e) hb rfl wd1241 wd80 wd1240 wd33 wd1238 (by decide +kernel) rfl (by decide) rfl rfl (Nat.le_of_ble_eq_true rfl) (Nat.le_of_ble_eq_true rfl) (Nat.le_of_ble_eq_true rfl) rfl rfl (fun _ => rfl) (fun _ h2 n3 e2 => ?_)
  clear e1
  exact Ok.weakL (k_X12_every_4 (d := d) C_X12_every C_X12_factor C_X12_some fuelL e2) ⟨rfl, trivial⟩
noncomputable def F_X12_factor_101 (G : Gx) (c_X12_every : Hp → Nat → Nat → Rz Unit) (c_X12_factor : Hp → Nat → Nat → Rz Unit) (c_X12_some : Hp → Nat → Nat → Rz Unit) (h : Hp) (nx : Nat) (l0 : Nat) : Rz Unit :=
gfI h l0 [12] 8 (fun v1 =>
pfV h l0 [12] 8 (.int ((v1 - (nI 1)))) (fun h2 =>
some ((), h2, nx)))
set_option maxRecDepth 100000 in
set_option maxHeartbeats 4000000 in
theorem k_X12_factor_101 {G : Gx} {d : Nat} {v' : Unit} {h' : Hp} {n' : Nat} {c_X12_every : Hp → Nat → Nat → Rz Unit} (C_X12_every : ∀ {h : Hp} {nx : Nat} {b0 : Nat} {v : Unit} {h1 : Hp} {n1 : Nat}, c_X12_every h nx b0 = some (v, h1, n1) → Ct G mX12_every (d + 2) (Same none h1 n1) [.ref b0] h nx) {c_X12_factor : Hp → Nat → Nat → Rz Unit} (C_X12_factor : ∀ {h : Hp} {nx : Nat} {b0 : Nat} {v : Unit} {h1 : Hp} {n1 : Nat}, c_X12_factor h nx b0 = some (v, h1, n1) → Ct G mX12_factor (d + 2) (Same none h1 n1) [.ref b0] h nx) {c_X12_some : Hp → Nat → Nat → Rz Unit} (C_X12_some : ∀ {h : Hp} {nx : Nat} {b0 : Nat} {v : Unit} {h1 : Hp} {n1 : Nat}, c_X12_some h nx b0 = some (v, h1, n1) → Ct G mX12_some (d + 2) (Same none h1 n1) [.ref b0] h nx) {h : Hp} {nx : Nat} {l0 : Nat} (e : F_X12_factor_101 G c_X12_every c_X12_factor c_X12_some h nx l0 = some (v', h', n')) : Ok G mX12_factor (d + 3) (Same none h' n') 101 [some (.ref l0), none, none, none] [] h nx 0 0 := by
  unfold F_X12_factor_101 at e
  refine Ok.aload_n dX12_factor_101 rfl ?_
  refine Ok.dup dX12_factor_102 rfl ?_
  refine X.rgfI fl_RX12_105 dX12_factor_103 e (fun v1 e1 => ?_)
  clear e
  refine Ok.iconstV (v := (nI 1)) dX12_factor_106 (by decide +kernel) ?_
  refine Ok.isub dX12_factor_107 ?_
  refine X.rpfV (v := (.int ((v1 - (nI 1))))) fp_RX12_105 rfl rfl dX12_factor_108 e1 (fun h2 e2 => ?_)
  clear e1
  exact X.vret dX12_factor_111 rfl (Nat.le_of_ble_eq_true rfl) (Nat.le_of_ble_eq_true rfl) e2
noncomputable def F_X12_factor_69 (G : Gx) (c_X12_every : Hp → Nat → Nat → Rz Unit) (c_X12_factor : Hp → Nat → Nat → Rz Unit) (c_X12_some : Hp → Nat → Nat → Rz Unit) (h : Hp) (nx : Nat) (s0 : Nat) (s1 : Int32) (s2 : Int32) (l0 : Nat) (l1 : Int32) : Rz Unit :=
pfV h s0 [12] 5 (.int ((s1 + s2))) (fun h1 =>
if l1 = (nI 33) then
ck h1 l0 [12] (fun _ =>
cl (c_X12_factor h1 nx l0) (fun _ h9 n10 =>
ck h9 l0 [12] (fun _ =>
cl (F_X12_emits G h9 n10 l0 (-1 : Int32)) (fun _ h12 n13 =>
(F_X12_factor_101 G c_X12_every c_X12_factor c_X12_some h12 n13 l0)))))
else
ck h1 l0 [12] (fun _ =>
cl (c_X12_some h1 nx l0) (fun _ h3 n4 =>
ck h3 l0 [12] (fun _ =>
cl (F_X12_must G h3 n4 l0 (nI 41)) (fun _ h6 n7 =>
(F_X12_factor_101 G c_X12_every c_X12_factor c_X12_some h6 n7 l0))))))
set_option maxRecDepth 100000 in
set_option maxHeartbeats 4000000 in
theorem k_X12_factor_69 {G : Gx} {d : Nat} {v' : Unit} {h' : Hp} {n' : Nat} {c_X12_every : Hp → Nat → Nat → Rz Unit} (C_X12_every : ∀ {h : Hp} {nx : Nat} {b0 : Nat} {v : Unit} {h1 : Hp} {n1 : Nat}, c_X12_every h nx b0 = some (v, h1, n1) → Ct G mX12_every (d + 2) (Same none h1 n1) [.ref b0] h nx) {c_X12_factor : Hp → Nat → Nat → Rz Unit} (C_X12_factor : ∀ {h : Hp} {nx : Nat} {b0 : Nat} {v : Unit} {h1 : Hp} {n1 : Nat}, c_X12_factor h nx b0 = some (v, h1, n1) → Ct G mX12_factor (d + 2) (Same none h1 n1) [.ref b0] h nx) {c_X12_some : Hp → Nat → Nat → Rz Unit} (C_X12_some : ∀ {h : Hp} {nx : Nat} {b0 : Nat} {v : Unit} {h1 : Hp} {n1 : Nat}, c_X12_some h nx b0 = some (v, h1, n1) → Ct G mX12_some (d + 2) (Same none h1 n1) [.ref b0] h nx) {h : Hp} {nx : Nat} {s0 : Nat} {s1 : Int32} {s2 : Int32} {l0 : Nat} {l1 : Int32} (e : F_X12_factor_69 G c_X12_every c_X12_factor c_X12_some h nx s0 s1 s2 l0 l1 = some (v', h', n')) : Ok G mX12_factor (d + 3) (Same none h' n') 69 [some (.ref l0), some (.int l1), none, none] [.int s2, .int s1, .ref s0] h nx 0 0 := by
  unfold F_X12_factor_69 at e
  refine Ok.iadd dX12_factor_69 ?_
  refine X.rpfV (v := (.int ((s1 + s2)))) fp_RX12_75 rfl rfl dX12_factor_70 e (fun h1 e1 => ?_)
  clear e
  refine Ok.iload_n dX12_factor_73 rfl ?_
  refine Ok.bipushV (v := (nI 33)) dX12_factor_74 (by decide +kernel) ?_
  refine X.icmp_ne (tgt := 91) dX12_factor_76 (by decide) e1 (fun e2 => ?_) (fun e2 => ?_)
  · clear e1
    refine Ok.aload_n dX12_factor_91 rfl ?_
    refine X.rck e2 (fun c fs hb hc e3 => ?_)
    clear e2
    obtain rfl := List.mem_singleton.mp hc
    refine X.callV (My := mX12_some) (n := 0) (As := []) (T := (fun v => none)) (stk' := (fun _ => [])) (rest := []) (kc' := 0) (ks' := 0) dX12_factor_92 e3 (fun v h n e => C_X12_some e) hb rfl wd1233 wd80 wd1232 wd31 wd1230 (by decide +kernel) rfl (by decide) rfl rfl (Nat.le_of_ble_eq_true rfl) (Nat.le_of_ble_eq_true rfl) (Nat.le_of_ble_eq_true rfl) rfl rfl (fun _ => rfl) (fun _ h3 n4 e4 => ?_)
    clear e3
    refine Ok.aload_n dX12_factor_95 rfl ?_
    refine Ok.bipushV (v := (nI 41)) dX12_factor_96 (by decide +kernel) ?_
    refine X.rck e4 (fun c fs hb hc e5 => ?_)
    clear e4
    obtain rfl := List.mem_singleton.mp hc
    refine X.callV (My := mX12_must) (n := 1) (As := [.int (nI 41)]) (T := (fun v => none)) (stk' := (fun _ => [])) (rest := []) (kc' := 0) (ks' := 0) dX12_factor_98 e5 (fun v h n e => k_X12_must (d := d + 1) e) hb rfl wd1225 wd80 wd1224 wd29 wd1222 (by decide +kernel) rfl (by decide) rfl rfl (Nat.le_of_ble_eq_true rfl) (Nat.le_of_ble_eq_true rfl) (Nat.le_of_ble_eq_true rfl) rfl rfl (fun _ => rfl) (fun _ h6 n7 e6 => ?_)
    clear e5
    exact Ok.weakL (k_X12_factor_101 (d := d) C_X12_every C_X12_factor C_X12_some e6) ⟨rfl, trivial⟩
  · clear e1
    refine Ok.aload_n dX12_factor_79 rfl ?_
    refine X.rck e2 (fun c fs hb hc e3 => ?_)
    clear e2
    obtain rfl := List.mem_singleton.mp hc
    refine X.callV (My := mX12_factor) (n := 0) (As := []) (T := (fun v => none)) (stk' := (fun _ => [])) (rest := []) (kc' := 0) (ks' := 0) dX12_factor_80 e3 (fun v h n e => C_X12_factor e) hb rfl wd1241 wd80 wd1240 wd33 wd1238 (by decide +kernel) rfl (by decide) rfl rfl (Nat.le_of_ble_eq_true rfl) (Nat.le_of_ble_eq_true rfl) (Nat.le_of_ble_eq_true rfl) rfl rfl (fun _ => rfl) (fun _ h9 n10 e4 => ?_)
    clear e3
    refine Ok.aload_n dX12_factor_83 rfl ?_
    refine Ok.iconstV (v := (-1 : Int32)) dX12_factor_84 (by decide +kernel) ?_
    refine X.rck e4 (fun c fs hb hc e5 => ?_)
    clear e4
    obtain rfl := List.mem_singleton.mp hc
    refine X.callV (My := mX12_emits) (n := 1) (As := [.int (-1 : Int32)]) (T := (fun v => none)) (stk' := (fun _ => [])) (rest := []) (kc' := 0) (ks' := 0) dX12_factor_85 e5 (fun v h n e => k_X12_emits (d := d + 2) e) hb rfl wd1245 wd80 wd1244 wd34 wd1242 (by decide +kernel) rfl (by decide) rfl rfl (Nat.le_of_ble_eq_true rfl) (Nat.le_of_ble_eq_true rfl) (Nat.le_of_ble_eq_true rfl) rfl rfl (fun _ => rfl) (fun _ h12 n13 e6 => ?_)
    clear e5
    refine Ok.goto (tgt := 101) dX12_factor_88 (by decide) ?_
    exact Ok.weakL (k_X12_factor_101 (d := d) C_X12_every C_X12_factor C_X12_some e6) ⟨rfl, trivial⟩
noncomputable def F_X12_factor_39 (G : Gx) (c_X12_every : Hp → Nat → Nat → Rz Unit) (c_X12_factor : Hp → Nat → Nat → Rz Unit) (c_X12_some : Hp → Nat → Nat → Rz Unit) (h : Hp) (nx : Nat) (s0 : Nat) (s1 : Int32) (l0 : Nat) (l1 : Int32) : Rz Unit :=
zk s1 (
pfV h s0 [12] 7 (.int s1) (fun h1 =>
gfI h1 l0 [12] 8 (fun v2 =>
pfV h1 l0 [12] 8 (.int ((v2 + (nI 1)))) (fun h3 =>
gfI h3 l0 [12] 5 (fun v4 =>
gfI h3 l0 [12] 7 (fun v5 =>
if v5 = 0 then
(F_X12_factor_69 G c_X12_every c_X12_factor c_X12_some h3 nx l0 v4 (nI 1) l0 l1)
else
(F_X12_factor_69 G c_X12_every c_X12_factor c_X12_some h3 nx l0 v4 (nI 0) l0 l1)))))))
set_option maxRecDepth 100000 in
set_option maxHeartbeats 4000000 in
theorem k_X12_factor_39 {G : Gx} {d : Nat} {v' : Unit} {h' : Hp} {n' : Nat} {c_X12_every : Hp → Nat → Nat → Rz Unit} (C_X12_every : ∀ {h : Hp} {nx : Nat} {b0 : Nat} {v : Unit} {h1 : Hp} {n1 : Nat}, c_X12_every h nx b0 = some (v, h1, n1) → Ct G mX12_every (d + 2) (Same none h1 n1) [.ref b0] h nx) {c_X12_factor : Hp → Nat → Nat → Rz Unit} (C_X12_factor : ∀ {h : Hp} {nx : Nat} {b0 : Nat} {v : Unit} {h1 : Hp} {n1 : Nat}, c_X12_factor h nx b0 = some (v, h1, n1) → Ct G mX12_factor (d + 2) (Same none h1 n1) [.ref b0] h nx) {c_X12_some : Hp → Nat → Nat → Rz Unit} (C_X12_some : ∀ {h : Hp} {nx : Nat} {b0 : Nat} {v : Unit} {h1 : Hp} {n1 : Nat}, c_X12_some h nx b0 = some (v, h1, n1) → Ct G mX12_some (d + 2) (Same none h1 n1) [.ref b0] h nx) {h : Hp} {nx : Nat} {s0 : Nat} {s1 : Int32} {l0 : Nat} {l1 : Int32} (e : F_X12_factor_39 G c_X12_every c_X12_factor c_X12_some h nx s0 s1 l0 l1 = some (v', h', n')) : Ok G mX12_factor (d + 3) (Same none h' n') 39 [some (.ref l0), some (.int l1), none, none] [.int s1, .ref s0] h nx 0 0 := by
  unfold F_X12_factor_39 at e
  refine X.rzk e (fun z e1 => ?_)
  clear e
  refine X.rpfV (v := (.int s1)) fp_RX12_81 (nar_z z) (fits_z z) dX12_factor_39 e1 (fun h1 e2 => ?_)
  clear e1
  refine Ok.aload_n dX12_factor_42 rfl ?_
  refine Ok.dup dX12_factor_43 rfl ?_
  refine X.rgfI fl_RX12_105 dX12_factor_44 e2 (fun v2 e3 => ?_)
  clear e2
  refine Ok.iconstV (v := (nI 1)) dX12_factor_47 (by decide +kernel) ?_
  refine Ok.iadd dX12_factor_48 ?_
  refine X.rpfV (v := (.int ((v2 + (nI 1))))) fp_RX12_105 rfl rfl dX12_factor_49 e3 (fun h3 e4 => ?_)
  clear e3
  refine Ok.aload_n dX12_factor_52 rfl ?_
  refine Ok.dup dX12_factor_53 rfl ?_
  refine X.rgfI fl_RX12_75 dX12_factor_54 e4 (fun v4 e5 => ?_)
  clear e4
  refine Ok.aload_n dX12_factor_57 rfl ?_
  refine X.rgfI fl_RX12_81 dX12_factor_58 e5 (fun v5 e6 => ?_)
  clear e5
  refine X.if_eq (tgt := 68) dX12_factor_61 (by decide) e6 (fun e7 => ?_) (fun e7 => ?_)
  · clear e6
    refine Ok.iconstV (v := (nI 1)) dX12_factor_68 (by decide +kernel) ?_
    exact Ok.weakL (k_X12_factor_69 (d := d) C_X12_every C_X12_factor C_X12_some e7) ⟨rfl, ⟨rfl, trivial⟩⟩
  · clear e6
    refine Ok.iconstV (v := (nI 0)) dX12_factor_64 (by decide +kernel) ?_
    refine Ok.goto (tgt := 69) dX12_factor_65 (by decide) ?_
    exact Ok.weakL (k_X12_factor_69 (d := d) C_X12_every C_X12_factor C_X12_some e7) ⟨rfl, ⟨rfl, trivial⟩⟩
noncomputable def F_X12_factor_25 (G : Gx) (c_X12_every : Hp → Nat → Nat → Rz Unit) (c_X12_factor : Hp → Nat → Nat → Rz Unit) (c_X12_some : Hp → Nat → Nat → Rz Unit) (h : Hp) (nx : Nat) (l0 : Nat) (l1 : Int32) : Rz Unit :=
gfI h l0 [12] 8 (fun v1 =>
if v1 = (nI 5) then
(F_X12_factor_39 G c_X12_every c_X12_factor c_X12_some h nx l0 (nI 1) l0 l1)
else
(F_X12_factor_39 G c_X12_every c_X12_factor c_X12_some h nx l0 (nI 0) l0 l1))
set_option maxRecDepth 100000 in
set_option maxHeartbeats 4000000 in
theorem k_X12_factor_25 {G : Gx} {d : Nat} {v' : Unit} {h' : Hp} {n' : Nat} {c_X12_every : Hp → Nat → Nat → Rz Unit} (C_X12_every : ∀ {h : Hp} {nx : Nat} {b0 : Nat} {v : Unit} {h1 : Hp} {n1 : Nat}, c_X12_every h nx b0 = some (v, h1, n1) → Ct G mX12_every (d + 2) (Same none h1 n1) [.ref b0] h nx) {c_X12_factor : Hp → Nat → Nat → Rz Unit} (C_X12_factor : ∀ {h : Hp} {nx : Nat} {b0 : Nat} {v : Unit} {h1 : Hp} {n1 : Nat}, c_X12_factor h nx b0 = some (v, h1, n1) → Ct G mX12_factor (d + 2) (Same none h1 n1) [.ref b0] h nx) {c_X12_some : Hp → Nat → Nat → Rz Unit} (C_X12_some : ∀ {h : Hp} {nx : Nat} {b0 : Nat} {v : Unit} {h1 : Hp} {n1 : Nat}, c_X12_some h nx b0 = some (v, h1, n1) → Ct G mX12_some (d + 2) (Same none h1 n1) [.ref b0] h nx) {h : Hp} {nx : Nat} {l0 : Nat} {l1 : Int32} (e : F_X12_factor_25 G c_X12_every c_X12_factor c_X12_some h nx l0 l1 = some (v', h', n')) : Ok G mX12_factor (d + 3) (Same none h' n') 25 [some (.ref l0), some (.int l1), none, none] [] h nx 0 0 := by
  unfold F_X12_factor_25 at e
  refine Ok.aload_n dX12_factor_25 rfl ?_
  refine Ok.aload_n dX12_factor_26 rfl ?_
  refine X.rgfI fl_RX12_105 dX12_factor_27 e (fun v1 e1 => ?_)
  clear e
  refine Ok.iconstV (v := (nI 5)) dX12_factor_30 (by decide +kernel) ?_
  refine X.icmp_ne (tgt := 38) dX12_factor_31 (by decide) e1 (fun e2 => ?_) (fun e2 => ?_)
  · clear e1
    refine Ok.iconstV (v := (nI 0)) dX12_factor_38 (by decide +kernel) ?_
    exact Ok.weakL (k_X12_factor_39 (d := d) C_X12_every C_X12_factor C_X12_some e2) ⟨rfl, ⟨rfl, trivial⟩⟩
  · clear e1
    refine Ok.iconstV (v := (nI 1)) dX12_factor_34 (by decide +kernel) ?_
    refine Ok.goto (tgt := 39) dX12_factor_35 (by decide) ?_
    exact Ok.weakL (k_X12_factor_39 (d := d) C_X12_every C_X12_factor C_X12_some e2) ⟨rfl, ⟨rfl, trivial⟩⟩
noncomputable def F_X12_factor_253 (G : Gx) (c_X12_every : Hp → Nat → Nat → Rz Unit) (c_X12_factor : Hp → Nat → Nat → Rz Unit) (c_X12_some : Hp → Nat → Nat → Rz Unit) (h : Hp) (nx : Nat) (s0 : Nat) (s1 : Int32) (s2 : Int32) (s3 : Int32) (l3 : Int32) : Rz Unit :=
ck h s0 [12] (fun _ =>
cl (F_X12_emits G h nx s0 ((((s1 + ((s2 * s3)))) + (((nI 8) * l3))))) (fun _ h2 n3 =>
some ((), h2, n3)))
set_option maxRecDepth 100000 in
set_option maxHeartbeats 4000000 in
theorem k_X12_factor_253 {G : Gx} {d : Nat} {v' : Unit} {h' : Hp} {n' : Nat} {c_X12_every : Hp → Nat → Nat → Rz Unit} (C_X12_every : ∀ {h : Hp} {nx : Nat} {b0 : Nat} {v : Unit} {h1 : Hp} {n1 : Nat}, c_X12_every h nx b0 = some (v, h1, n1) → Ct G mX12_every (d + 2) (Same none h1 n1) [.ref b0] h nx) {c_X12_factor : Hp → Nat → Nat → Rz Unit} (C_X12_factor : ∀ {h : Hp} {nx : Nat} {b0 : Nat} {v : Unit} {h1 : Hp} {n1 : Nat}, c_X12_factor h nx b0 = some (v, h1, n1) → Ct G mX12_factor (d + 2) (Same none h1 n1) [.ref b0] h nx) {c_X12_some : Hp → Nat → Nat → Rz Unit} (C_X12_some : ∀ {h : Hp} {nx : Nat} {b0 : Nat} {v : Unit} {h1 : Hp} {n1 : Nat}, c_X12_some h nx b0 = some (v, h1, n1) → Ct G mX12_some (d + 2) (Same none h1 n1) [.ref b0] h nx) {h : Hp} {nx : Nat} {s0 : Nat} {s1 : Int32} {s2 : Int32} {s3 : Int32} {l3 : Int32} (e : F_X12_factor_253 G c_X12_every c_X12_factor c_X12_some h nx s0 s1 s2 s3 l3 = some (v', h', n')) : Ok G mX12_factor (d + 3) (Same none h' n') 253 [none, none, none, some (.int l3)] [.int s3, .int s2, .int s1, .ref s0] h nx 0 0 := by
  unfold F_X12_factor_253 at e
  refine Ok.imul dX12_factor_253 ?_
  refine Ok.iadd dX12_factor_254 ?_
  refine Ok.bipushV (v := (nI 8)) dX12_factor_255 (by decide +kernel) ?_
  refine Ok.iload_n dX12_factor_257 rfl ?_
  refine Ok.imul dX12_factor_258 ?_
  refine Ok.iadd dX12_factor_259 ?_
  refine X.rck e (fun c fs hb hc e1 => ?_)
  clear e
  obtain rfl := List.mem_singleton.mp hc
  refine X.callV (My := mX12_emits) (n := 1) (As := [.int ((((s1 + ((s2 * s3)))) + (((nI 8) * l3))))]) (T := (fun v => none)) (stk' := (fun _ => [])) (rest := []) (kc' := 0) (ks' := 0) dX12_factor_260 e1 (fun v h n e => k_X12_emits (d := d + 2) e) hb rfl wd1245 wd80 wd1244 wd34 wd1242 (by decide +kernel) rfl (by decide) rfl rfl (Nat.le_of_ble_eq_true rfl) (Nat.le_of_ble_eq_true rfl) (Nat.le_of_ble_eq_true rfl) rfl rfl (fun _ => rfl) (fun _ h2 n3 e2 => ?_)
  clear e1
  exact X.vret dX12_factor_263 rfl (Nat.le_of_ble_eq_true rfl) (Nat.le_of_ble_eq_true rfl) e2
noncomputable def F_X12_factor_231 (G : Gx) (c_X12_every : Hp → Nat → Nat → Rz Unit) (c_X12_factor : Hp → Nat → Nat → Rz Unit) (c_X12_some : Hp → Nat → Nat → Rz Unit) (h : Hp) (nx : Nat) (s0 : Nat) (s1 : Int32) (l2 : Int32) (l3 : Int32) : Rz Unit :=
if l2 = (nI 60) then
(F_X12_factor_253 G c_X12_every c_X12_factor c_X12_some h nx s0 s1 (nI 2) (nI 0) l3)
else
if l2 = (nI 61) then
(F_X12_factor_253 G c_X12_every c_X12_factor c_X12_some h nx s0 s1 (nI 2) (nI 1) l3)
else
(F_X12_factor_253 G c_X12_every c_X12_factor c_X12_some h nx s0 s1 (nI 2) (nI 2) l3)
set_option maxRecDepth 100000 in
set_option maxHeartbeats 4000000 in
theorem k_X12_factor_231 {G : Gx} {d : Nat} {v' : Unit} {h' : Hp} {n' : Nat} {c_X12_every : Hp → Nat → Nat → Rz Unit} (C_X12_every : ∀ {h : Hp} {nx : Nat} {b0 : Nat} {v : Unit} {h1 : Hp} {n1 : Nat}, c_X12_every h nx b0 = some (v, h1, n1) → Ct G mX12_every (d + 2) (Same none h1 n1) [.ref b0] h nx) {c_X12_factor : Hp → Nat → Nat → Rz Unit} (C_X12_factor : ∀ {h : Hp} {nx : Nat} {b0 : Nat} {v : Unit} {h1 : Hp} {n1 : Nat}, c_X12_factor h nx b0 = some (v, h1, n1) → Ct G mX12_factor (d + 2) (Same none h1 n1) [.ref b0] h nx) {c_X12_some : Hp → Nat → Nat → Rz Unit} (C_X12_some : ∀ {h : Hp} {nx : Nat} {b0 : Nat} {v : Unit} {h1 : Hp} {n1 : Nat}, c_X12_some h nx b0 = some (v, h1, n1) → Ct G mX12_some (d + 2) (Same none h1 n1) [.ref b0] h nx) {h : Hp} {nx : Nat} {s0 : Nat} {s1 : Int32} {l2 : Int32} {l3 : Int32} (e : F_X12_factor_231 G c_X12_every c_X12_factor c_X12_some h nx s0 s1 l2 l3 = some (v', h', n')) : Ok G mX12_factor (d + 3) (Same none h' n') 231 [none, none, some (.int l2), some (.int l3)] [.int s1, .ref s0] h nx 0 0 := by
  unfold F_X12_factor_231 at e
  refine Ok.iconstV (v := (nI 2)) dX12_factor_231 (by decide +kernel) ?_
  refine Ok.iload_n dX12_factor_232 rfl ?_
  refine Ok.bipushV (v := (nI 60)) dX12_factor_233 (by decide +kernel) ?_
  refine X.icmp_ne (tgt := 242) dX12_factor_235 (by decide) e (fun e1 => ?_) (fun e1 => ?_)
  · clear e
    refine Ok.iload_n dX12_factor_242 rfl ?_
    refine Ok.bipushV (v := (nI 61)) dX12_factor_243 (by decide +kernel) ?_
    refine X.icmp_ne (tgt := 252) dX12_factor_245 (by decide) e1 (fun e2 => ?_) (fun e2 => ?_)
    · clear e1
      refine Ok.iconstV (v := (nI 2)) dX12_factor_252 (by decide +kernel) ?_
      exact Ok.weakL (k_X12_factor_253 (d := d) C_X12_every C_X12_factor C_X12_some e2) ⟨rfl, trivial⟩
    · clear e1
      refine Ok.iconstV (v := (nI 1)) dX12_factor_248 (by decide +kernel) ?_
      refine Ok.goto (tgt := 253) dX12_factor_249 (by decide) ?_
      exact Ok.weakL (k_X12_factor_253 (d := d) C_X12_every C_X12_factor C_X12_some e2) ⟨rfl, trivial⟩
  · clear e
    refine Ok.iconstV (v := (nI 0)) dX12_factor_238 (by decide +kernel) ?_
    refine Ok.goto (tgt := 253) dX12_factor_239 (by decide) ?_
    exact Ok.weakL (k_X12_factor_253 (d := d) C_X12_every C_X12_factor C_X12_some e1) ⟨rfl, trivial⟩
noncomputable def F_X12_factor_210 (G : Gx) (c_X12_every : Hp → Nat → Nat → Rz Unit) (c_X12_factor : Hp → Nat → Nat → Rz Unit) (c_X12_some : Hp → Nat → Nat → Rz Unit) (h : Hp) (nx : Nat) (s0 : Nat) (s1 : Int32) (s2 : Int32) (l0 : Nat) (l1 : Int32) (l2 : Int32) : Rz Unit :=
pfV h s0 [12] 5 (.int ((s1 + s2))) (fun h1 =>
ck h1 l0 [12] (fun _ =>
cl (F_X12_figures G h1 nx l0) (fun r2 h3 n4 =>
if l1 = (nI 100) then
(F_X12_factor_231 G c_X12_every c_X12_factor c_X12_some h3 n4 l0 (nI 0) l2 r2)
else
(F_X12_factor_231 G c_X12_every c_X12_factor c_X12_some h3 n4 l0 (nI 1) l2 r2))))
set_option maxRecDepth 100000 in
set_option maxHeartbeats 4000000 in
theorem k_X12_factor_210 {G : Gx} {d : Nat} {v' : Unit} {h' : Hp} {n' : Nat} {c_X12_every : Hp → Nat → Nat → Rz Unit} (C_X12_every : ∀ {h : Hp} {nx : Nat} {b0 : Nat} {v : Unit} {h1 : Hp} {n1 : Nat}, c_X12_every h nx b0 = some (v, h1, n1) → Ct G mX12_every (d + 2) (Same none h1 n1) [.ref b0] h nx) {c_X12_factor : Hp → Nat → Nat → Rz Unit} (C_X12_factor : ∀ {h : Hp} {nx : Nat} {b0 : Nat} {v : Unit} {h1 : Hp} {n1 : Nat}, c_X12_factor h nx b0 = some (v, h1, n1) → Ct G mX12_factor (d + 2) (Same none h1 n1) [.ref b0] h nx) {c_X12_some : Hp → Nat → Nat → Rz Unit} (C_X12_some : ∀ {h : Hp} {nx : Nat} {b0 : Nat} {v : Unit} {h1 : Hp} {n1 : Nat}, c_X12_some h nx b0 = some (v, h1, n1) → Ct G mX12_some (d + 2) (Same none h1 n1) [.ref b0] h nx) {h : Hp} {nx : Nat} {s0 : Nat} {s1 : Int32} {s2 : Int32} {l0 : Nat} {l1 : Int32} {l2 : Int32} (e : F_X12_factor_210 G c_X12_every c_X12_factor c_X12_some h nx s0 s1 s2 l0 l1 l2 = some (v', h', n')) : Ok G mX12_factor (d + 3) (Same none h' n') 210 [some (.ref l0), some (.int l1), some (.int l2), none] [.int s2, .int s1, .ref s0] h nx 0 0 := by
  unfold F_X12_factor_210 at e
  refine Ok.iadd dX12_factor_210 ?_
  refine X.rpfV (v := (.int ((s1 + s2)))) fp_RX12_75 rfl rfl dX12_factor_211 e (fun h1 e1 => ?_)
  clear e
  refine Ok.aload_n dX12_factor_214 rfl ?_
  refine X.rck e1 (fun c fs hb hc e2 => ?_)
  clear e1
  obtain rfl := List.mem_singleton.mp hc
  refine X.callV (My := mX12_figures) (n := 0) (As := []) (T := (fun v => (some (.int v)))) (stk' := (fun v => [.int v])) (rest := []) (kc' := 0) (ks' := 0) dX12_factor_215 e2 (fun v h n e => k_X12_figures (d := d + 1) e) hb rfl wd1229 wd80 wd1228 wd30 wd1226 (by decide +kernel) rfl (by decide) rfl rfl (Nat.le_of_ble_eq_true rfl) (Nat.le_of_ble_eq_true rfl) (Nat.le_of_ble_eq_true rfl) rfl rfl (fun _ => rfl) (fun r2 h3 n4 e3 => ?_)
  clear e2
  refine XL.istore_n dX12_factor_218 (by decide) (L := [some (.ref l0), some (.int l1), some (.int l2), some (.int r2)]) rfl ?_
  refine Ok.aload_n dX12_factor_219 rfl ?_
  refine Ok.iload_n dX12_factor_220 rfl ?_
  refine Ok.bipushV (v := (nI 100)) dX12_factor_221 (by decide +kernel) ?_
  refine X.icmp_ne (tgt := 230) dX12_factor_223 (by decide) e3 (fun e4 => ?_) (fun e4 => ?_)
  · clear e3
    refine Ok.iconstV (v := (nI 1)) dX12_factor_230 (by decide +kernel) ?_
    exact Ok.weakL (k_X12_factor_231 (d := d) C_X12_every C_X12_factor C_X12_some e4) ⟨rfl, ⟨rfl, trivial⟩⟩
  · clear e3
    refine Ok.iconstV (v := (nI 0)) dX12_factor_226 (by decide +kernel) ?_
    refine Ok.goto (tgt := 231) dX12_factor_227 (by decide) ?_
    exact Ok.weakL (k_X12_factor_231 (d := d) C_X12_every C_X12_factor C_X12_some e4) ⟨rfl, ⟨rfl, trivial⟩⟩
noncomputable def F_X12_factor_190 (G : Gx) (c_X12_every : Hp → Nat → Nat → Rz Unit) (c_X12_factor : Hp → Nat → Nat → Rz Unit) (c_X12_some : Hp → Nat → Nat → Rz Unit) (h : Hp) (nx : Nat) (s0 : Nat) (s1 : Int32) (l0 : Nat) (l1 : Int32) (l2 : Int32) : Rz Unit :=
zk s1 (
pfV h s0 [12] 7 (.int s1) (fun h1 =>
gfI h1 l0 [12] 5 (fun v2 =>
gfI h1 l0 [12] 7 (fun v3 =>
if v3 = 0 then
(F_X12_factor_210 G c_X12_every c_X12_factor c_X12_some h1 nx l0 v2 (nI 1) l0 l1 l2)
else
(F_X12_factor_210 G c_X12_every c_X12_factor c_X12_some h1 nx l0 v2 (nI 0) l0 l1 l2)))))
set_option maxRecDepth 100000 in
set_option maxHeartbeats 4000000 in
theorem k_X12_factor_190 {G : Gx} {d : Nat} {v' : Unit} {h' : Hp} {n' : Nat} {c_X12_every : Hp → Nat → Nat → Rz Unit} (C_X12_every : ∀ {h : Hp} {nx : Nat} {b0 : Nat} {v : Unit} {h1 : Hp} {n1 : Nat}, c_X12_every h nx b0 = some (v, h1, n1) → Ct G mX12_every (d + 2) (Same none h1 n1) [.ref b0] h nx) {c_X12_factor : Hp → Nat → Nat → Rz Unit} (C_X12_factor : ∀ {h : Hp} {nx : Nat} {b0 : Nat} {v : Unit} {h1 : Hp} {n1 : Nat}, c_X12_factor h nx b0 = some (v, h1, n1) → Ct G mX12_factor (d + 2) (Same none h1 n1) [.ref b0] h nx) {c_X12_some : Hp → Nat → Nat → Rz Unit} (C_X12_some : ∀ {h : Hp} {nx : Nat} {b0 : Nat} {v : Unit} {h1 : Hp} {n1 : Nat}, c_X12_some h nx b0 = some (v, h1, n1) → Ct G mX12_some (d + 2) (Same none h1 n1) [.ref b0] h nx) {h : Hp} {nx : Nat} {s0 : Nat} {s1 : Int32} {l0 : Nat} {l1 : Int32} {l2 : Int32} (e : F_X12_factor_190 G c_X12_every c_X12_factor c_X12_some h nx s0 s1 l0 l1 l2 = some (v', h', n')) : Ok G mX12_factor (d + 3) (Same none h' n') 190 [some (.ref l0), some (.int l1), some (.int l2), none] [.int s1, .ref s0] h nx 0 0 := by
  unfold F_X12_factor_190 at e
  refine X.rzk e (fun z e1 => ?_)
  clear e
  refine X.rpfV (v := (.int s1)) fp_RX12_81 (nar_z z) (fits_z z) dX12_factor_190 e1 (fun h1 e2 => ?_)
  clear e1
  refine Ok.aload_n dX12_factor_193 rfl ?_
  refine Ok.dup dX12_factor_194 rfl ?_
  refine X.rgfI fl_RX12_75 dX12_factor_195 e2 (fun v2 e3 => ?_)
  clear e2
  refine Ok.aload_n dX12_factor_198 rfl ?_
  refine X.rgfI fl_RX12_81 dX12_factor_199 e3 (fun v3 e4 => ?_)
  clear e3
  refine X.if_eq (tgt := 209) dX12_factor_202 (by decide) e4 (fun e5 => ?_) (fun e5 => ?_)
  · clear e4
    refine Ok.iconstV (v := (nI 1)) dX12_factor_209 (by decide +kernel) ?_
    exact Ok.weakL (k_X12_factor_210 (d := d) C_X12_every C_X12_factor C_X12_some e5) ⟨rfl, ⟨rfl, ⟨rfl, trivial⟩⟩⟩
  · clear e4
    refine Ok.iconstV (v := (nI 0)) dX12_factor_205 (by decide +kernel) ?_
    refine Ok.goto (tgt := 210) dX12_factor_206 (by decide) ?_
    exact Ok.weakL (k_X12_factor_210 (d := d) C_X12_every C_X12_factor C_X12_some e5) ⟨rfl, ⟨rfl, ⟨rfl, trivial⟩⟩⟩
noncomputable def F_X12_factor_185 (G : Gx) (c_X12_every : Hp → Nat → Nat → Rz Unit) (c_X12_factor : Hp → Nat → Nat → Rz Unit) (c_X12_some : Hp → Nat → Nat → Rz Unit) (h : Hp) (nx : Nat) (s0 : Nat) (l0 : Nat) (l1 : Int32) (l2 : Int32) : Rz Unit :=
(F_X12_factor_190 G c_X12_every c_X12_factor c_X12_some h nx s0 (nI 1) l0 l1 l2)
set_option maxRecDepth 100000 in
set_option maxHeartbeats 4000000 in
theorem k_X12_factor_185 {G : Gx} {d : Nat} {v' : Unit} {h' : Hp} {n' : Nat} {c_X12_every : Hp → Nat → Nat → Rz Unit} (C_X12_every : ∀ {h : Hp} {nx : Nat} {b0 : Nat} {v : Unit} {h1 : Hp} {n1 : Nat}, c_X12_every h nx b0 = some (v, h1, n1) → Ct G mX12_every (d + 2) (Same none h1 n1) [.ref b0] h nx) {c_X12_factor : Hp → Nat → Nat → Rz Unit} (C_X12_factor : ∀ {h : Hp} {nx : Nat} {b0 : Nat} {v : Unit} {h1 : Hp} {n1 : Nat}, c_X12_factor h nx b0 = some (v, h1, n1) → Ct G mX12_factor (d + 2) (Same none h1 n1) [.ref b0] h nx) {c_X12_some : Hp → Nat → Nat → Rz Unit} (C_X12_some : ∀ {h : Hp} {nx : Nat} {b0 : Nat} {v : Unit} {h1 : Hp} {n1 : Nat}, c_X12_some h nx b0 = some (v, h1, n1) → Ct G mX12_some (d + 2) (Same none h1 n1) [.ref b0] h nx) {h : Hp} {nx : Nat} {s0 : Nat} {l0 : Nat} {l1 : Int32} {l2 : Int32} (e : F_X12_factor_185 G c_X12_every c_X12_factor c_X12_some h nx s0 l0 l1 l2 = some (v', h', n')) : Ok G mX12_factor (d + 3) (Same none h' n') 185 [some (.ref l0), some (.int l1), some (.int l2), none] [.ref s0] h nx 0 0 := by
  unfold F_X12_factor_185 at e
  refine Ok.iconstV (v := (nI 1)) dX12_factor_185 (by decide +kernel) ?_
  refine Ok.goto (tgt := 190) dX12_factor_186 (by decide) ?_
  exact Ok.weakL (k_X12_factor_190 (d := d) C_X12_every C_X12_factor C_X12_some e) ⟨rfl, ⟨rfl, ⟨rfl, trivial⟩⟩⟩
noncomputable def F_X12_factor_189 (G : Gx) (c_X12_every : Hp → Nat → Nat → Rz Unit) (c_X12_factor : Hp → Nat → Nat → Rz Unit) (c_X12_some : Hp → Nat → Nat → Rz Unit) (h : Hp) (nx : Nat) (s0 : Nat) (l0 : Nat) (l1 : Int32) (l2 : Int32) : Rz Unit :=
(F_X12_factor_190 G c_X12_every c_X12_factor c_X12_some h nx s0 (nI 0) l0 l1 l2)
set_option maxRecDepth 100000 in
set_option maxHeartbeats 4000000 in
theorem k_X12_factor_189 {G : Gx} {d : Nat} {v' : Unit} {h' : Hp} {n' : Nat} {c_X12_every : Hp → Nat → Nat → Rz Unit} (C_X12_every : ∀ {h : Hp} {nx : Nat} {b0 : Nat} {v : Unit} {h1 : Hp} {n1 : Nat}, c_X12_every h nx b0 = some (v, h1, n1) → Ct G mX12_every (d + 2) (Same none h1 n1) [.ref b0] h nx) {c_X12_factor : Hp → Nat → Nat → Rz Unit} (C_X12_factor : ∀ {h : Hp} {nx : Nat} {b0 : Nat} {v : Unit} {h1 : Hp} {n1 : Nat}, c_X12_factor h nx b0 = some (v, h1, n1) → Ct G mX12_factor (d + 2) (Same none h1 n1) [.ref b0] h nx) {c_X12_some : Hp → Nat → Nat → Rz Unit} (C_X12_some : ∀ {h : Hp} {nx : Nat} {b0 : Nat} {v : Unit} {h1 : Hp} {n1 : Nat}, c_X12_some h nx b0 = some (v, h1, n1) → Ct G mX12_some (d + 2) (Same none h1 n1) [.ref b0] h nx) {h : Hp} {nx : Nat} {s0 : Nat} {l0 : Nat} {l1 : Int32} {l2 : Int32} (e : F_X12_factor_189 G c_X12_every c_X12_factor c_X12_some h nx s0 l0 l1 l2 = some (v', h', n')) : Ok G mX12_factor (d + 3) (Same none h' n') 189 [some (.ref l0), some (.int l1), some (.int l2), none] [.ref s0] h nx 0 0 := by
  unfold F_X12_factor_189 at e
  refine Ok.iconstV (v := (nI 0)) dX12_factor_189 (by decide +kernel) ?_
  exact Ok.weakL (k_X12_factor_190 (d := d) C_X12_every C_X12_factor C_X12_some e) ⟨rfl, ⟨rfl, ⟨rfl, trivial⟩⟩⟩
noncomputable def F_X12_factor_150 (G : Gx) (c_X12_every : Hp → Nat → Nat → Rz Unit) (c_X12_factor : Hp → Nat → Nat → Rz Unit) (c_X12_some : Hp → Nat → Nat → Rz Unit) (h : Hp) (nx : Nat) (s0 : Nat) (s1 : Int32) (s2 : Int32) (l0 : Nat) (l1 : Int32) : Rz Unit :=
pfV h s0 [12] 5 (.int ((s1 + s2))) (fun h1 =>
ck h1 l0 [12] (fun _ =>
cl (F_X12_here G h1 nx l0) (fun r2 h3 n4 =>
gfI h3 l0 [12] 7 (fun v5 =>
if v5 = 0 then
if r2 = (nI 60) then
(F_X12_factor_189 G c_X12_every c_X12_factor c_X12_some h3 n4 l0 l0 l1 r2)
else
if r2 = (nI 61) then
(F_X12_factor_189 G c_X12_every c_X12_factor c_X12_some h3 n4 l0 l0 l1 r2)
else
if r2 = (nI 62) then
(F_X12_factor_189 G c_X12_every c_X12_factor c_X12_some h3 n4 l0 l0 l1 r2)
else
(F_X12_factor_185 G c_X12_every c_X12_factor c_X12_some h3 n4 l0 l0 l1 r2)
else
(F_X12_factor_185 G c_X12_every c_X12_factor c_X12_some h3 n4 l0 l0 l1 r2)))))
set_option maxRecDepth 100000 in
set_option maxHeartbeats 4000000 in
theorem k_X12_factor_150 {G : Gx} {d : Nat} {v' : Unit} {h' : Hp} {n' : Nat} {c_X12_every : Hp → Nat → Nat → Rz Unit} (C_X12_every : ∀ {h : Hp} {nx : Nat} {b0 : Nat} {v : Unit} {h1 : Hp} {n1 : Nat}, c_X12_every h nx b0 = some (v, h1, n1) → Ct G mX12_every (d + 2) (Same none h1 n1) [.ref b0] h nx) {c_X12_factor : Hp → Nat → Nat → Rz Unit} (C_X12_factor : ∀ {h : Hp} {nx : Nat} {b0 : Nat} {v : Unit} {h1 : Hp} {n1 : Nat}, c_X12_factor h nx b0 = some (v, h1, n1) → Ct G mX12_factor (d + 2) (Same none h1 n1) [.ref b0] h nx) {c_X12_some : Hp → Nat → Nat → Rz Unit} (C_X12_some : ∀ {h : Hp} {nx : Nat} {b0 : Nat} {v : Unit} {h1 : Hp} {n1 : Nat}, c_X12_some h nx b0 = some (v, h1, n1) → Ct G mX12_some (d + 2) (Same none h1 n1) [.ref b0] h nx) {h : Hp} {nx : Nat} {s0 : Nat} {s1 : Int32} {s2 : Int32} {l0 : Nat} {l1 : Int32} (e : F_X12_factor_150 G c_X12_every c_X12_factor c_X12_some h nx s0 s1 s2 l0 l1 = some (v', h', n')) : Ok G mX12_factor (d + 3) (Same none h' n') 150 [some (.ref l0), some (.int l1), none, none] [.int s2, .int s1, .ref s0] h nx 0 0 := by
  unfold F_X12_factor_150 at e
  refine Ok.iadd dX12_factor_150 ?_
  refine X.rpfV (v := (.int ((s1 + s2)))) fp_RX12_75 rfl rfl dX12_factor_151 e (fun h1 e1 => ?_)
  clear e
  refine Ok.aload_n dX12_factor_154 rfl ?_
  refine X.rck e1 (fun c fs hb hc e2 => ?_)
  clear e1
  obtain rfl := List.mem_singleton.mp hc
  refine X.callV (My := mX12_here) (n := 0) (As := []) (T := (fun v => (some (.int v)))) (stk' := (fun v => [.int v])) (rest := []) (kc' := 0) (ks' := 0) dX12_factor_155 e2 (fun v h n e => k_X12_here (d := d + 2) e) hb rfl wd1209 wd80 wd1208 wd26 wd1206 (by decide +kernel) rfl (by decide) rfl rfl (Nat.le_of_ble_eq_true rfl) (Nat.le_of_ble_eq_true rfl) (Nat.le_of_ble_eq_true rfl) rfl rfl (fun _ => rfl) (fun r2 h3 n4 e3 => ?_)
  clear e2
  refine XL.istore_n dX12_factor_158 (by decide) (L := [some (.ref l0), some (.int l1), some (.int r2), none]) rfl ?_
  refine Ok.aload_n dX12_factor_159 rfl ?_
  refine Ok.aload_n dX12_factor_160 rfl ?_
  refine X.rgfI fl_RX12_81 dX12_factor_161 e3 (fun v5 e4 => ?_)
  clear e3
  refine X.if_ne (tgt := 185) dX12_factor_164 (by decide) e4 (fun e5 => ?_) (fun e5 => ?_)
  · clear e4
    exact Ok.weakL (k_X12_factor_185 (d := d) C_X12_every C_X12_factor C_X12_some e5) ⟨rfl, ⟨rfl, ⟨rfl, trivial⟩⟩⟩
  · clear e4
    refine Ok.iload_n dX12_factor_167 rfl ?_
    refine Ok.bipushV (v := (nI 60)) dX12_factor_168 (by decide +kernel) ?_
    refine X.icmp_eq (tgt := 189) dX12_factor_170 (by decide) e5 (fun e6 => ?_) (fun e6 => ?_)
    · clear e5
      exact Ok.weakL (k_X12_factor_189 (d := d) C_X12_every C_X12_factor C_X12_some e6) ⟨rfl, ⟨rfl, ⟨rfl, trivial⟩⟩⟩
    · clear e5
      refine Ok.iload_n dX12_factor_173 rfl ?_
      refine Ok.bipushV (v := (nI 61)) dX12_factor_174 (by decide +kernel) ?_
      refine X.icmp_eq (tgt := 189) dX12_factor_176 (by decide) e6 (fun e7 => ?_) (fun e7 => ?_)
      · clear e6
        exact Ok.weakL (k_X12_factor_189 (d := d) C_X12_every C_X12_factor C_X12_some e7) ⟨rfl, ⟨rfl, ⟨rfl, trivial⟩⟩⟩
      · clear e6
        refine Ok.iload_n dX12_factor_179 rfl ?_
        refine Ok.bipushV (v := (nI 62)) dX12_factor_180 (by decide +kernel) ?_
        refine X.icmp_eq (tgt := 189) dX12_factor_182 (by decide) e7 (fun e8 => ?_) (fun e8 => ?_)
        · clear e7
          exact Ok.weakL (k_X12_factor_189 (d := d) C_X12_every C_X12_factor C_X12_some e8) ⟨rfl, ⟨rfl, ⟨rfl, trivial⟩⟩⟩
        · clear e7
          exact Ok.weakL (k_X12_factor_185 (d := d) C_X12_every C_X12_factor C_X12_some e8) ⟨rfl, ⟨rfl, ⟨rfl, trivial⟩⟩⟩
noncomputable def F_X12_factor_130 (G : Gx) (c_X12_every : Hp → Nat → Nat → Rz Unit) (c_X12_factor : Hp → Nat → Nat → Rz Unit) (c_X12_some : Hp → Nat → Nat → Rz Unit) (h : Hp) (nx : Nat) (s0 : Nat) (s1 : Int32) (l0 : Nat) (l1 : Int32) : Rz Unit :=
zk s1 (
pfV h s0 [12] 7 (.int s1) (fun h1 =>
gfI h1 l0 [12] 5 (fun v2 =>
gfI h1 l0 [12] 7 (fun v3 =>
if v3 = 0 then
(F_X12_factor_150 G c_X12_every c_X12_factor c_X12_some h1 nx l0 v2 (nI 1) l0 l1)
else
(F_X12_factor_150 G c_X12_every c_X12_factor c_X12_some h1 nx l0 v2 (nI 0) l0 l1)))))
set_option maxRecDepth 100000 in
set_option maxHeartbeats 4000000 in
theorem k_X12_factor_130 {G : Gx} {d : Nat} {v' : Unit} {h' : Hp} {n' : Nat} {c_X12_every : Hp → Nat → Nat → Rz Unit} (C_X12_every : ∀ {h : Hp} {nx : Nat} {b0 : Nat} {v : Unit} {h1 : Hp} {n1 : Nat}, c_X12_every h nx b0 = some (v, h1, n1) → Ct G mX12_every (d + 2) (Same none h1 n1) [.ref b0] h nx) {c_X12_factor : Hp → Nat → Nat → Rz Unit} (C_X12_factor : ∀ {h : Hp} {nx : Nat} {b0 : Nat} {v : Unit} {h1 : Hp} {n1 : Nat}, c_X12_factor h nx b0 = some (v, h1, n1) → Ct G mX12_factor (d + 2) (Same none h1 n1) [.ref b0] h nx) {c_X12_some : Hp → Nat → Nat → Rz Unit} (C_X12_some : ∀ {h : Hp} {nx : Nat} {b0 : Nat} {v : Unit} {h1 : Hp} {n1 : Nat}, c_X12_some h nx b0 = some (v, h1, n1) → Ct G mX12_some (d + 2) (Same none h1 n1) [.ref b0] h nx) {h : Hp} {nx : Nat} {s0 : Nat} {s1 : Int32} {l0 : Nat} {l1 : Int32} (e : F_X12_factor_130 G c_X12_every c_X12_factor c_X12_some h nx s0 s1 l0 l1 = some (v', h', n')) : Ok G mX12_factor (d + 3) (Same none h' n') 130 [some (.ref l0), some (.int l1), none, none] [.int s1, .ref s0] h nx 0 0 := by
  unfold F_X12_factor_130 at e
  refine X.rzk e (fun z e1 => ?_)
  clear e
  refine X.rpfV (v := (.int s1)) fp_RX12_81 (nar_z z) (fits_z z) dX12_factor_130 e1 (fun h1 e2 => ?_)
  clear e1
  refine Ok.aload_n dX12_factor_133 rfl ?_
  refine Ok.dup dX12_factor_134 rfl ?_
  refine X.rgfI fl_RX12_75 dX12_factor_135 e2 (fun v2 e3 => ?_)
  clear e2
  refine Ok.aload_n dX12_factor_138 rfl ?_
  refine X.rgfI fl_RX12_81 dX12_factor_139 e3 (fun v3 e4 => ?_)
  clear e3
  refine X.if_eq (tgt := 149) dX12_factor_142 (by decide) e4 (fun e5 => ?_) (fun e5 => ?_)
  · clear e4
    refine Ok.iconstV (v := (nI 1)) dX12_factor_149 (by decide +kernel) ?_
    exact Ok.weakL (k_X12_factor_150 (d := d) C_X12_every C_X12_factor C_X12_some e5) ⟨rfl, ⟨rfl, trivial⟩⟩
  · clear e4
    refine Ok.iconstV (v := (nI 0)) dX12_factor_145 (by decide +kernel) ?_
    refine Ok.goto (tgt := 150) dX12_factor_146 (by decide) ?_
    exact Ok.weakL (k_X12_factor_150 (d := d) C_X12_every C_X12_factor C_X12_some e5) ⟨rfl, ⟨rfl, trivial⟩⟩
noncomputable def F_X12_factor_129 (G : Gx) (c_X12_every : Hp → Nat → Nat → Rz Unit) (c_X12_factor : Hp → Nat → Nat → Rz Unit) (c_X12_some : Hp → Nat → Nat → Rz Unit) (h : Hp) (nx : Nat) (s0 : Nat) (l0 : Nat) (l1 : Int32) : Rz Unit :=
(F_X12_factor_130 G c_X12_every c_X12_factor c_X12_some h nx s0 (nI 0) l0 l1)
set_option maxRecDepth 100000 in
set_option maxHeartbeats 4000000 in
theorem k_X12_factor_129 {G : Gx} {d : Nat} {v' : Unit} {h' : Hp} {n' : Nat} {c_X12_every : Hp → Nat → Nat → Rz Unit} (C_X12_every : ∀ {h : Hp} {nx : Nat} {b0 : Nat} {v : Unit} {h1 : Hp} {n1 : Nat}, c_X12_every h nx b0 = some (v, h1, n1) → Ct G mX12_every (d + 2) (Same none h1 n1) [.ref b0] h nx) {c_X12_factor : Hp → Nat → Nat → Rz Unit} (C_X12_factor : ∀ {h : Hp} {nx : Nat} {b0 : Nat} {v : Unit} {h1 : Hp} {n1 : Nat}, c_X12_factor h nx b0 = some (v, h1, n1) → Ct G mX12_factor (d + 2) (Same none h1 n1) [.ref b0] h nx) {c_X12_some : Hp → Nat → Nat → Rz Unit} (C_X12_some : ∀ {h : Hp} {nx : Nat} {b0 : Nat} {v : Unit} {h1 : Hp} {n1 : Nat}, c_X12_some h nx b0 = some (v, h1, n1) → Ct G mX12_some (d + 2) (Same none h1 n1) [.ref b0] h nx) {h : Hp} {nx : Nat} {s0 : Nat} {l0 : Nat} {l1 : Int32} (e : F_X12_factor_129 G c_X12_every c_X12_factor c_X12_some h nx s0 l0 l1 = some (v', h', n')) : Ok G mX12_factor (d + 3) (Same none h' n') 129 [some (.ref l0), some (.int l1), none, none] [.ref s0] h nx 0 0 := by
  unfold F_X12_factor_129 at e
  refine Ok.iconstV (v := (nI 0)) dX12_factor_129 (by decide +kernel) ?_
  exact Ok.weakL (k_X12_factor_130 (d := d) C_X12_every C_X12_factor C_X12_some e) ⟨rfl, ⟨rfl, trivial⟩⟩
noncomputable def B_X12_factor (G : Gx) (c_X12_every : Hp → Nat → Nat → Rz Unit) (c_X12_factor : Hp → Nat → Nat → Rz Unit) (c_X12_some : Hp → Nat → Nat → Rz Unit) (h : Hp) (nx : Nat) (a0 : Nat) : Rz Unit :=
gfI h a0 [12] 7 (fun v1 =>
if v1 = 0 then
ck h a0 [12] (fun _ =>
cl (F_X12_here G h nx a0) (fun r2 h3 n4 =>
if r2 = (nI 33) then
(F_X12_factor_25 G c_X12_every c_X12_factor c_X12_some h3 n4 a0 r2)
else
if r2 = (nI 40) then
(F_X12_factor_25 G c_X12_every c_X12_factor c_X12_some h3 n4 a0 r2)
else
if r2 = (nI 100) then
(F_X12_factor_129 G c_X12_every c_X12_factor c_X12_some h3 n4 a0 a0 r2)
else
if r2 = (nI 107) then
(F_X12_factor_129 G c_X12_every c_X12_factor c_X12_some h3 n4 a0 a0 r2)
else
(F_X12_factor_130 G c_X12_every c_X12_factor c_X12_some h3 n4 a0 (nI 1) a0 r2)))
else
some ((), h, nx))
set_option maxRecDepth 100000 in
set_option maxHeartbeats 4000000 in
theorem b_X12_factor {G : Gx} {d : Nat} {c_X12_every : Hp → Nat → Nat → Rz Unit} (C_X12_every : ∀ {h : Hp} {nx : Nat} {b0 : Nat} {v : Unit} {h1 : Hp} {n1 : Nat}, c_X12_every h nx b0 = some (v, h1, n1) → Ct G mX12_every (d + 2) (Same none h1 n1) [.ref b0] h nx) {c_X12_factor : Hp → Nat → Nat → Rz Unit} (C_X12_factor : ∀ {h : Hp} {nx : Nat} {b0 : Nat} {v : Unit} {h1 : Hp} {n1 : Nat}, c_X12_factor h nx b0 = some (v, h1, n1) → Ct G mX12_factor (d + 2) (Same none h1 n1) [.ref b0] h nx) {c_X12_some : Hp → Nat → Nat → Rz Unit} (C_X12_some : ∀ {h : Hp} {nx : Nat} {b0 : Nat} {v : Unit} {h1 : Hp} {n1 : Nat}, c_X12_some h nx b0 = some (v, h1, n1) → Ct G mX12_some (d + 2) (Same none h1 n1) [.ref b0] h nx) {h : Hp} {nx : Nat} {a0 : Nat} {v' : Unit} {h' : Hp} {n' : Nat} (e : B_X12_factor G c_X12_every c_X12_factor c_X12_some h nx a0 = some (v', h', n')) : Ct G mX12_factor (d + 3) (Same none h' n') [.ref a0] h nx := by
  unfold B_X12_factor at e
  refine Ct.of (ls := [some (.ref a0), none, none, none]) (by decide +kernel) rfl (Nat.le_of_ble_eq_true rfl) rfl ?_
  refine Ok.aload_n dX12_factor_0 rfl ?_
  refine X.rgfI fl_RX12_81 dX12_factor_1 e (fun v1 e1 => ?_)
  clear e
  refine X.if_eq (tgt := 8) dX12_factor_4 (by decide) e1 (fun e2 => ?_) (fun e2 => ?_)
  · clear e1
    refine Ok.aload_n dX12_factor_8 rfl ?_
    refine X.rck e2 (fun c fs hb hc e3 => ?_)
    clear e2
    obtain rfl := List.mem_singleton.mp hc
    refine X.callV (My := mX12_here) (n := 0) (As := []) (T := (fun v => (some (.int v)))) (stk' := (fun v => [.int v])) (rest := []) (kc' := 0) (ks' := 0) dX12_factor_9 e3 (fun v h n e => k_X12_here (d := d + 2) e) hb rfl wd1209 wd80 wd1208 wd26 wd1206 (by decide +kernel) rfl (by decide) rfl rfl (Nat.le_of_ble_eq_true rfl) (Nat.le_of_ble_eq_true rfl) (Nat.le_of_ble_eq_true rfl) rfl rfl (fun _ => rfl) (fun r2 h3 n4 e4 => ?_)
    clear e3
    refine XL.istore_n dX12_factor_12 (by decide) (L := [some (.ref a0), some (.int r2), none, none]) rfl ?_
    refine Ok.iload_n dX12_factor_13 rfl ?_
    refine Ok.bipushV (v := (nI 33)) dX12_factor_14 (by decide +kernel) ?_
    refine X.icmp_eq (tgt := 25) dX12_factor_16 (by decide) e4 (fun e5 => ?_) (fun e5 => ?_)
    · clear e4
      exact Ok.weakL (k_X12_factor_25 (d := d) C_X12_every C_X12_factor C_X12_some e5) ⟨rfl, ⟨rfl, trivial⟩⟩
    · clear e4
      refine Ok.iload_n dX12_factor_19 rfl ?_
      refine Ok.bipushV (v := (nI 40)) dX12_factor_20 (by decide +kernel) ?_
      refine X.icmp_ne (tgt := 112) dX12_factor_22 (by decide) e5 (fun e6 => ?_) (fun e6 => ?_)
      · clear e5
        refine Ok.aload_n dX12_factor_112 rfl ?_
        refine Ok.iload_n dX12_factor_113 rfl ?_
        refine Ok.bipushV (v := (nI 100)) dX12_factor_114 (by decide +kernel) ?_
        refine X.icmp_eq (tgt := 129) dX12_factor_116 (by decide) e6 (fun e7 => ?_) (fun e7 => ?_)
        · clear e6
          exact Ok.weakL (k_X12_factor_129 (d := d) C_X12_every C_X12_factor C_X12_some e7) ⟨rfl, ⟨rfl, trivial⟩⟩
        · clear e6
          refine Ok.iload_n dX12_factor_119 rfl ?_
          refine Ok.bipushV (v := (nI 107)) dX12_factor_120 (by decide +kernel) ?_
          refine X.icmp_eq (tgt := 129) dX12_factor_122 (by decide) e7 (fun e8 => ?_) (fun e8 => ?_)
          · clear e7
            exact Ok.weakL (k_X12_factor_129 (d := d) C_X12_every C_X12_factor C_X12_some e8) ⟨rfl, ⟨rfl, trivial⟩⟩
          · clear e7
            refine Ok.iconstV (v := (nI 1)) dX12_factor_125 (by decide +kernel) ?_
            refine Ok.goto (tgt := 130) dX12_factor_126 (by decide) ?_
            exact Ok.weakL (k_X12_factor_130 (d := d) C_X12_every C_X12_factor C_X12_some e8) ⟨rfl, ⟨rfl, trivial⟩⟩
      · clear e5
        exact Ok.weakL (k_X12_factor_25 (d := d) C_X12_every C_X12_factor C_X12_some e6) ⟨rfl, ⟨rfl, trivial⟩⟩
  · clear e1
    exact X.vret dX12_factor_7 rfl (Nat.le_of_ble_eq_true rfl) (Nat.le_of_ble_eq_true rfl) e2
noncomputable def F_X12_some_43 (G : Gx) (c_X12_every : Hp → Nat → Nat → Rz Unit) (c_X12_factor : Hp → Nat → Nat → Rz Unit) (c_X12_some : Hp → Nat → Nat → Rz Unit) (h : Hp) (nx : Nat) : Rz Unit :=
some ((), h, nx)
set_option maxRecDepth 100000 in
set_option maxHeartbeats 4000000 in
theorem k_X12_some_43 {G : Gx} {d : Nat} {v' : Unit} {h' : Hp} {n' : Nat} {c_X12_every : Hp → Nat → Nat → Rz Unit} (C_X12_every : ∀ {h : Hp} {nx : Nat} {b0 : Nat} {v : Unit} {h1 : Hp} {n1 : Nat}, c_X12_every h nx b0 = some (v, h1, n1) → Ct G mX12_every (d + 2) (Same none h1 n1) [.ref b0] h nx) {c_X12_factor : Hp → Nat → Nat → Rz Unit} (C_X12_factor : ∀ {h : Hp} {nx : Nat} {b0 : Nat} {v : Unit} {h1 : Hp} {n1 : Nat}, c_X12_factor h nx b0 = some (v, h1, n1) → Ct G mX12_factor (d + 2) (Same none h1 n1) [.ref b0] h nx) {c_X12_some : Hp → Nat → Nat → Rz Unit} (C_X12_some : ∀ {h : Hp} {nx : Nat} {b0 : Nat} {v : Unit} {h1 : Hp} {n1 : Nat}, c_X12_some h nx b0 = some (v, h1, n1) → Ct G mX12_some (d + 2) (Same none h1 n1) [.ref b0] h nx) {h : Hp} {nx : Nat} (e : F_X12_some_43 G c_X12_every c_X12_factor c_X12_some h nx = some (v', h', n')) : Ok G mX12_some (d + 3) (Same none h' n') 43 [none] [] h nx 0 0 := by
  unfold F_X12_some_43 at e
  exact X.vret dX12_some_43 rfl (Nat.le_of_ble_eq_true rfl) (Nat.le_of_ble_eq_true rfl) e
noncomputable def F_X12_some_4 (G : Gx) (c_X12_every : Hp → Nat → Nat → Rz Unit) (c_X12_factor : Hp → Nat → Nat → Rz Unit) (c_X12_some : Hp → Nat → Nat → Rz Unit) : Nat → Hp → Nat → Nat → Rz Unit := fun n => Nat.rec (motive := fun _ => Hp → Nat → Nat → Rz Unit) (fun _ _ _ => none) (fun _ k4 => fun h nx l0 =>
gfI h l0 [12] 7 (fun v1 =>
if v1 = 0 then
ck h l0 [12] (fun _ =>
cl (F_X12_here G h nx l0) (fun r2 h3 n4 =>
if r2 = (nI 124) then
gfI h3 l0 [12] 5 (fun v5 =>
pfV h3 l0 [12] 5 (.int ((v5 + (nI 1)))) (fun h6 =>
ck h6 l0 [12] (fun _ =>
cl (c_X12_every h6 n4 l0) (fun _ h8 n9 =>
ck h8 l0 [12] (fun _ =>
cl (F_X12_emits G h8 n9 l0 (-3 : Int32)) (fun _ h11 n12 =>
(k4 h11 n12 l0)))))))
else
(F_X12_some_43 G c_X12_every c_X12_factor c_X12_some h3 n4)))
else
(F_X12_some_43 G c_X12_every c_X12_factor c_X12_some h nx))) n
theorem F_X12_some_4_0 {G : Gx} (c_X12_every : Hp → Nat → Nat → Rz Unit) (c_X12_factor : Hp → Nat → Nat → Rz Unit) (c_X12_some : Hp → Nat → Nat → Rz Unit) {h : Hp} {nx : Nat} {l0 : Nat} : F_X12_some_4 G c_X12_every c_X12_factor c_X12_some 0 h nx l0 = none := rfl
theorem F_X12_some_4_s {G : Gx} (c_X12_every : Hp → Nat → Nat → Rz Unit) (c_X12_factor : Hp → Nat → Nat → Rz Unit) (c_X12_some : Hp → Nat → Nat → Rz Unit) {n : Nat} {h : Hp} {nx : Nat} {l0 : Nat} : F_X12_some_4 G c_X12_every c_X12_factor c_X12_some (n + 1) h nx l0 = (
gfI h l0 [12] 7 (fun v1 =>
if v1 = 0 then
ck h l0 [12] (fun _ =>
cl (F_X12_here G h nx l0) (fun r2 h3 n4 =>
if r2 = (nI 124) then
gfI h3 l0 [12] 5 (fun v5 =>
pfV h3 l0 [12] 5 (.int ((v5 + (nI 1)))) (fun h6 =>
ck h6 l0 [12] (fun _ =>
cl (c_X12_every h6 n4 l0) (fun _ h8 n9 =>
ck h8 l0 [12] (fun _ =>
cl (F_X12_emits G h8 n9 l0 (-3 : Int32)) (fun _ h11 n12 =>
((F_X12_some_4 G c_X12_every c_X12_factor c_X12_some n) h11 n12 l0)))))))
else
(F_X12_some_43 G c_X12_every c_X12_factor c_X12_some h3 n4)))
else
(F_X12_some_43 G c_X12_every c_X12_factor c_X12_some h nx))) := rfl
set_option maxRecDepth 100000 in
set_option maxHeartbeats 4000000 in
theorem k_X12_some_4 {G : Gx} {d : Nat} {v' : Unit} {h' : Hp} {n' : Nat} {c_X12_every : Hp → Nat → Nat → Rz Unit} (C_X12_every : ∀ {h : Hp} {nx : Nat} {b0 : Nat} {v : Unit} {h1 : Hp} {n1 : Nat}, c_X12_every h nx b0 = some (v, h1, n1) → Ct G mX12_every (d + 2) (Same none h1 n1) [.ref b0] h nx) {c_X12_factor : Hp → Nat → Nat → Rz Unit} (C_X12_factor : ∀ {h : Hp} {nx : Nat} {b0 : Nat} {v : Unit} {h1 : Hp} {n1 : Nat}, c_X12_factor h nx b0 = some (v, h1, n1) → Ct G mX12_factor (d + 2) (Same none h1 n1) [.ref b0] h nx) {c_X12_some : Hp → Nat → Nat → Rz Unit} (C_X12_some : ∀ {h : Hp} {nx : Nat} {b0 : Nat} {v : Unit} {h1 : Hp} {n1 : Nat}, c_X12_some h nx b0 = some (v, h1, n1) → Ct G mX12_some (d + 2) (Same none h1 n1) [.ref b0] h nx) : ∀ (n : Nat) {h : Hp} {nx : Nat} {l0 : Nat}, F_X12_some_4 G c_X12_every c_X12_factor c_X12_some n h nx l0 = some (v', h', n') → Ok G mX12_some (d + 3) (Same none h' n') 4 [some (.ref l0)] [] h nx 0 0 := by
  intro n
  induction n with
  | zero =>
    intro h nx l0 e
    rw [F_X12_some_4_0] at e
    cases e
  | succ n K4 =>
    intro h nx l0 e
    rw [F_X12_some_4_s] at e
    refine Ok.aload_n dX12_some_4 rfl ?_
    refine X.rgfI fl_RX12_81 dX12_some_5 e (fun v1 e1 => ?_)
    clear e
    refine X.if_ne (tgt := 43) dX12_some_8 (by decide) e1 (fun e2 => ?_) (fun e2 => ?_)
    · clear e1
      exact Ok.weakL (k_X12_some_43 (d := d) C_X12_every C_X12_factor C_X12_some e2) trivial
    · clear e1
      refine Ok.aload_n dX12_some_11 rfl ?_
      refine X.rck e2 (fun c fs hb hc e3 => ?_)
      clear e2
      obtain rfl := List.mem_singleton.mp hc
      refine X.callV (My := mX12_here) (n := 0) (As := []) (T := (fun v => (some (.int v)))) (stk' := (fun v => [.int v])) (rest := []) (kc' := 0) (ks' := 0) dX12_some_12 e3 (fun v h n e => k_X12_here (d := d + 2) e) hb rfl wd1209 wd80 wd1208 wd26 wd1206 (by decide +kernel) rfl (by decide) rfl rfl (Nat.le_of_ble_eq_true rfl) (Nat.le_of_ble_eq_true rfl) (Nat.le_of_ble_eq_true rfl) rfl rfl (fun _ => rfl) (fun r2 h3 n4 e4 => ?_)
      clear e3
      refine Ok.bipushV (v := (nI 124)) dX12_some_15 (by decide +kernel) ?_
      refine X.icmp_ne (tgt := 43) dX12_some_17 (by decide) e4 (fun e5 => ?_) (fun e5 => ?_)
      · clear e4
        exact Ok.weakL (k_X12_some_43 (d := d) C_X12_every C_X12_factor C_X12_some e5) trivial
      · clear e4
        refine Ok.aload_n dX12_some_20 rfl ?_
        refine Ok.dup dX12_some_21 rfl ?_
        refine X.rgfI fl_RX12_75 dX12_some_22 e5 (fun v5 e6 => ?_)
        clear e5
        refine Ok.iconstV (v := (nI 1)) dX12_some_25 (by decide +kernel) ?_
        refine Ok.iadd dX12_some_26 ?_
        refine X.rpfV (v := (.int ((v5 + (nI 1))))) fp_RX12_75 rfl rfl dX12_some_27 e6 (fun h6 e7 => ?_)
        clear e6
        refine Ok.aload_n dX12_some_30 rfl ?_
        refine X.rck e7 (fun c fs hb hc e8 => ?_)
        clear e7
        obtain rfl := List.mem_singleton.mp hc
        refine X.callV (My := mX12_every) (n := 0) (As := []) (T := (fun v => none)) (stk' := (fun _ => [])) (rest := []) (kc' := 0) (ks' := 0) dX12_some_31 e8 (fun v h n e => C_X12_every e) hb rfl wd1237 wd80 wd1236 wd32 wd1234 (by decide +kernel) rfl (by decide) rfl rfl (Nat.le_of_ble_eq_true rfl) (Nat.le_of_ble_eq_true rfl) (Nat.le_of_ble_eq_true rfl) rfl rfl (fun _ => rfl) (fun _ h8 n9 e9 => ?_)
        clear e8
        refine Ok.aload_n dX12_some_34 rfl ?_
        refine Ok.bipushV (v := (-3 : Int32)) dX12_some_35 (by decide +kernel) ?_
        refine X.rck e9 (fun c fs hb hc e10 => ?_)
        clear e9
        obtain rfl := List.mem_singleton.mp hc
        refine X.callV (My := mX12_emits) (n := 1) (As := [.int (-3 : Int32)]) (T := (fun v => none)) (stk' := (fun _ => [])) (rest := []) (kc' := 0) (ks' := 0) dX12_some_37 e10 (fun v h n e => k_X12_emits (d := d + 2) e) hb rfl wd1245 wd80 wd1244 wd34 wd1242 (by decide +kernel) rfl (by decide) rfl rfl (Nat.le_of_ble_eq_true rfl) (Nat.le_of_ble_eq_true rfl) (Nat.le_of_ble_eq_true rfl) rfl rfl (fun _ => rfl) (fun _ h11 n12 e11 => ?_)
        clear e10
        refine Ok.goto (tgt := 4) dX12_some_40 (by decide) ?_
        exact Ok.weakL (K4 e11) ⟨rfl, trivial⟩
noncomputable def B_X12_some (G : Gx) (c_X12_every : Hp → Nat → Nat → Rz Unit) (c_X12_factor : Hp → Nat → Nat → Rz Unit) (c_X12_some : Hp → Nat → Nat → Rz Unit) (h : Hp) (nx : Nat) (a0 : Nat) : Rz Unit :=
ck h a0 [12] (fun _ =>
cl (c_X12_every h nx a0) (fun _ h2 n3 =>
(F_X12_some_4 G c_X12_every c_X12_factor c_X12_some fuelL h2 n3 a0)))
set_option maxRecDepth 100000 in
set_option maxHeartbeats 4000000 in
theorem b_X12_some {G : Gx} {d : Nat} {c_X12_every : Hp → Nat → Nat → Rz Unit} (C_X12_every : ∀ {h : Hp} {nx : Nat} {b0 : Nat} {v : Unit} {h1 : Hp} {n1 : Nat}, c_X12_every h nx b0 = some (v, h1, n1) → Ct G mX12_every (d + 2) (Same none h1 n1) [.ref b0] h nx) {c_X12_factor : Hp → Nat → Nat → Rz Unit} (C_X12_factor : ∀ {h : Hp} {nx : Nat} {b0 : Nat} {v : Unit} {h1 : Hp} {n1 : Nat}, c_X12_factor h nx b0 = some (v, h1, n1) → Ct G mX12_factor (d + 2) (Same none h1 n1) [.ref b0] h nx) {c_X12_some : Hp → Nat → Nat → Rz Unit} (C_X12_some : ∀ {h : Hp} {nx : Nat} {b0 : Nat} {v : Unit} {h1 : Hp} {n1 : Nat}, c_X12_some h nx b0 = some (v, h1, n1) → Ct G mX12_some (d + 2) (Same none h1 n1) [.ref b0] h nx) {h : Hp} {nx : Nat} {a0 : Nat} {v' : Unit} {h' : Hp} {n' : Nat} (e : B_X12_some G c_X12_every c_X12_factor c_X12_some h nx a0 = some (v', h', n')) : Ct G mX12_some (d + 3) (Same none h' n') [.ref a0] h nx := by
  unfold B_X12_some at e
  refine Ct.of (ls := [some (.ref a0)]) (by decide +kernel) rfl (Nat.le_of_ble_eq_true rfl) rfl ?_
  refine Ok.aload_n dX12_some_0 rfl ?_
  refine X.rck e (fun c fs hb hc e1 => ?_)
  clear e
  obtain rfl := List.mem_singleton.mp hc
  refine X.callV (My := mX12_every) (n := 0) (As := []) (T := (fun v => none)) (stk' := (fun _ => [])) (rest := []) (kc' := 0) (ks' := 0) dX12_some_1 e1 (fun v h n e => C_X12_every e) hb rfl wd1237 wd80 wd1236 wd32 wd1234 (by decide +kernel) rfl (by decide) rfl rfl (Nat.le_of_ble_eq_true rfl) (Nat.le_of_ble_eq_true rfl) (Nat.le_of_ble_eq_true rfl) rfl rfl (fun _ => rfl) (fun _ h2 n3 e2 => ?_)
  clear e1
  exact Ok.weakL (k_X12_some_4 (d := d) C_X12_every C_X12_factor C_X12_some fuelL e2) ⟨rfl, trivial⟩
noncomputable def R_X12_every (G : Gx) : Nat → ((Hp → Nat → Nat → Rz Unit) × (Hp → Nat → Nat → Rz Unit) × (Hp → Nat → Nat → Rz Unit)) := fun n => Nat.rec (motive := fun _ => ((Hp → Nat → Nat → Rz Unit) × (Hp → Nat → Nat → Rz Unit) × (Hp → Nat → Nat → Rz Unit))) ((fun _ _ _ => none), (fun _ _ _ => none), (fun _ _ _ => none)) (fun _ p => (B_X12_every G p.1 p.2.1 p.2.2, B_X12_factor G p.1 p.2.1 p.2.2, B_X12_some G p.1 p.2.1 p.2.2)) n
noncomputable def F_X12_every (G : Gx) (n : Nat) : Hp → Nat → Nat → Rz Unit := (R_X12_every G n).1
noncomputable def F_X12_factor (G : Gx) (n : Nat) : Hp → Nat → Nat → Rz Unit := (R_X12_every G n).2.1
noncomputable def F_X12_some (G : Gx) (n : Nat) : Hp → Nat → Nat → Rz Unit := (R_X12_every G n).2.2
set_option maxRecDepth 100000 in
theorem R_X12_every_s {G : Gx} {n : Nat} : R_X12_every G (n + 1) = (B_X12_every G (F_X12_every G n) (F_X12_factor G n) (F_X12_some G n), B_X12_factor G (F_X12_every G n) (F_X12_factor G n) (F_X12_some G n), B_X12_some G (F_X12_every G n) (F_X12_factor G n) (F_X12_some G n)) := rfl
set_option maxRecDepth 100000 in
theorem F_X12_every_s {G : Gx} {n : Nat} : F_X12_every G (n + 1) = B_X12_every G (F_X12_every G n) (F_X12_factor G n) (F_X12_some G n) := congrArg (fun p => p.1) R_X12_every_s
theorem F_X12_every_0 {G : Gx} : F_X12_every G 0 = (fun _ _ _ => none) := rfl
set_option maxRecDepth 100000 in
theorem F_X12_factor_s {G : Gx} {n : Nat} : F_X12_factor G (n + 1) = B_X12_factor G (F_X12_every G n) (F_X12_factor G n) (F_X12_some G n) := congrArg (fun p => p.2.1) R_X12_every_s
theorem F_X12_factor_0 {G : Gx} : F_X12_factor G 0 = (fun _ _ _ => none) := rfl
set_option maxRecDepth 100000 in
theorem F_X12_some_s {G : Gx} {n : Nat} : F_X12_some G (n + 1) = B_X12_some G (F_X12_every G n) (F_X12_factor G n) (F_X12_some G n) := congrArg (fun p => p.2.2) R_X12_every_s
theorem F_X12_some_0 {G : Gx} : F_X12_some G 0 = (fun _ _ _ => none) := rfl
set_option maxRecDepth 100000 in
set_option maxHeartbeats 4000000 in
theorem kk_X12_every {G : Gx} {d : Nat} : ∀ n : Nat, (∀ {h : Hp} {nx : Nat} {a0 : Nat} {v : Unit} {h1 : Hp} {n1 : Nat}, F_X12_every G n h nx a0 = some (v, h1, n1) → Ct G mX12_every (d + (n + 2)) (Same none h1 n1) [.ref a0] h nx) ∧ (∀ {h : Hp} {nx : Nat} {a0 : Nat} {v : Unit} {h1 : Hp} {n1 : Nat}, F_X12_factor G n h nx a0 = some (v, h1, n1) → Ct G mX12_factor (d + (n + 2)) (Same none h1 n1) [.ref a0] h nx) ∧ (∀ {h : Hp} {nx : Nat} {a0 : Nat} {v : Unit} {h1 : Hp} {n1 : Nat}, F_X12_some G n h nx a0 = some (v, h1, n1) → Ct G mX12_some (d + (n + 2)) (Same none h1 n1) [.ref a0] h nx) := by
  intro n
  induction n with
  | zero => exact ⟨(fun e => (by have e9 : (none : Rz Unit) = some _ := e; cases e9)), (fun e => (by have e9 : (none : Rz Unit) = some _ := e; cases e9)), (fun e => (by have e9 : (none : Rz Unit) = some _ := e; cases e9))⟩
  | succ n ih =>
    obtain ⟨i0, i1, i2⟩ := ih
    exact ⟨(by
      intro h nx a0 v h1 n1 e
      rw [F_X12_every_s] at e
      rw [show d + (n + 1 + 2) = (d + n) + 3 by omega]
      exact b_X12_every (d := d + n) (fun e => by rw [show d + n + 2 = d + (n + 2) by omega]; exact i0 e) (fun e => by rw [show d + n + 2 = d + (n + 2) by omega]; exact i1 e) (fun e => by rw [show d + n + 2 = d + (n + 2) by omega]; exact i2 e) e), (by
      intro h nx a0 v h1 n1 e
      rw [F_X12_factor_s] at e
      rw [show d + (n + 1 + 2) = (d + n) + 3 by omega]
      exact b_X12_factor (d := d + n) (fun e => by rw [show d + n + 2 = d + (n + 2) by omega]; exact i0 e) (fun e => by rw [show d + n + 2 = d + (n + 2) by omega]; exact i1 e) (fun e => by rw [show d + n + 2 = d + (n + 2) by omega]; exact i2 e) e), (by
      intro h nx a0 v h1 n1 e
      rw [F_X12_some_s] at e
      rw [show d + (n + 1 + 2) = (d + n) + 3 by omega]
      exact b_X12_some (d := d + n) (fun e => by rw [show d + n + 2 = d + (n + 2) by omega]; exact i0 e) (fun e => by rw [show d + n + 2 = d + (n + 2) by omega]; exact i1 e) (fun e => by rw [show d + n + 2 = d + (n + 2) by omega]; exact i2 e) e)⟩
theorem k_X12_every {G : Gx} {d : Nat} (n : Nat) : ∀ {h : Hp} {nx : Nat} {a0 : Nat} {v : Unit} {h1 : Hp} {n1 : Nat}, F_X12_every G n h nx a0 = some (v, h1, n1) → Ct G mX12_every (d + (n + 2)) (Same none h1 n1) [.ref a0] h nx := (@kk_X12_every G d n).1
theorem k_X12_factor {G : Gx} {d : Nat} (n : Nat) : ∀ {h : Hp} {nx : Nat} {a0 : Nat} {v : Unit} {h1 : Hp} {n1 : Nat}, F_X12_factor G n h nx a0 = some (v, h1, n1) → Ct G mX12_factor (d + (n + 2)) (Same none h1 n1) [.ref a0] h nx := (@kk_X12_every G d n).2.1
theorem k_X12_some {G : Gx} {d : Nat} (n : Nat) : ∀ {h : Hp} {nx : Nat} {a0 : Nat} {v : Unit} {h1 : Hp} {n1 : Nat}, F_X12_some G n h nx a0 = some (v, h1, n1) → Ct G mX12_some (d + (n + 2)) (Same none h1 n1) [.ref a0] h nx := (@kk_X12_every G d n).2.2
noncomputable def F_X12_changes_12 (G : Gx) (h : Hp) (nx : Nat) (s0 : Nat) (s1 : Nat) (l0 : Nat) (l1 : Int32) : Rz Unit :=
ck h s0 [12] (fun _ =>
cl (F_X12_spells G h nx s0 s1) (fun _ h2 n3 =>
ck h2 l0 [12] (fun _ =>
cl (F_X12_figures G h2 n3 l0) (fun r4 h5 n6 =>
ck h5 l0 [12] (fun _ =>
cl (F_X12_must G h5 n6 l0 (nI 32)) (fun _ h8 n9 =>
ck h8 l0 [12] (fun _ =>
cl (F_X12_some G 64 h8 n9 l0) (fun _ h11 n12 =>
ck h11 l0 [12] (fun _ =>
cl (F_X12_emits G h11 n12 l0 (((((-10 : Int32) - (((nI 2) * r4)))) - l1))) (fun _ h14 n15 =>
some ((), h14, n15)))))))))))
set_option maxRecDepth 100000 in
set_option maxHeartbeats 4000000 in
theorem k_X12_changes_12 {G : Gx} {d : Nat} {v' : Unit} {h' : Hp} {n' : Nat} {h : Hp} {nx : Nat} {s0 : Nat} {s1 : Nat} {l0 : Nat} {l1 : Int32} (e : F_X12_changes_12 G h nx s0 s1 l0 l1 = some (v', h', n')) : Ok G mX12_changes (d + 67) (Same none h' n') 12 [some (.ref l0), some (.int l1), none] [.ref (g_sK G s1), .ref s0] h nx 0 0 := by
  unfold F_X12_changes_12 at e
  refine X.rck e (fun c fs hb hc e1 => ?_)
  clear e
  obtain rfl := List.mem_singleton.mp hc
  refine X.callV (My := mX12_spells) (n := 1) (As := [.ref (g_sK G s1)]) (T := (fun v => none)) (stk' := (fun _ => [])) (rest := []) (kc' := 0) (ks' := 0) dX12_changes_12 e1 (fun v h n e => k_X12_spells (d := d + 61) e) hb rfl wd1219 wd80 wd1218 wd28 wd1216 (by decide +kernel) rfl (by decide) rfl rfl (Nat.le_of_ble_eq_true rfl) (Nat.le_of_ble_eq_true rfl) (Nat.le_of_ble_eq_true rfl) rfl rfl (fun _ => rfl) (fun _ h2 n3 e2 => ?_)
  clear e1
  refine Ok.aload_n dX12_changes_15 rfl ?_
  refine X.rck e2 (fun c fs hb hc e3 => ?_)
  clear e2
  obtain rfl := List.mem_singleton.mp hc
  refine X.callV (My := mX12_figures) (n := 0) (As := []) (T := (fun v => (some (.int v)))) (stk' := (fun v => [.int v])) (rest := []) (kc' := 0) (ks' := 0) dX12_changes_16 e3 (fun v h n e => k_X12_figures (d := d + 65) e) hb rfl wd1229 wd80 wd1228 wd30 wd1226 (by decide +kernel) rfl (by decide) rfl rfl (Nat.le_of_ble_eq_true rfl) (Nat.le_of_ble_eq_true rfl) (Nat.le_of_ble_eq_true rfl) rfl rfl (fun _ => rfl) (fun r4 h5 n6 e4 => ?_)
  clear e3
  refine XL.istore_n dX12_changes_19 (by decide) (L := [some (.ref l0), some (.int l1), some (.int r4)]) rfl ?_
  refine Ok.aload_n dX12_changes_20 rfl ?_
  refine Ok.bipushV (v := (nI 32)) dX12_changes_21 (by decide +kernel) ?_
  refine X.rck e4 (fun c fs hb hc e5 => ?_)
  clear e4
  obtain rfl := List.mem_singleton.mp hc
  refine X.callV (My := mX12_must) (n := 1) (As := [.int (nI 32)]) (T := (fun v => none)) (stk' := (fun _ => [])) (rest := []) (kc' := 0) (ks' := 0) dX12_changes_23 e5 (fun v h n e => k_X12_must (d := d + 65) e) hb rfl wd1225 wd80 wd1224 wd29 wd1222 (by decide +kernel) rfl (by decide) rfl rfl (Nat.le_of_ble_eq_true rfl) (Nat.le_of_ble_eq_true rfl) (Nat.le_of_ble_eq_true rfl) rfl rfl (fun _ => rfl) (fun _ h8 n9 e6 => ?_)
  clear e5
  refine Ok.aload_n dX12_changes_26 rfl ?_
  refine X.rck e6 (fun c fs hb hc e7 => ?_)
  clear e6
  obtain rfl := List.mem_singleton.mp hc
  refine X.callV (My := mX12_some) (n := 0) (As := []) (T := (fun v => none)) (stk' := (fun _ => [])) (rest := []) (kc' := 0) (ks' := 0) dX12_changes_27 e7 (fun v h n e => k_X12_some 64 (d := d + 0) e) hb rfl wd1233 wd80 wd1232 wd31 wd1230 (by decide +kernel) rfl (by decide) rfl rfl (Nat.le_of_ble_eq_true rfl) (Nat.le_of_ble_eq_true rfl) (Nat.le_of_ble_eq_true rfl) rfl rfl (fun _ => rfl) (fun _ h11 n12 e8 => ?_)
  clear e7
  refine Ok.aload_n dX12_changes_30 rfl ?_
  refine Ok.bipushV (v := (-10 : Int32)) dX12_changes_31 (by decide +kernel) ?_
  refine Ok.iconstV (v := (nI 2)) dX12_changes_33 (by decide +kernel) ?_
  refine Ok.iload_n dX12_changes_34 rfl ?_
  refine Ok.imul dX12_changes_35 ?_
  refine Ok.isub dX12_changes_36 ?_
  refine Ok.iload_n dX12_changes_37 rfl ?_
  refine Ok.isub dX12_changes_38 ?_
  refine X.rck e8 (fun c fs hb hc e9 => ?_)
  clear e8
  obtain rfl := List.mem_singleton.mp hc
  refine X.callV (My := mX12_emits) (n := 1) (As := [.int (((((-10 : Int32) - (((nI 2) * r4)))) - l1))]) (T := (fun v => none)) (stk' := (fun _ => [])) (rest := []) (kc' := 0) (ks' := 0) dX12_changes_39 e9 (fun v h n e => k_X12_emits (d := d + 66) e) hb rfl wd1245 wd80 wd1244 wd34 wd1242 (by decide +kernel) rfl (by decide) rfl rfl (Nat.le_of_ble_eq_true rfl) (Nat.le_of_ble_eq_true rfl) (Nat.le_of_ble_eq_true rfl) rfl rfl (fun _ => rfl) (fun _ h14 n15 e10 => ?_)
  clear e9
  exact X.vret dX12_changes_42 rfl (Nat.le_of_ble_eq_true rfl) (Nat.le_of_ble_eq_true rfl) e10
noncomputable def F_X12_changes (G : Gx) (h : Hp) (nx : Nat) (a0 : Nat) (a1 : Int32) : Rz Unit :=
if a1 = 0 then
(F_X12_changes_12 G h nx a0 6 a0 a1)
else
(F_X12_changes_12 G h nx a0 7 a0 a1)
set_option maxRecDepth 100000 in
set_option maxHeartbeats 4000000 in
theorem k_X12_changes {G : Gx} {d : Nat} {h : Hp} {nx : Nat} {a0 : Nat} {a1 : Int32} {v' : Unit} {h' : Hp} {n' : Nat} (e : F_X12_changes G h nx a0 a1 = some (v', h', n')) : Ct G mX12_changes (d + 67) (Same none h' n') [.ref a0, .int a1] h nx := by
  unfold F_X12_changes at e
  refine Ct.of (ls := [some (.ref a0), some (.int a1), none]) (by decide +kernel) rfl (Nat.le_of_ble_eq_true rfl) rfl ?_
  refine Ok.aload_n dX12_changes_0 rfl ?_
  refine Ok.iload_n dX12_changes_1 rfl ?_
  refine X.if_ne (tgt := 10) dX12_changes_2 (by decide) e (fun e1 => ?_) (fun e1 => ?_)
  · clear e
    refine Ok.ldcS (k := 7) dX12_changes_10 (by decide) rfl rfl ?_
    exact Ok.weakL (k_X12_changes_12 (d := d) e1) ⟨rfl, ⟨rfl, trivial⟩⟩
  · clear e
    refine Ok.ldcS (k := 6) dX12_changes_5 (by decide) rfl rfl ?_
    refine Ok.goto (tgt := 12) dX12_changes_7 (by decide) ?_
    exact Ok.weakL (k_X12_changes_12 (d := d) e1) ⟨rfl, ⟨rfl, trivial⟩⟩
noncomputable def F_X12_tells_35 (G : Gx) (h : Hp) (nx : Nat) : Rz Unit :=
some ((), h, nx)
set_option maxRecDepth 100000 in
set_option maxHeartbeats 4000000 in
theorem k_X12_tells_35 {G : Gx} {d : Nat} {v' : Unit} {h' : Hp} {n' : Nat} {h : Hp} {nx : Nat} (e : F_X12_tells_35 G h nx = some (v', h', n')) : Ok G mX12_tells (d + 6) (Same none h' n') 35 [none, none, none, none] [] h nx 0 0 := by
  unfold F_X12_tells_35 at e
  exact X.vret dX12_tells_35 rfl (Nat.le_of_ble_eq_true rfl) (Nat.le_of_ble_eq_true rfl) e
noncomputable def F_X12_tells (G : Gx) (h : Hp) (nx : Nat) (a0 : Nat) (a1 : Int32) (a2 : Nat) : Rz Unit :=
ck h a0 [12] (fun _ =>
cl (F_X12_spells G h nx a0 a2) (fun _ h2 n3 =>
ck h2 a0 [12] (fun _ =>
cl (F_X12_figures G h2 n3 a0) (fun r4 h5 n6 =>
gfI h5 a0 [12] 7 (fun v7 =>
if v7 = 0 then
gfR h5 a0 [12] 1 (fun v8 =>
gfI h5 a0 [12] 4 (fun v9 =>
nn v8 (fun p10 =>
asI (g_c G 0) id h5 p10 (((((nI 140) + (((nI 4) * v9)))) + a1)) r4 (fun h11 =>
(F_X12_tells_35 G h11 n6)))))
else
(F_X12_tells_35 G h5 n6))))))
set_option maxRecDepth 100000 in
set_option maxHeartbeats 4000000 in
theorem k_X12_tells {G : Gx} {d : Nat} {h : Hp} {nx : Nat} {a0 : Nat} {a1 : Int32} {a2 : Nat} {v' : Unit} {h' : Hp} {n' : Nat} (e : F_X12_tells G h nx a0 a1 a2 = some (v', h', n')) : Ct G mX12_tells (d + 6) (Same none h' n') [.ref a0, .int a1, .ref (g_sK G a2)] h nx := by
  unfold F_X12_tells at e
  refine Ct.of (ls := [some (.ref a0), some (.int a1), some (.ref (g_sK G a2)), none]) (by decide +kernel) rfl (Nat.le_of_ble_eq_true rfl) rfl ?_
  refine Ok.aload_n dX12_tells_0 rfl ?_
  refine Ok.aload_n dX12_tells_1 rfl ?_
  refine X.rck e (fun c fs hb hc e1 => ?_)
  clear e
  obtain rfl := List.mem_singleton.mp hc
  refine X.callV (My := mX12_spells) (n := 1) (As := [.ref (g_sK G a2)]) (T := (fun v => none)) (stk' := (fun _ => [])) (rest := []) (kc' := 0) (ks' := 0) dX12_tells_2 e1 (fun v h n e => k_X12_spells (d := d + 0) e) hb rfl wd1219 wd80 wd1218 wd28 wd1216 (by decide +kernel) rfl (by decide) rfl rfl (Nat.le_of_ble_eq_true rfl) (Nat.le_of_ble_eq_true rfl) (Nat.le_of_ble_eq_true rfl) rfl rfl (fun _ => rfl) (fun _ h2 n3 e2 => ?_)
  clear e1
  refine Ok.aload_n dX12_tells_5 rfl ?_
  refine X.rck e2 (fun c fs hb hc e3 => ?_)
  clear e2
  obtain rfl := List.mem_singleton.mp hc
  refine X.callV (My := mX12_figures) (n := 0) (As := []) (T := (fun v => (some (.int v)))) (stk' := (fun v => [.int v])) (rest := []) (kc' := 0) (ks' := 0) dX12_tells_6 e3 (fun v h n e => k_X12_figures (d := d + 4) e) hb rfl wd1229 wd80 wd1228 wd30 wd1226 (by decide +kernel) rfl (by decide) rfl rfl (Nat.le_of_ble_eq_true rfl) (Nat.le_of_ble_eq_true rfl) (Nat.le_of_ble_eq_true rfl) rfl rfl (fun _ => rfl) (fun r4 h5 n6 e4 => ?_)
  clear e3
  refine XL.istore_n dX12_tells_9 (by decide) (L := [some (.ref a0), some (.int a1), some (.ref (g_sK G a2)), some (.int r4)]) rfl ?_
  refine Ok.aload_n dX12_tells_10 rfl ?_
  refine X.rgfI fl_RX12_81 dX12_tells_11 e4 (fun v7 e5 => ?_)
  clear e4
  refine X.if_ne (tgt := 35) dX12_tells_14 (by decide) e5 (fun e6 => ?_) (fun e6 => ?_)
  · clear e5
    exact Ok.weakL (k_X12_tells_35 (d := d) e6) trivial
  · clear e5
    refine Ok.aload_n dX12_tells_17 rfl ?_
    refine X.rgfR fl_RX12_9 dX12_tells_18 e6 (fun v8 e7 => ?_)
    clear e6
    refine Ok.sipushV (v := (nI 140)) dX12_tells_21 (by decide +kernel) ?_
    refine Ok.iconstV (v := (nI 4)) dX12_tells_24 (by decide +kernel) ?_
    refine Ok.aload_n dX12_tells_25 rfl ?_
    refine X.rgfI fl_RX12_102 dX12_tells_26 e7 (fun v9 e8 => ?_)
    clear e7
    refine Ok.imul dX12_tells_29 ?_
    refine Ok.iadd dX12_tells_30 ?_
    refine Ok.iload_n dX12_tells_31 rfl ?_
    refine Ok.iadd dX12_tells_32 ?_
    refine Ok.iload_n dX12_tells_33 rfl ?_
    refine X.rnn e8 (fun p10 q e9 => ?_)
    clear e8
    subst q
    refine X.iast dX12_tells_34 e9 (fun h11 e10 => ?_)
    clear e9
    exact Ok.weakL (k_X12_tells_35 (d := d) e10) trivial
noncomputable def F_X12_clause_125 (G : Gx) (h : Hp) (nx : Nat) : Rz Unit :=
some ((), h, nx)
set_option maxRecDepth 100000 in
set_option maxHeartbeats 4000000 in
theorem k_X12_clause_125 {G : Gx} {d : Nat} {v' : Unit} {h' : Hp} {n' : Nat} {h : Hp} {nx : Nat} (e : F_X12_clause_125 G h nx = some (v', h', n')) : Ok G mX12_clause (d + 68) (Same none h' n') 125 [none] [] h nx 0 0 := by
  unfold F_X12_clause_125 at e
  exact X.vret dX12_clause_125 rfl (Nat.le_of_ble_eq_true rfl) (Nat.le_of_ble_eq_true rfl) e
noncomputable def F_X12_clause (G : Gx) (h : Hp) (nx : Nat) (a0 : Nat) : Rz Unit :=
ck h a0 [12] (fun _ =>
cl (F_X12_here G h nx a0) (fun r1 h2 n3 =>
if r1 = (nI 98) then
ck h2 a0 [12] (fun _ =>
cl (F_X12_tells G h2 n3 a0 (nI 1) 9) (fun _ h5 n6 =>
(F_X12_clause_125 G h5 n6)))
else
if r1 = (nI 104) then
ck h2 a0 [12] (fun _ =>
cl (F_X12_changes G h2 n3 a0 (nI 1)) (fun _ h8 n9 =>
(F_X12_clause_125 G h8 n9)))
else
if r1 = (nI 105) then
ck h2 a0 [12] (fun _ =>
cl (F_X12_changes G h2 n3 a0 (nI 0)) (fun _ h11 n12 =>
(F_X12_clause_125 G h11 n12)))
else
if r1 = (nI 108) then
ck h2 a0 [12] (fun _ =>
cl (F_X12_tells G h2 n3 a0 (nI 2) 10) (fun _ h14 n15 =>
(F_X12_clause_125 G h14 n15)))
else
if r1 = (nI 109) then
ck h2 a0 [12] (fun _ =>
cl (F_X12_tells G h2 n3 a0 (nI 3) 11) (fun _ h17 n18 =>
(F_X12_clause_125 G h17 n18)))
else
if r1 = (nI 119) then
ck h2 a0 [12] (fun _ =>
cl (F_X12_tells G h2 n3 a0 (nI 0) 8) (fun _ h20 n21 =>
(F_X12_clause_125 G h20 n21)))
else
zk (nI 1) (
pfV h2 a0 [12] 7 (.int (nI 1)) (fun h22 =>
(F_X12_clause_125 G h22 n3)))))
set_option maxRecDepth 100000 in
set_option maxHeartbeats 4000000 in
theorem k_X12_clause {G : Gx} {d : Nat} {h : Hp} {nx : Nat} {a0 : Nat} {v' : Unit} {h' : Hp} {n' : Nat} (e : F_X12_clause G h nx a0 = some (v', h', n')) : Ct G mX12_clause (d + 68) (Same none h' n') [.ref a0] h nx := by
  unfold F_X12_clause at e
  refine Ct.of (ls := [some (.ref a0)]) (by decide +kernel) rfl (Nat.le_of_ble_eq_true rfl) rfl ?_
  refine Ok.aload_n dX12_clause_0 rfl ?_
  refine X.rck e (fun c fs hb hc e1 => ?_)
  clear e
  obtain rfl := List.mem_singleton.mp hc
  refine X.callV (My := mX12_here) (n := 0) (As := []) (T := (fun v => (some (.int v)))) (stk' := (fun v => [.int v])) (rest := []) (kc' := 0) (ks' := 0) dX12_clause_1 e1 (fun v h n e => k_X12_here (d := d + 67) e) hb rfl wd1209 wd80 wd1208 wd26 wd1206 (by decide +kernel) rfl (by decide) rfl rfl (Nat.le_of_ble_eq_true rfl) (Nat.le_of_ble_eq_true rfl) (Nat.le_of_ble_eq_true rfl) rfl rfl (fun _ => rfl) (fun r1 h2 n3 e2 => ?_)
  clear e1
  refine X.sw e2 (fun c0 e3 => ?_) (fun c0 e3 => ?_)
  · clear e2
    rw [c0]
    refine Ok.lookup (off := 86) (tgt := 90) dX12_clause_4 (by decide +kernel) (by decide +kernel) (by decide) ?_
    refine Ok.aload_n dX12_clause_90 rfl ?_
    refine Ok.iconstV (v := (nI 1)) dX12_clause_91 (by decide +kernel) ?_
    refine Ok.ldcS (k := 9) dX12_clause_92 (by decide) rfl rfl ?_
    refine X.rck e3 (fun c fs hb hc e4 => ?_)
    clear e3
    obtain rfl := List.mem_singleton.mp hc
    refine X.callV (My := mX12_tells) (n := 2) (As := [.int (nI 1), .ref (g_sK G 9)]) (T := (fun v => none)) (stk' := (fun _ => [])) (rest := []) (kc' := 0) (ks' := 0) dX12_clause_94 e4 (fun v h n e => k_X12_tells (d := d + 61) e) hb rfl wd1250 wd80 wd1249 wd35 wd1247 (by decide +kernel) rfl (by decide) rfl rfl (Nat.le_of_ble_eq_true rfl) (Nat.le_of_ble_eq_true rfl) (Nat.le_of_ble_eq_true rfl) rfl rfl (fun _ => rfl) (fun _ h5 n6 e5 => ?_)
    clear e4
    refine Ok.goto (tgt := 125) dX12_clause_97 (by decide) ?_
    exact Ok.weakL (k_X12_clause_125 (d := d) e5) trivial
  refine X.sw e3 (fun c1 e4 => ?_) (fun c1 e4 => ?_)
  · clear e3
    rw [c1]
    refine Ok.lookup (off := 68) (tgt := 72) dX12_clause_4 (by decide +kernel) (by decide +kernel) (by decide) ?_
    refine Ok.aload_n dX12_clause_72 rfl ?_
    refine Ok.iconstV (v := (nI 1)) dX12_clause_73 (by decide +kernel) ?_
    refine X.rck e4 (fun c fs hb hc e5 => ?_)
    clear e4
    obtain rfl := List.mem_singleton.mp hc
    refine X.callV (My := mX12_changes) (n := 1) (As := [.int (nI 1)]) (T := (fun v => none)) (stk' := (fun _ => [])) (rest := []) (kc' := 0) (ks' := 0) dX12_clause_74 e5 (fun v h n e => k_X12_changes (d := d + 0) e) hb rfl wd1213 wd80 wd1212 wd27 wd1210 (by decide +kernel) rfl (by decide) rfl rfl (Nat.le_of_ble_eq_true rfl) (Nat.le_of_ble_eq_true rfl) (Nat.le_of_ble_eq_true rfl) rfl rfl (fun _ => rfl) (fun _ h8 n9 e6 => ?_)
    clear e5
    refine Ok.goto (tgt := 125) dX12_clause_77 (by decide) ?_
    exact Ok.weakL (k_X12_clause_125 (d := d) e6) trivial
  refine X.sw e4 (fun c2 e5 => ?_) (fun c2 e5 => ?_)
  · clear e4
    rw [c2]
    refine Ok.lookup (off := 60) (tgt := 64) dX12_clause_4 (by decide +kernel) (by decide +kernel) (by decide) ?_
    refine Ok.aload_n dX12_clause_64 rfl ?_
    refine Ok.iconstV (v := (nI 0)) dX12_clause_65 (by decide +kernel) ?_
    refine X.rck e5 (fun c fs hb hc e6 => ?_)
    clear e5
    obtain rfl := List.mem_singleton.mp hc
    refine X.callV (My := mX12_changes) (n := 1) (As := [.int (nI 0)]) (T := (fun v => none)) (stk' := (fun _ => [])) (rest := []) (kc' := 0) (ks' := 0) dX12_clause_66 e6 (fun v h n e => k_X12_changes (d := d + 0) e) hb rfl wd1213 wd80 wd1212 wd27 wd1210 (by decide +kernel) rfl (by decide) rfl rfl (Nat.le_of_ble_eq_true rfl) (Nat.le_of_ble_eq_true rfl) (Nat.le_of_ble_eq_true rfl) rfl rfl (fun _ => rfl) (fun _ h11 n12 e7 => ?_)
    clear e6
    refine Ok.goto (tgt := 125) dX12_clause_69 (by decide) ?_
    exact Ok.weakL (k_X12_clause_125 (d := d) e7) trivial
  refine X.sw e5 (fun c3 e6 => ?_) (fun c3 e6 => ?_)
  · clear e5
    rw [c3]
    refine Ok.lookup (off := 96) (tgt := 100) dX12_clause_4 (by decide +kernel) (by decide +kernel) (by decide) ?_
    refine Ok.aload_n dX12_clause_100 rfl ?_
    refine Ok.iconstV (v := (nI 2)) dX12_clause_101 (by decide +kernel) ?_
    refine Ok.ldcS (k := 10) dX12_clause_102 (by decide) rfl rfl ?_
    refine X.rck e6 (fun c fs hb hc e7 => ?_)
    clear e6
    obtain rfl := List.mem_singleton.mp hc
    refine X.callV (My := mX12_tells) (n := 2) (As := [.int (nI 2), .ref (g_sK G 10)]) (T := (fun v => none)) (stk' := (fun _ => [])) (rest := []) (kc' := 0) (ks' := 0) dX12_clause_104 e7 (fun v h n e => k_X12_tells (d := d + 61) e) hb rfl wd1250 wd80 wd1249 wd35 wd1247 (by decide +kernel) rfl (by decide) rfl rfl (Nat.le_of_ble_eq_true rfl) (Nat.le_of_ble_eq_true rfl) (Nat.le_of_ble_eq_true rfl) rfl rfl (fun _ => rfl) (fun _ h14 n15 e8 => ?_)
    clear e7
    refine Ok.goto (tgt := 125) dX12_clause_107 (by decide) ?_
    exact Ok.weakL (k_X12_clause_125 (d := d) e8) trivial
  refine X.sw e6 (fun c4 e7 => ?_) (fun c4 e7 => ?_)
  · clear e6
    rw [c4]
    refine Ok.lookup (off := 106) (tgt := 110) dX12_clause_4 (by decide +kernel) (by decide +kernel) (by decide) ?_
    refine Ok.aload_n dX12_clause_110 rfl ?_
    refine Ok.iconstV (v := (nI 3)) dX12_clause_111 (by decide +kernel) ?_
    refine Ok.ldcS (k := 11) dX12_clause_112 (by decide) rfl rfl ?_
    refine X.rck e7 (fun c fs hb hc e8 => ?_)
    clear e7
    obtain rfl := List.mem_singleton.mp hc
    refine X.callV (My := mX12_tells) (n := 2) (As := [.int (nI 3), .ref (g_sK G 11)]) (T := (fun v => none)) (stk' := (fun _ => [])) (rest := []) (kc' := 0) (ks' := 0) dX12_clause_114 e8 (fun v h n e => k_X12_tells (d := d + 61) e) hb rfl wd1250 wd80 wd1249 wd35 wd1247 (by decide +kernel) rfl (by decide) rfl rfl (Nat.le_of_ble_eq_true rfl) (Nat.le_of_ble_eq_true rfl) (Nat.le_of_ble_eq_true rfl) rfl rfl (fun _ => rfl) (fun _ h17 n18 e9 => ?_)
    clear e8
    refine Ok.goto (tgt := 125) dX12_clause_117 (by decide) ?_
    exact Ok.weakL (k_X12_clause_125 (d := d) e9) trivial
  refine X.sw e7 (fun c5 e8 => ?_) (fun c5 e8 => ?_)
  · clear e7
    rw [c5]
    refine Ok.lookup (off := 76) (tgt := 80) dX12_clause_4 (by decide +kernel) (by decide +kernel) (by decide) ?_
    refine Ok.aload_n dX12_clause_80 rfl ?_
    refine Ok.iconstV (v := (nI 0)) dX12_clause_81 (by decide +kernel) ?_
    refine Ok.ldcS (k := 8) dX12_clause_82 (by decide) rfl rfl ?_
    refine X.rck e8 (fun c fs hb hc e9 => ?_)
    clear e8
    obtain rfl := List.mem_singleton.mp hc
    refine X.callV (My := mX12_tells) (n := 2) (As := [.int (nI 0), .ref (g_sK G 8)]) (T := (fun v => none)) (stk' := (fun _ => [])) (rest := []) (kc' := 0) (ks' := 0) dX12_clause_84 e9 (fun v h n e => k_X12_tells (d := d + 61) e) hb rfl wd1250 wd80 wd1249 wd35 wd1247 (by decide +kernel) rfl (by decide) rfl rfl (Nat.le_of_ble_eq_true rfl) (Nat.le_of_ble_eq_true rfl) (Nat.le_of_ble_eq_true rfl) rfl rfl (fun _ => rfl) (fun _ h20 n21 e10 => ?_)
    clear e9
    refine Ok.goto (tgt := 125) dX12_clause_87 (by decide) ?_
    exact Ok.weakL (k_X12_clause_125 (d := d) e10) trivial
  refine Ok.lookup (off := 116) (tgt := 120) dX12_clause_4 (by decide +kernel) (lk_out (fun q hq => by simp only [List.map_cons, List.map_nil, List.mem_cons, List.not_mem_nil, or_false] at hq; rcases hq with rfl | rfl | rfl | rfl | rfl | rfl <;> first | exact lk_ne c0 (by decide) | exact lk_ne c1 (by decide) | exact lk_ne c2 (by decide) | exact lk_ne c3 (by decide) | exact lk_ne c4 (by decide) | exact lk_ne c5 (by decide))) (by decide) ?_
  refine Ok.aload_n dX12_clause_120 rfl ?_
  refine Ok.iconstV (v := (nI 1)) dX12_clause_121 (by decide +kernel) ?_
  refine X.rzk e8 (fun z e9 => ?_)
  clear e8
  refine X.rpfV (v := (.int (nI 1))) fp_RX12_81 (nar_z z) (fits_z z) dX12_clause_122 e9 (fun h22 e10 => ?_)
  clear e9
  exact Ok.weakL (k_X12_clause_125 (d := d) e10) trivial
noncomputable def F_X12_sort_167 (G : Gx) (h : Hp) (nx : Nat) (l0 : Nat) : Rz Int32 :=
gfI h l0 [12] 5 (fun v1 =>
some ((((-10 : Int32) - v1)), h, nx))
set_option maxRecDepth 100000 in
set_option maxHeartbeats 4000000 in
theorem k_X12_sort_167 {G : Gx} {d : Nat} {v' : Int32} {h' : Hp} {n' : Nat} {h : Hp} {nx : Nat} {l0 : Nat} (e : F_X12_sort_167 G h nx l0 = some (v', h', n')) : Ok G mX12_sort (d + 69) (Same (some (.int v')) h' n') 167 [some (.ref l0), none] [] h nx 0 0 := by
  unfold F_X12_sort_167 at e
  refine Ok.bipushV (v := (-10 : Int32)) dX12_sort_167 (by decide +kernel) ?_
  refine Ok.aload_n dX12_sort_169 rfl ?_
  refine X.rgfI fl_RX12_75 dX12_sort_170 e (fun v1 e1 => ?_)
  clear e
  refine Ok.isub dX12_sort_173 ?_
  exact X.iret dX12_sort_174 rfl (Nat.le_of_ble_eq_true rfl) (Nat.le_of_ble_eq_true rfl) e1
noncomputable def F_X12_sort_149 (G : Gx) (h : Hp) (nx : Nat) (l0 : Nat) : Rz Int32 :=
gfI h l0 [12] 7 (fun v1 =>
if v1 = 0 then
gfI h l0 [12] 5 (fun v2 =>
gfI h l0 [12] 6 (fun v3 =>
if v2 = v3 then
gfR h l0 [12] 1 (fun v4 =>
nn v4 (fun p5 =>
alI (g_c G 0) h p5 (nI 0) (fun v6 =>
asI (g_c G 0) id h p5 (nI 0) ((v6 + (nI 1))) (fun h7 =>
gfI h7 l0 [12] 4 (fun v8 =>
some (v8, h7, nx))))))
else
(F_X12_sort_167 G h nx l0)))
else
(F_X12_sort_167 G h nx l0))
set_option maxRecDepth 100000 in
set_option maxHeartbeats 4000000 in
theorem k_X12_sort_149 {G : Gx} {d : Nat} {v' : Int32} {h' : Hp} {n' : Nat} {h : Hp} {nx : Nat} {l0 : Nat} (e : F_X12_sort_149 G h nx l0 = some (v', h', n')) : Ok G mX12_sort (d + 69) (Same (some (.int v')) h' n') 149 [some (.ref l0), none] [] h nx 0 0 := by
  unfold F_X12_sort_149 at e
  refine Ok.aload_n dX12_sort_149 rfl ?_
  refine X.rgfI fl_RX12_81 dX12_sort_150 e (fun v1 e1 => ?_)
  clear e
  refine X.if_ne (tgt := 167) dX12_sort_153 (by decide) e1 (fun e2 => ?_) (fun e2 => ?_)
  · clear e1
    exact Ok.weakL (k_X12_sort_167 (d := d) e2) ⟨rfl, trivial⟩
  · clear e1
    refine Ok.aload_n dX12_sort_156 rfl ?_
    refine X.rgfI fl_RX12_75 dX12_sort_157 e2 (fun v2 e3 => ?_)
    clear e2
    refine Ok.aload_n dX12_sort_160 rfl ?_
    refine X.rgfI fl_RX12_78 dX12_sort_161 e3 (fun v3 e4 => ?_)
    clear e3
    refine X.icmp_eq (tgt := 175) dX12_sort_164 (by decide) e4 (fun e5 => ?_) (fun e5 => ?_)
    · clear e4
      refine Ok.aload_n dX12_sort_175 rfl ?_
      refine X.rgfR fl_RX12_9 dX12_sort_176 e5 (fun v4 e6 => ?_)
      clear e5
      refine Ok.iconstV (v := (nI 0)) dX12_sort_179 (by decide +kernel) ?_
      refine Ok.dup2 dX12_sort_180 rfl (va_rf_cat _) ?_
      refine X.rnn e6 (fun p5 q e7 => ?_)
      clear e6
      subst q
      refine X.iald dX12_sort_181 e7 (fun v6 e8 => ?_)
      clear e7
      refine Ok.iconstV (v := (nI 1)) dX12_sort_182 (by decide +kernel) ?_
      refine Ok.iadd dX12_sort_183 ?_
      refine X.iast dX12_sort_184 e8 (fun h7 e9 => ?_)
      clear e8
      refine Ok.aload_n dX12_sort_185 rfl ?_
      refine X.rgfI fl_RX12_102 dX12_sort_186 e9 (fun v8 e10 => ?_)
      clear e9
      exact X.iret dX12_sort_189 rfl (Nat.le_of_ble_eq_true rfl) (Nat.le_of_ble_eq_true rfl) e10
    · clear e4
      exact Ok.weakL (k_X12_sort_167 (d := d) e5) ⟨rfl, trivial⟩
noncomputable def F_X12_sort_107 (G : Gx) : Nat → Hp → Nat → Nat → Int32 → Rz Int32 := fun n => Nat.rec (motive := fun _ => Hp → Nat → Nat → Int32 → Rz Int32) (fun _ _ _ _ => none) (fun _ k107 => fun h nx l0 l1 =>
gfI h l0 [12] 7 (fun v1 =>
if v1 = 0 then
if (nI 10) ≤ l1 then
(F_X12_sort_149 G h nx l0)
else
ck h l0 [12] (fun _ =>
cl (F_X12_here G h nx l0) (fun r2 h3 n4 =>
if r2 = (nI 59) then
gfI h3 l0 [12] 5 (fun v5 =>
pfV h3 l0 [12] 5 (.int ((v5 + (nI 1)))) (fun h6 =>
ck h6 l0 [12] (fun _ =>
cl (F_X12_clause G h6 n4 l0) (fun _ h8 n9 =>
nm (l1 + (nI 1)) (fun v10 =>
(k107 h8 n9 l0 v10))))))
else
(F_X12_sort_149 G h3 n4 l0)))
else
(F_X12_sort_149 G h nx l0))) n
theorem F_X12_sort_107_0 {G : Gx} {h : Hp} {nx : Nat} {l0 : Nat} {l1 : Int32} : F_X12_sort_107 G 0 h nx l0 l1 = none := rfl
theorem F_X12_sort_107_s {G : Gx} {n : Nat} {h : Hp} {nx : Nat} {l0 : Nat} {l1 : Int32} : F_X12_sort_107 G (n + 1) h nx l0 l1 = (
gfI h l0 [12] 7 (fun v1 =>
if v1 = 0 then
if (nI 10) ≤ l1 then
(F_X12_sort_149 G h nx l0)
else
ck h l0 [12] (fun _ =>
cl (F_X12_here G h nx l0) (fun r2 h3 n4 =>
if r2 = (nI 59) then
gfI h3 l0 [12] 5 (fun v5 =>
pfV h3 l0 [12] 5 (.int ((v5 + (nI 1)))) (fun h6 =>
ck h6 l0 [12] (fun _ =>
cl (F_X12_clause G h6 n4 l0) (fun _ h8 n9 =>
nm (l1 + (nI 1)) (fun v10 =>
((F_X12_sort_107 G n) h8 n9 l0 v10))))))
else
(F_X12_sort_149 G h3 n4 l0)))
else
(F_X12_sort_149 G h nx l0))) := rfl
set_option maxRecDepth 100000 in
set_option maxHeartbeats 4000000 in
theorem k_X12_sort_107 {G : Gx} {d : Nat} {v' : Int32} {h' : Hp} {n' : Nat} : ∀ (n : Nat) {h : Hp} {nx : Nat} {l0 : Nat} {l1 : Int32}, F_X12_sort_107 G n h nx l0 l1 = some (v', h', n') → Ok G mX12_sort (d + 69) (Same (some (.int v')) h' n') 107 [some (.ref l0), some (.int l1)] [] h nx 0 0 := by
  intro n
  induction n with
  | zero =>
    intro h nx l0 l1 e
    rw [F_X12_sort_107_0] at e
    cases e
  | succ n K107 =>
    intro h nx l0 l1 e
    rw [F_X12_sort_107_s] at e
    refine Ok.aload_n dX12_sort_107 rfl ?_
    refine X.rgfI fl_RX12_81 dX12_sort_108 e (fun v1 e1 => ?_)
    clear e
    refine X.if_ne (tgt := 149) dX12_sort_111 (by decide) e1 (fun e2 => ?_) (fun e2 => ?_)
    · clear e1
      exact Ok.weakL (k_X12_sort_149 (d := d) e2) ⟨rfl, trivial⟩
    · clear e1
      refine Ok.iload_n dX12_sort_114 rfl ?_
      refine Ok.bipushV (v := (nI 10)) dX12_sort_115 (by decide +kernel) ?_
      refine X.icmp_ge (tgt := 149) dX12_sort_117 (by decide) e2 (fun e3 => ?_) (fun e3 => ?_)
      · clear e2
        exact Ok.weakL (k_X12_sort_149 (d := d) e3) ⟨rfl, trivial⟩
      · clear e2
        refine Ok.aload_n dX12_sort_120 rfl ?_
        refine X.rck e3 (fun c fs hb hc e4 => ?_)
        clear e3
        obtain rfl := List.mem_singleton.mp hc
        refine X.callV (My := mX12_here) (n := 0) (As := []) (T := (fun v => (some (.int v)))) (stk' := (fun v => [.int v])) (rest := []) (kc' := 0) (ks' := 0) dX12_sort_121 e4 (fun v h n e => k_X12_here (d := d + 68) e) hb rfl wd1209 wd80 wd1208 wd26 wd1206 (by decide +kernel) rfl (by decide) rfl rfl (Nat.le_of_ble_eq_true rfl) (Nat.le_of_ble_eq_true rfl) (Nat.le_of_ble_eq_true rfl) rfl rfl (fun _ => rfl) (fun r2 h3 n4 e5 => ?_)
        clear e4
        refine Ok.bipushV (v := (nI 59)) dX12_sort_124 (by decide +kernel) ?_
        refine X.icmp_ne (tgt := 149) dX12_sort_126 (by decide) e5 (fun e6 => ?_) (fun e6 => ?_)
        · clear e5
          exact Ok.weakL (k_X12_sort_149 (d := d) e6) ⟨rfl, trivial⟩
        · clear e5
          refine Ok.aload_n dX12_sort_129 rfl ?_
          refine Ok.dup dX12_sort_130 rfl ?_
          refine X.rgfI fl_RX12_75 dX12_sort_131 e6 (fun v5 e7 => ?_)
          clear e6
          refine Ok.iconstV (v := (nI 1)) dX12_sort_134 (by decide +kernel) ?_
          refine Ok.iadd dX12_sort_135 ?_
          refine X.rpfV (v := (.int ((v5 + (nI 1))))) fp_RX12_75 rfl rfl dX12_sort_136 e7 (fun h6 e8 => ?_)
          clear e7
          refine Ok.aload_n dX12_sort_139 rfl ?_
          refine X.rck e8 (fun c fs hb hc e9 => ?_)
          clear e8
          obtain rfl := List.mem_singleton.mp hc
          refine X.callV (My := mX12_clause) (n := 0) (As := []) (T := (fun v => none)) (stk' := (fun _ => [])) (rest := []) (kc' := 0) (ks' := 0) dX12_sort_140 e9 (fun v h n e => k_X12_clause (d := d + 0) e) hb rfl wd1205 wd80 wd1204 wd25 wd1202 (by decide +kernel) rfl (by decide) rfl rfl (Nat.le_of_ble_eq_true rfl) (Nat.le_of_ble_eq_true rfl) (Nat.le_of_ble_eq_true rfl) rfl rfl (fun _ => rfl) (fun _ h8 n9 e10 => ?_)
          clear e9
          refine X.iinc dX12_sort_143 rfl (by decide) (by decide +kernel) e10 (L := fun v10 => [some (.ref l0), some (.int v10)]) (fun _ => rfl) (fun v10 e11 => ?_)
          clear e10
          refine Ok.goto (tgt := 107) dX12_sort_146 (by decide) ?_
          exact Ok.weakL (K107 e11) ⟨rfl, ⟨rfl, trivial⟩⟩
noncomputable def F_X12_sort_57 (G : Gx) : Nat → Hp → Nat → Nat → Int32 → Rz Int32 := fun n => Nat.rec (motive := fun _ => Hp → Nat → Nat → Int32 → Rz Int32) (fun _ _ _ _ => none) (fun _ k57 => fun h nx l0 l1 =>
if (nI 4) ≤ l1 then
pfV h l0 [12] 5 (.int (nI 0)) (fun h1 =>
zk (nI 0) (
pfV h1 l0 [12] 7 (.int (nI 0)) (fun h2 =>
pfV h2 l0 [12] 8 (.int (nI 0)) (fun h3 =>
ck h3 l0 [12] (fun _ =>
cl (F_X12_clause G h3 nx l0) (fun _ h5 n6 =>
(F_X12_sort_107 G fuelL h5 n6 l0 (nI 1))))))))
else
gfR h l0 [12] 1 (fun v7 =>
gfI h l0 [12] 4 (fun v8 =>
nn v7 (fun p9 =>
asI (g_c G 0) id h p9 (((((nI 140) + (((nI 4) * v8)))) + l1)) (nI 0) (fun h10 =>
nm (l1 + (nI 1)) (fun v11 =>
(k57 h10 nx l0 v11))))))) n
theorem F_X12_sort_57_0 {G : Gx} {h : Hp} {nx : Nat} {l0 : Nat} {l1 : Int32} : F_X12_sort_57 G 0 h nx l0 l1 = none := rfl
theorem F_X12_sort_57_s {G : Gx} {n : Nat} {h : Hp} {nx : Nat} {l0 : Nat} {l1 : Int32} : F_X12_sort_57 G (n + 1) h nx l0 l1 = (
if (nI 4) ≤ l1 then
pfV h l0 [12] 5 (.int (nI 0)) (fun h1 =>
zk (nI 0) (
pfV h1 l0 [12] 7 (.int (nI 0)) (fun h2 =>
pfV h2 l0 [12] 8 (.int (nI 0)) (fun h3 =>
ck h3 l0 [12] (fun _ =>
cl (F_X12_clause G h3 nx l0) (fun _ h5 n6 =>
(F_X12_sort_107 G fuelL h5 n6 l0 (nI 1))))))))
else
gfR h l0 [12] 1 (fun v7 =>
gfI h l0 [12] 4 (fun v8 =>
nn v7 (fun p9 =>
asI (g_c G 0) id h p9 (((((nI 140) + (((nI 4) * v8)))) + l1)) (nI 0) (fun h10 =>
nm (l1 + (nI 1)) (fun v11 =>
((F_X12_sort_57 G n) h10 nx l0 v11))))))) := rfl
set_option maxRecDepth 100000 in
set_option maxHeartbeats 4000000 in
theorem k_X12_sort_57 {G : Gx} {d : Nat} {v' : Int32} {h' : Hp} {n' : Nat} : ∀ (n : Nat) {h : Hp} {nx : Nat} {l0 : Nat} {l1 : Int32}, F_X12_sort_57 G n h nx l0 l1 = some (v', h', n') → Ok G mX12_sort (d + 69) (Same (some (.int v')) h' n') 57 [some (.ref l0), some (.int l1)] [] h nx 0 0 := by
  intro n
  induction n with
  | zero =>
    intro h nx l0 l1 e
    rw [F_X12_sort_57_0] at e
    cases e
  | succ n K57 =>
    intro h nx l0 l1 e
    rw [F_X12_sort_57_s] at e
    refine Ok.iload_n dX12_sort_57 rfl ?_
    refine Ok.iconstV (v := (nI 4)) dX12_sort_58 (by decide +kernel) ?_
    refine X.icmp_ge (tgt := 86) dX12_sort_59 (by decide) e (fun e1 => ?_) (fun e1 => ?_)
    · clear e
      refine Ok.aload_n dX12_sort_86 rfl ?_
      refine Ok.iconstV (v := (nI 0)) dX12_sort_87 (by decide +kernel) ?_
      refine X.rpfV (v := (.int (nI 0))) fp_RX12_75 rfl rfl dX12_sort_88 e1 (fun h1 e2 => ?_)
      clear e1
      refine Ok.aload_n dX12_sort_91 rfl ?_
      refine Ok.iconstV (v := (nI 0)) dX12_sort_92 (by decide +kernel) ?_
      refine X.rzk e2 (fun z e3 => ?_)
      clear e2
      refine X.rpfV (v := (.int (nI 0))) fp_RX12_81 (nar_z z) (fits_z z) dX12_sort_93 e3 (fun h2 e4 => ?_)
      clear e3
      refine Ok.aload_n dX12_sort_96 rfl ?_
      refine Ok.iconstV (v := (nI 0)) dX12_sort_97 (by decide +kernel) ?_
      refine X.rpfV (v := (.int (nI 0))) fp_RX12_105 rfl rfl dX12_sort_98 e4 (fun h3 e5 => ?_)
      clear e4
      refine Ok.iconstV (v := (nI 1)) dX12_sort_101 (by decide +kernel) ?_
      refine XL.istore_n dX12_sort_102 (by decide) (L := [some (.ref l0), some (.int (nI 1))]) rfl ?_
      refine Ok.aload_n dX12_sort_103 rfl ?_
      refine X.rck e5 (fun c fs hb hc e6 => ?_)
      clear e5
      obtain rfl := List.mem_singleton.mp hc
      refine X.callV (My := mX12_clause) (n := 0) (As := []) (T := (fun v => none)) (stk' := (fun _ => [])) (rest := []) (kc' := 0) (ks' := 0) dX12_sort_104 e6 (fun v h n e => k_X12_clause (d := d + 0) e) hb rfl wd1205 wd80 wd1204 wd25 wd1202 (by decide +kernel) rfl (by decide) rfl rfl (Nat.le_of_ble_eq_true rfl) (Nat.le_of_ble_eq_true rfl) (Nat.le_of_ble_eq_true rfl) rfl rfl (fun _ => rfl) (fun _ h5 n6 e7 => ?_)
      clear e6
      exact Ok.weakL (k_X12_sort_107 (d := d) fuelL e7) ⟨rfl, ⟨rfl, trivial⟩⟩
    · clear e
      refine Ok.aload_n dX12_sort_62 rfl ?_
      refine X.rgfR fl_RX12_9 dX12_sort_63 e1 (fun v7 e2 => ?_)
      clear e1
      refine Ok.sipushV (v := (nI 140)) dX12_sort_66 (by decide +kernel) ?_
      refine Ok.iconstV (v := (nI 4)) dX12_sort_69 (by decide +kernel) ?_
      refine Ok.aload_n dX12_sort_70 rfl ?_
      refine X.rgfI fl_RX12_102 dX12_sort_71 e2 (fun v8 e3 => ?_)
      clear e2
      refine Ok.imul dX12_sort_74 ?_
      refine Ok.iadd dX12_sort_75 ?_
      refine Ok.iload_n dX12_sort_76 rfl ?_
      refine Ok.iadd dX12_sort_77 ?_
      refine Ok.iconstV (v := (nI 0)) dX12_sort_78 (by decide +kernel) ?_
      refine X.rnn e3 (fun p9 q e4 => ?_)
      clear e3
      subst q
      refine X.iast dX12_sort_79 e4 (fun h10 e5 => ?_)
      clear e4
      refine X.iinc dX12_sort_80 rfl (by decide) (by decide +kernel) e5 (L := fun v11 => [some (.ref l0), some (.int v11)]) (fun _ => rfl) (fun v11 e6 => ?_)
      clear e5
      refine Ok.goto (tgt := 57) dX12_sort_83 (by decide) ?_
      exact Ok.weakL (K57 e6) ⟨rfl, ⟨rfl, trivial⟩⟩
noncomputable def F_X12_sort (G : Gx) (h : Hp) (nx : Nat) (a0 : Nat) : Rz Int32 :=
gfR h a0 [12] 1 (fun v1 =>
nn v1 (fun p2 =>
alI (g_c G 0) h p2 (nI 0) (fun v3 =>
if v3 = (nI 6) then
some ((-4 : Int32), h, nx)
else
gfR h a0 [12] 1 (fun v4 =>
nn v4 (fun p5 =>
alI (g_c G 0) h p5 (nI 0) (fun v6 =>
pfV h a0 [12] 4 (.int v6) (fun h7 =>
gfR h7 a0 [12] 1 (fun v8 =>
nn v8 (fun p9 =>
alI (g_c G 0) h7 p9 (nI 5) (fun v10 =>
pfV h7 a0 [12] 6 (.int v10) (fun h11 =>
gfR h11 a0 [12] 1 (fun v12 =>
nn v12 (fun p13 =>
asI (g_c G 0) id h11 p13 (nI 5) (nI 0) (fun h14 =>
gfR h14 a0 [12] 1 (fun v15 =>
gfI h14 a0 [12] 4 (fun v16 =>
nn v15 (fun p17 =>
asI (g_c G 0) id h14 p17 (((nI 130) + v16)) (nI 0) (fun h18 =>
(F_X12_sort_57 G fuelL h18 nx a0 (nI 0))))))))))))))))))))
set_option maxRecDepth 100000 in
set_option maxHeartbeats 4000000 in
theorem k_X12_sort {G : Gx} {d : Nat} {h : Hp} {nx : Nat} {a0 : Nat} {v' : Int32} {h' : Hp} {n' : Nat} (e : F_X12_sort G h nx a0 = some (v', h', n')) : Ct G mX12_sort (d + 69) (Same (some (.int v')) h' n') [.ref a0] h nx := by
  unfold F_X12_sort at e
  refine Ct.of (ls := [some (.ref a0), none]) (by decide +kernel) rfl (Nat.le_of_ble_eq_true rfl) rfl ?_
  refine Ok.aload_n dX12_sort_0 rfl ?_
  refine X.rgfR fl_RX12_9 dX12_sort_1 e (fun v1 e1 => ?_)
  clear e
  refine Ok.iconstV (v := (nI 0)) dX12_sort_4 (by decide +kernel) ?_
  refine X.rnn e1 (fun p2 q e2 => ?_)
  clear e1
  subst q
  refine X.iald dX12_sort_5 e2 (fun v3 e3 => ?_)
  clear e2
  refine Ok.bipushV (v := (nI 6)) dX12_sort_6 (by decide +kernel) ?_
  refine X.icmp_ne (tgt := 14) dX12_sort_8 (by decide) e3 (fun e4 => ?_) (fun e4 => ?_)
  · clear e3
    refine Ok.aload_n dX12_sort_14 rfl ?_
    refine Ok.aload_n dX12_sort_15 rfl ?_
    refine X.rgfR fl_RX12_9 dX12_sort_16 e4 (fun v4 e5 => ?_)
    clear e4
    refine Ok.iconstV (v := (nI 0)) dX12_sort_19 (by decide +kernel) ?_
    refine X.rnn e5 (fun p5 q e6 => ?_)
    clear e5
    subst q
    refine X.iald dX12_sort_20 e6 (fun v6 e7 => ?_)
    clear e6
    refine X.rpfV (v := (.int v6)) fp_RX12_102 rfl rfl dX12_sort_21 e7 (fun h7 e8 => ?_)
    clear e7
    refine Ok.aload_n dX12_sort_24 rfl ?_
    refine Ok.aload_n dX12_sort_25 rfl ?_
    refine X.rgfR fl_RX12_9 dX12_sort_26 e8 (fun v8 e9 => ?_)
    clear e8
    refine Ok.iconstV (v := (nI 5)) dX12_sort_29 (by decide +kernel) ?_
    refine X.rnn e9 (fun p9 q e10 => ?_)
    clear e9
    subst q
    refine X.iald dX12_sort_30 e10 (fun v10 e11 => ?_)
    clear e10
    refine X.rpfV (v := (.int v10)) fp_RX12_78 rfl rfl dX12_sort_31 e11 (fun h11 e12 => ?_)
    clear e11
    refine Ok.aload_n dX12_sort_34 rfl ?_
    refine X.rgfR fl_RX12_9 dX12_sort_35 e12 (fun v12 e13 => ?_)
    clear e12
    refine Ok.iconstV (v := (nI 5)) dX12_sort_38 (by decide +kernel) ?_
    refine Ok.iconstV (v := (nI 0)) dX12_sort_39 (by decide +kernel) ?_
    refine X.rnn e13 (fun p13 q e14 => ?_)
    clear e13
    subst q
    refine X.iast dX12_sort_40 e14 (fun h14 e15 => ?_)
    clear e14
    refine Ok.aload_n dX12_sort_41 rfl ?_
    refine X.rgfR fl_RX12_9 dX12_sort_42 e15 (fun v15 e16 => ?_)
    clear e15
    refine Ok.sipushV (v := (nI 130)) dX12_sort_45 (by decide +kernel) ?_
    refine Ok.aload_n dX12_sort_48 rfl ?_
    refine X.rgfI fl_RX12_102 dX12_sort_49 e16 (fun v16 e17 => ?_)
    clear e16
    refine Ok.iadd dX12_sort_52 ?_
    refine Ok.iconstV (v := (nI 0)) dX12_sort_53 (by decide +kernel) ?_
    refine X.rnn e17 (fun p17 q e18 => ?_)
    clear e17
    subst q
    refine X.iast dX12_sort_54 e18 (fun h18 e19 => ?_)
    clear e18
    refine Ok.iconstV (v := (nI 0)) dX12_sort_55 (by decide +kernel) ?_
    refine XL.istore_n dX12_sort_56 (by decide) (L := [some (.ref a0), some (.int (nI 0))]) rfl ?_
    exact Ok.weakL (k_X12_sort_57 (d := d) fuelL e19) ⟨rfl, ⟨rfl, trivial⟩⟩
  · clear e3
    refine Ok.bipushV (v := (-4 : Int32)) dX12_sort_11 (by decide +kernel) ?_
    exact X.iret dX12_sort_13 rfl (Nat.le_of_ble_eq_true rfl) (Nat.le_of_ble_eq_true rfl) e4
