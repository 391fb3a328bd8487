noncomputable def F_X11_judged_47 (G : Gx) (h : Hp) (nx : Nat) : Rz Int32 :=
some ((-3 : Int32), h, nx)
set_option maxRecDepth 100000 in
set_option maxHeartbeats 4000000 in
theorem k_X11_judged_47 {G : Gx} {d : Nat} {v' : Int32} {h' : Hp} {n' : Nat} {h : Hp} {nx : Nat} (e : F_X11_judged_47 G h nx = some (v', h', n')) : Ok G mX11_judged (d + 6) (Same (some (.int v')) h' n') 47 [none, none, none, none] [] h nx 0 0 := by
  unfold F_X11_judged_47 at e
  refine Ok.bipushV (v := (-3 : Int32)) dX11_judged_47 (by decide +kernel) ?_
  exact X.iret dX11_judged_49 rfl (Nat.le_of_ble_eq_true rfl) (Nat.le_of_ble_eq_true rfl) e
noncomputable def F_X11_judged (G : Gx) (h : Hp) (nx : Nat) (a0 : Nat) (a1 : Int32) (a2 : Int32) : Rz Int32 :=
gfR h a0 [11] 0 (fun v1 =>
nn v1 (fun p2 =>
ck h p2 [0] (fun _ =>
cl (F_X0_planAt G h nx p2 a1) (fun r3 h4 n5 =>
qn r3 (some ((-1 : Int32), h4, n5)) (fun p6 =>
cl (F_X11_within G h4 n5 a2 (nI 1) (nI 10)) (fun r7 h8 n9 =>
if r7 = 0 then
some ((-2 : Int32), h8, n9)
else
inC h8 p6 [1, 2, 3, 4, 6, 8, 10] [8] (fun v10 =>
if v10 = 0 then
(F_X11_judged_47 G h8 n9)
else
gfR h8 a0 [11] 0 (fun v11 =>
nn v11 (fun p12 =>
gfR h8 p12 [0] 13 (fun v13 =>
nn v13 (fun p14 =>
alI (g_c G 0) h8 p14 a1 (fun v15 =>
if v15 = 0 then
(F_X11_judged_47 G h8 n9)
else
gfR h8 a0 [11] 3 (fun v16 =>
nn v16 (fun p17 =>
ck h8 p17 [5] (fun _ =>
cl (F_X5_layAll G h8 n9 p17 a2) (fun _ h19 n20 =>
gfR h19 a0 [11] 4 (fun v21 =>
nn v21 (fun p22 =>
ck h19 p22 [9] (fun _ =>
cl (F_X9_firstOutdone G h19 n20 p22 p6 a2) (fun r23 h24 n25 =>
some (r23, h24, n25)))))))))))))))))))))
set_option maxRecDepth 100000 in
set_option maxHeartbeats 4000000 in
theorem k_X11_judged {G : Gx} {d : Nat} {h : Hp} {nx : Nat} {a0 : Nat} {a1 : Int32} {a2 : Int32} {v' : Int32} {h' : Hp} {n' : Nat} (e : F_X11_judged G h nx a0 a1 a2 = some (v', h', n')) : Ct G mX11_judged (d + 6) (Same (some (.int v')) h' n') [.ref a0, .int a1, .int a2] h nx := by
  unfold F_X11_judged at e
  refine Ct.of (ls := [some (.ref a0), some (.int a1), some (.int a2), none]) (by decide +kernel) rfl (Nat.le_of_ble_eq_true rfl) rfl ?_
  refine Ok.aload_n dX11_judged_0 rfl ?_
  refine X.rgfR fl_RX11_14 dX11_judged_1 e (fun v1 e1 => ?_)
  clear e
  refine Ok.iload_n dX11_judged_4 rfl ?_
  refine X.rnn e1 (fun p2 q e2 => ?_)
  clear e1
  subst q
  refine X.rck e2 (fun c fs hb hc e3 => ?_)
  clear e2
  obtain rfl := List.mem_singleton.mp hc
  refine X.callV (My := mX0_planAt) (n := 1) (As := [.int a1]) (T := (fun v => (some (va_rf v)))) (stk' := (fun v => [va_rf v])) (rest := []) (kc' := 0) (ks' := 0) dX11_judged_5 e3 (fun v h n e => k_X0_planAt (d := d + 5) e) hb rfl wd715 wd77 wd713 wd714 wd712 (by decide +kernel) rfl (by decide) rfl rfl (Nat.le_of_ble_eq_true rfl) (Nat.le_of_ble_eq_true rfl) (Nat.le_of_ble_eq_true rfl) rfl rfl (fun _ => rfl) (fun r3 h4 n5 e4 => ?_)
  clear e3
  refine XL.astore_nQ (r := r3) dX11_judged_8 (by decide) (L := [some (.ref a0), some (.int a1), some (.int a2), some (va_rf r3)]) rfl ?_
  refine Ok.aload_nQ dX11_judged_9 rfl ?_
  refine X.ifnonnull (tgt := 15) dX11_judged_10 (by decide) e4 (fun q e5 => ?_) (fun p6 q e5 => ?_)
  · clear e4
    subst q
    refine Ok.iconstV (v := (-1 : Int32)) dX11_judged_13 (by decide +kernel) ?_
    exact X.iret dX11_judged_14 rfl (Nat.le_of_ble_eq_true rfl) (Nat.le_of_ble_eq_true rfl) e5
  · clear e4
    subst q
    refine Ok.iload_n dX11_judged_15 rfl ?_
    refine Ok.iconstV (v := (nI 1)) dX11_judged_16 (by decide +kernel) ?_
    refine Ok.bipushV (v := (nI 10)) dX11_judged_17 (by decide +kernel) ?_
    refine X.callS (My := mX11_within) (n := 3) (As := [.int a2, .int (nI 1), .int (nI 10)]) (T := (fun v => (some (.int v)))) (stk' := (fun v => [.int v])) (rest := []) (kc' := 0) (ks' := 0) dX11_judged_19 e5 (fun v h n e => k_X11_within (d := d + 5) e) wd495 wd76 wd494 wd493 (by decide +kernel) rfl (by decide) rfl rfl (Nat.le_of_ble_eq_true rfl) (Nat.le_of_ble_eq_true rfl) (Nat.le_of_ble_eq_true rfl) rfl rfl (fun _ => rfl) (fun r7 h8 n9 e6 => ?_)
    clear e5
    refine X.if_ne (tgt := 28) dX11_judged_22 (by decide) e6 (fun e7 => ?_) (fun e7 => ?_)
    · clear e6
      refine Ok.aload_n dX11_judged_28 rfl ?_
      refine X.rinC dX11_judged_29 fi_RX11_172 e7 (fun v10 e8 => ?_)
      clear e7
      refine X.if_eq (tgt := 47) dX11_judged_32 (by decide) e8 (fun e9 => ?_) (fun e9 => ?_)
      · clear e8
        exact Ok.weakL (k_X11_judged_47 (d := d) e9) trivial
      · clear e8
        refine Ok.aload_n dX11_judged_35 rfl ?_
        refine X.rgfR fl_RX11_14 dX11_judged_36 e9 (fun v11 e10 => ?_)
        clear e9
        refine X.rnn e10 (fun p12 q e11 => ?_)
        clear e10
        subst q
        refine X.rgfR fl_RX11_174 dX11_judged_39 e11 (fun v13 e12 => ?_)
        clear e11
        refine Ok.iload_n dX11_judged_42 rfl ?_
        refine X.rnn e12 (fun p14 q e13 => ?_)
        clear e12
        subst q
        refine X.iald dX11_judged_43 e13 (fun v15 e14 => ?_)
        clear e13
        refine X.if_ne (tgt := 50) dX11_judged_44 (by decide) e14 (fun e15 => ?_) (fun e15 => ?_)
        · clear e14
          refine Ok.aload_n dX11_judged_50 rfl ?_
          refine X.rgfR fl_RX11_30 dX11_judged_51 e15 (fun v16 e16 => ?_)
          clear e15
          refine Ok.iload_n dX11_judged_54 rfl ?_
          refine X.rnn e16 (fun p17 q e17 => ?_)
          clear e16
          subst q
          refine X.rck e17 (fun c fs hb hc e18 => ?_)
          clear e17
          obtain rfl := List.mem_singleton.mp hc
          refine X.callV (My := mX5_layAll) (n := 1) (As := [.int a2]) (T := (fun v => none)) (stk' := (fun _ => [])) (rest := []) (kc' := 0) (ks' := 0) dX11_judged_55 e18 (fun v h n e => k_X5_layAll (d := d + 0) e) hb rfl wd740 wd78 wd738 wd739 wd737 (by decide +kernel) rfl (by decide) rfl rfl (Nat.le_of_ble_eq_true rfl) (Nat.le_of_ble_eq_true rfl) (Nat.le_of_ble_eq_true rfl) rfl rfl (fun _ => rfl) (fun _ h19 n20 e19 => ?_)
          clear e18
          refine Ok.aload_n dX11_judged_58 rfl ?_
          refine X.rgfR fl_RX11_39 dX11_judged_59 e19 (fun v21 e20 => ?_)
          clear e19
          refine Ok.aload_n dX11_judged_62 rfl ?_
          refine Ok.iload_n dX11_judged_63 rfl ?_
          refine X.rnn e20 (fun p22 q e21 => ?_)
          clear e20
          subst q
          refine X.rck e21 (fun c fs hb hc e22 => ?_)
          clear e21
          obtain rfl := List.mem_singleton.mp hc
          refine X.callV (My := mX9_firstOutdone) (n := 2) (As := [.ref p6, .int a2]) (T := (fun v => (some (.int v)))) (stk' := (fun v => [.int v])) (rest := []) (kc' := 0) (ks' := 0) dX11_judged_64 e22 (fun v h n e => k_X9_firstOutdone (d := d + 0) e) hb rfl wd894 wd79 wd892 wd893 wd891 (by decide +kernel) rfl (by decide) rfl rfl (Nat.le_of_ble_eq_true rfl) (Nat.le_of_ble_eq_true rfl) (Nat.le_of_ble_eq_true rfl) rfl rfl (fun _ => rfl) (fun r23 h24 n25 e23 => ?_)
          clear e22
          exact X.iret dX11_judged_67 rfl (Nat.le_of_ble_eq_true rfl) (Nat.le_of_ble_eq_true rfl) e23
        · clear e14
          exact Ok.weakL (k_X11_judged_47 (d := d) e15) trivial
    · clear e6
      refine Ok.bipushV (v := (-2 : Int32)) dX11_judged_25 (by decide +kernel) ?_
      exact X.iret dX11_judged_27 rfl (Nat.le_of_ble_eq_true rfl) (Nat.le_of_ble_eq_true rfl) e7
noncomputable def F_X11_run_51 (G : Gx) (h : Hp) (nx : Nat) : Rz Int64 :=
some ((-9223372036854775808 : Int64), h, nx)
set_option maxRecDepth 100000 in
set_option maxHeartbeats 4000000 in
theorem k_X11_run_51 {G : Gx} {d : Nat} {v' : Int64} {h' : Hp} {n' : Nat} {h : Hp} {nx : Nat} (e : F_X11_run_51 G h nx = some (v', h', n')) : Ok G mX11_run (d + 7) (Same (some (.long v')) h' n') 51 [none, none, none, none, none, none, none, none] [] h nx 0 0 := by
  unfold F_X11_run_51 at e
  refine Ok.ldc2_w (v := -9223372036854775808) dX11_run_51 wd550 ?_
  exact X.lret dX11_run_54 rfl (Nat.le_of_ble_eq_true rfl) (Nat.le_of_ble_eq_true rfl) e
noncomputable def F_X11_run_61 (G : Gx) : Nat → Hp → Nat → Nat → Int32 → Int32 → Nat → Int64 → Int32 → Rz Int64 := fun n => Nat.rec (motive := fun _ => Hp → Nat → Nat → Int32 → Int32 → Nat → Int64 → Int32 → Rz Int64) (fun _ _ _ _ _ _ _ _ => none) (fun _ k61 => fun h nx l0 l2 l3 l4 l5 l7 =>
if l2 ≤ l7 then
some (l5, h, nx)
else
gfR h l0 [11] 0 (fun v1 =>
ck h l0 [11] (fun _ =>
cl (F_X11_whomNow G h nx l0 l4) (fun r2 h3 n4 =>
nn v1 (fun p5 =>
ck h3 p5 [0] (fun _ =>
cl (F_X0_lookAndPay G h3 n4 p5 r2) (fun r6 h7 n8 =>
nm ((l5 + r6)) (fun v9 =>
gfR h7 l0 [11] 0 (fun v10 =>
nn v10 (fun p11 =>
ck h7 p11 [0] (fun _ =>
cl (F_X0_turnAll G h7 n8 p11 l3) (fun _ h13 n14 =>
gfR h13 l0 [11] 0 (fun v15 =>
nn v15 (fun p16 =>
ck h13 p16 [0] (fun _ =>
cl (F_X0_goOver G h13 n14 p16) (fun _ h18 n19 =>
nm (l7 + (nI 1)) (fun v20 =>
(k61 h18 n19 l0 l2 l3 l4 v9 v20)))))))))))))))))) n
theorem F_X11_run_61_0 {G : Gx} {h : Hp} {nx : Nat} {l0 : Nat} {l2 : Int32} {l3 : Int32} {l4 : Nat} {l5 : Int64} {l7 : Int32} : F_X11_run_61 G 0 h nx l0 l2 l3 l4 l5 l7 = none := rfl
theorem F_X11_run_61_s {G : Gx} {n : Nat} {h : Hp} {nx : Nat} {l0 : Nat} {l2 : Int32} {l3 : Int32} {l4 : Nat} {l5 : Int64} {l7 : Int32} : F_X11_run_61 G (n + 1) h nx l0 l2 l3 l4 l5 l7 = (
if l2 ≤ l7 then
some (l5, h, nx)
else
gfR h l0 [11] 0 (fun v1 =>
ck h l0 [11] (fun _ =>
cl (F_X11_whomNow G h nx l0 l4) (fun r2 h3 n4 =>
nn v1 (fun p5 =>
ck h3 p5 [0] (fun _ =>
cl (F_X0_lookAndPay G h3 n4 p5 r2) (fun r6 h7 n8 =>
nm ((l5 + r6)) (fun v9 =>
gfR h7 l0 [11] 0 (fun v10 =>
nn v10 (fun p11 =>
ck h7 p11 [0] (fun _ =>
cl (F_X0_turnAll G h7 n8 p11 l3) (fun _ h13 n14 =>
gfR h13 l0 [11] 0 (fun v15 =>
nn v15 (fun p16 =>
ck h13 p16 [0] (fun _ =>
cl (F_X0_goOver G h13 n14 p16) (fun _ h18 n19 =>
nm (l7 + (nI 1)) (fun v20 =>
((F_X11_run_61 G n) h18 n19 l0 l2 l3 l4 v9 v20)))))))))))))))))) := rfl
set_option maxRecDepth 100000 in
set_option maxHeartbeats 4000000 in
theorem k_X11_run_61 {G : Gx} {d : Nat} {v' : Int64} {h' : Hp} {n' : Nat} : ∀ (n : Nat) {h : Hp} {nx : Nat} {l0 : Nat} {l2 : Int32} {l3 : Int32} {l4 : Nat} {l5 : Int64} {l7 : Int32}, F_X11_run_61 G n h nx l0 l2 l3 l4 l5 l7 = some (v', h', n') → Ok G mX11_run (d + 7) (Same (some (.long v')) h' n') 61 [some (.ref l0), none, some (.int l2), some (.int l3), some (.ref l4), some (.long l5), none, some (.int l7)] [] h nx 0 0 := by
  intro n
  induction n with
  | zero =>
    intro h nx l0 l2 l3 l4 l5 l7 e
    rw [F_X11_run_61_0] at e
    cases e
  | succ n K61 =>
    intro h nx l0 l2 l3 l4 l5 l7 e
    rw [F_X11_run_61_s] at e
    refine Ok.iload dX11_run_61 rfl ?_
    refine Ok.iload_n dX11_run_63 rfl ?_
    refine X.icmp_ge (tgt := 106) dX11_run_64 (by decide) e (fun e1 => ?_) (fun e1 => ?_)
    · clear e
      refine Ok.lload dX11_run_106 rfl ?_
      exact X.lret dX11_run_108 rfl (Nat.le_of_ble_eq_true rfl) (Nat.le_of_ble_eq_true rfl) e1
    · clear e
      refine Ok.lload dX11_run_67 rfl ?_
      refine Ok.aload_n dX11_run_69 rfl ?_
      refine X.rgfR fl_RX11_14 dX11_run_70 e1 (fun v1 e2 => ?_)
      clear e1
      refine Ok.aload_n dX11_run_73 rfl ?_
      refine Ok.aload dX11_run_74 rfl ?_
      refine X.rck e2 (fun c fs hb hc e3 => ?_)
      clear e2
      obtain rfl := List.mem_singleton.mp hc
      refine X.callV (My := mX11_whomNow) (n := 1) (As := [.ref l4]) (T := (fun v => (some (.int v)))) (stk' := (fun v => [.int v, va_rf v1, .long l5])) (rest := [va_rf v1, .long l5]) (kc' := 0) (ks' := 0) dX11_run_76 e3 (fun v h n e => k_X11_whomNow (d := d + 0) e) hb rfl wd723 wd76 wd722 wd13 wd720 (by decide +kernel) rfl (by decide) rfl rfl (cs_le (cs_c (a := 1) (va_rf_cat _) (cs_c (a := 2) rfl cs_n)) (by decide)) (Nat.le_of_ble_eq_true rfl) (Nat.le_of_ble_eq_true rfl) rfl rfl (fun _ => rfl) (fun r2 h3 n4 e4 => ?_)
      clear e3
      refine X.rnn e4 (fun p5 q e5 => ?_)
      clear e4
      subst q
      refine X.rck e5 (fun c fs hb hc e6 => ?_)
      clear e5
      obtain rfl := List.mem_singleton.mp hc
      refine X.callV (My := mX0_lookAndPay) (n := 1) (As := [.int r2]) (T := (fun v => (some (.long v)))) (stk' := (fun v => [.long v, .long l5])) (rest := [.long l5]) (kc' := 0) (ks' := 0) dX11_run_79 e6 (fun v h n e => k_X0_lookAndPay (d := d + 4) e) hb rfl wd912 wd77 wd910 wd911 wd909 (by decide +kernel) rfl (by decide) rfl rfl (Nat.le_of_ble_eq_true rfl) (Nat.le_of_ble_eq_true rfl) (Nat.le_of_ble_eq_true rfl) rfl rfl (fun _ => rfl) (fun r6 h7 n8 e7 => ?_)
      clear e6
      refine Ok.ladd dX11_run_82 ?_
      refine X.lstore dX11_run_83 (by decide) e7 (L := fun v9 => [some (.ref l0), none, some (.int l2), some (.int l3), some (.ref l4), some (.long v9), none, some (.int l7)]) (fun _ => rfl) (fun v9 e8 => ?_)
      clear e7
      refine Ok.aload_n dX11_run_85 rfl ?_
      refine X.rgfR fl_RX11_14 dX11_run_86 e8 (fun v10 e9 => ?_)
      clear e8
      refine Ok.iload_n dX11_run_89 rfl ?_
      refine X.rnn e9 (fun p11 q e10 => ?_)
      clear e9
      subst q
      refine X.rck e10 (fun c fs hb hc e11 => ?_)
      clear e10
      obtain rfl := List.mem_singleton.mp hc
      refine X.callV (My := mX0_turnAll) (n := 1) (As := [.int l3]) (T := (fun v => none)) (stk' := (fun _ => [])) (rest := []) (kc' := 0) (ks' := 0) dX11_run_90 e11 (fun v h n e => k_X0_turnAll (d := d + 4) e) hb rfl wd924 wd77 wd922 wd923 wd921 (by decide +kernel) rfl (by decide) rfl rfl (Nat.le_of_ble_eq_true rfl) (Nat.le_of_ble_eq_true rfl) (Nat.le_of_ble_eq_true rfl) rfl rfl (fun _ => rfl) (fun _ h13 n14 e12 => ?_)
      clear e11
      refine Ok.aload_n dX11_run_93 rfl ?_
      refine X.rgfR fl_RX11_14 dX11_run_94 e12 (fun v15 e13 => ?_)
      clear e12
      refine X.rnn e13 (fun p16 q e14 => ?_)
      clear e13
      subst q
      refine X.rck e14 (fun c fs hb hc e15 => ?_)
      clear e14
      obtain rfl := List.mem_singleton.mp hc
      refine X.callV (My := mX0_goOver) (n := 0) (As := []) (T := (fun v => none)) (stk' := (fun _ => [])) (rest := []) (kc' := 0) (ks' := 0) dX11_run_97 e15 (fun v h n e => k_X0_goOver (d := d + 3) e) hb rfl wd529 wd77 wd527 wd528 wd526 (by decide +kernel) rfl (by decide) rfl rfl (Nat.le_of_ble_eq_true rfl) (Nat.le_of_ble_eq_true rfl) (Nat.le_of_ble_eq_true rfl) rfl rfl (fun _ => rfl) (fun _ h18 n19 e16 => ?_)
      clear e15
      refine X.iinc dX11_run_100 rfl (by decide) (by decide +kernel) e16 (L := fun v20 => [some (.ref l0), none, some (.int l2), some (.int l3), some (.ref l4), some (.long v9), none, some (.int v20)]) (fun _ => rfl) (fun v20 e17 => ?_)
      clear e16
      refine Ok.goto (tgt := 61) dX11_run_103 (by decide) ?_
      exact Ok.weakL (K61 e17) ⟨rfl, ⟨rfl, ⟨rfl, ⟨rfl, ⟨rfl, ⟨rfl, trivial⟩⟩⟩⟩⟩⟩
noncomputable def F_X11_run (G : Gx) (h : Hp) (nx : Nat) (a0 : Nat) (a1 : Int32) (a2 : Int32) (a3 : Int32) : Rz Int64 :=
gfR h a0 [11] 0 (fun v1 =>
nn v1 (fun p2 =>
ck h p2 [0] (fun _ =>
cl (F_X0_planAt G h nx p2 a1) (fun r3 h4 n5 =>
qn r3 ((F_X11_run_51 G h4 n5)) (fun p6 =>
cl (F_X11_within G h4 n5 a2 (nI 1) (nI 30)) (fun r7 h8 n9 =>
if r7 = 0 then
(F_X11_run_51 G h8 n9)
else
cl (F_X11_within G h8 n9 a3 (nI 0) (nI 999)) (fun r10 h11 n12 =>
if r10 = 0 then
(F_X11_run_51 G h11 n12)
else
gfR h11 a0 [11] 0 (fun v13 =>
nn v13 (fun p14 =>
gfI h11 p14 [0] 16 (fun v15 =>
if ((v15 + a2)) ≤ (nI 999) then
(F_X11_run_61 G fuelL h11 n12 a0 a2 a3 p6 (0 : Int64) (nI 0))
else
(F_X11_run_51 G h11 n12)))))))))))
set_option maxRecDepth 100000 in
set_option maxHeartbeats 4000000 in
theorem k_X11_run {G : Gx} {d : Nat} {h : Hp} {nx : Nat} {a0 : Nat} {a1 : Int32} {a2 : Int32} {a3 : Int32} {v' : Int64} {h' : Hp} {n' : Nat} (e : F_X11_run G h nx a0 a1 a2 a3 = some (v', h', n')) : Ct G mX11_run (d + 7) (Same (some (.long v')) h' n') [.ref a0, .int a1, .int a2, .int a3] h nx := by
  unfold F_X11_run at e
  refine Ct.of (ls := [some (.ref a0), some (.int a1), some (.int a2), some (.int a3), none, none, none, none]) (by decide +kernel) rfl (Nat.le_of_ble_eq_true rfl) rfl ?_
  refine Ok.aload_n dX11_run_0 rfl ?_
  refine X.rgfR fl_RX11_14 dX11_run_1 e (fun v1 e1 => ?_)
  clear e
  refine Ok.iload_n dX11_run_4 rfl ?_
  refine X.rnn e1 (fun p2 q e2 => ?_)
  clear e1
  subst q
  refine X.rck e2 (fun c fs hb hc e3 => ?_)
  clear e2
  obtain rfl := List.mem_singleton.mp hc
  refine X.callV (My := mX0_planAt) (n := 1) (As := [.int a1]) (T := (fun v => (some (va_rf v)))) (stk' := (fun v => [va_rf v])) (rest := []) (kc' := 0) (ks' := 0) dX11_run_5 e3 (fun v h n e => k_X0_planAt (d := d + 6) e) hb rfl wd715 wd77 wd713 wd714 wd712 (by decide +kernel) rfl (by decide) rfl rfl (Nat.le_of_ble_eq_true rfl) (Nat.le_of_ble_eq_true rfl) (Nat.le_of_ble_eq_true rfl) rfl rfl (fun _ => rfl) (fun r3 h4 n5 e4 => ?_)
  clear e3
  refine XL.astoreQ (r := r3) dX11_run_8 (by decide) (L := [some (.ref a0), some (.int a1), some (.int a2), some (.int a3), some (va_rf r3), none, none, none]) rfl ?_
  refine Ok.aloadQ dX11_run_10 rfl ?_
  refine X.ifnull (tgt := 51) dX11_run_12 (by decide) e4 (fun q e5 => ?_) (fun p6 q e5 => ?_)
  · clear e4
    subst q
    exact Ok.weakL (k_X11_run_51 (d := d) e5) trivial
  · clear e4
    subst q
    refine Ok.iload_n dX11_run_15 rfl ?_
    refine Ok.iconstV (v := (nI 1)) dX11_run_16 (by decide +kernel) ?_
    refine Ok.bipushV (v := (nI 30)) dX11_run_17 (by decide +kernel) ?_
    refine X.callS (My := mX11_within) (n := 3) (As := [.int a2, .int (nI 1), .int (nI 30)]) (T := (fun v => (some (.int v)))) (stk' := (fun v => [.int v])) (rest := []) (kc' := 0) (ks' := 0) dX11_run_19 e5 (fun v h n e => k_X11_within (d := d + 6) e) wd495 wd76 wd494 wd493 (by decide +kernel) rfl (by decide) rfl rfl (Nat.le_of_ble_eq_true rfl) (Nat.le_of_ble_eq_true rfl) (Nat.le_of_ble_eq_true rfl) rfl rfl (fun _ => rfl) (fun r7 h8 n9 e6 => ?_)
    clear e5
    refine X.if_eq (tgt := 51) dX11_run_22 (by decide) e6 (fun e7 => ?_) (fun e7 => ?_)
    · clear e6
      exact Ok.weakL (k_X11_run_51 (d := d) e7) trivial
    · clear e6
      refine Ok.iload_n dX11_run_25 rfl ?_
      refine Ok.iconstV (v := (nI 0)) dX11_run_26 (by decide +kernel) ?_
      refine Ok.sipushV (v := (nI 999)) dX11_run_27 (by decide +kernel) ?_
      refine X.callS (My := mX11_within) (n := 3) (As := [.int a3, .int (nI 0), .int (nI 999)]) (T := (fun v => (some (.int v)))) (stk' := (fun v => [.int v])) (rest := []) (kc' := 0) (ks' := 0) dX11_run_30 e7 (fun v h n e => k_X11_within (d := d + 6) e) wd495 wd76 wd494 wd493 (by decide +kernel) rfl (by decide) rfl rfl (Nat.le_of_ble_eq_true rfl) (Nat.le_of_ble_eq_true rfl) (Nat.le_of_ble_eq_true rfl) rfl rfl (fun _ => rfl) (fun r10 h11 n12 e8 => ?_)
      clear e7
      refine X.if_eq (tgt := 51) dX11_run_33 (by decide) e8 (fun e9 => ?_) (fun e9 => ?_)
      · clear e8
        exact Ok.weakL (k_X11_run_51 (d := d) e9) trivial
      · clear e8
        refine Ok.aload_n dX11_run_36 rfl ?_
        refine X.rgfR fl_RX11_14 dX11_run_37 e9 (fun v13 e10 => ?_)
        clear e9
        refine X.rnn e10 (fun p14 q e11 => ?_)
        clear e10
        subst q
        refine X.rgfI fl_RX11_114 dX11_run_40 e11 (fun v15 e12 => ?_)
        clear e11
        refine Ok.iload_n dX11_run_43 rfl ?_
        refine Ok.iadd dX11_run_44 ?_
        refine Ok.sipushV (v := (nI 999)) dX11_run_45 (by decide +kernel) ?_
        refine X.icmp_le (tgt := 55) dX11_run_48 (by decide) e12 (fun e13 => ?_) (fun e13 => ?_)
        · clear e12
          refine XL.lconst (v := 0) dX11_run_55 (by decide +kernel) ?_
          refine XL.lstore dX11_run_56 (by decide) (L := [some (.ref a0), some (.int a1), some (.int a2), some (.int a3), some (.ref p6), some (.long (0 : Int64)), none, none]) rfl ?_
          refine Ok.iconstV (v := (nI 0)) dX11_run_58 (by decide +kernel) ?_
          refine XL.istore dX11_run_59 (by decide) (L := [some (.ref a0), some (.int a1), some (.int a2), some (.int a3), some (.ref p6), some (.long (0 : Int64)), none, some (.int (nI 0))]) rfl ?_
          exact Ok.weakL (k_X11_run_61 (d := d) fuelL e13) ⟨rfl, ⟨rfl, ⟨rfl, ⟨rfl, ⟨rfl, ⟨rfl, trivial⟩⟩⟩⟩⟩⟩
        · clear e12
          exact Ok.weakL (k_X11_run_51 (d := d) e13) trivial
noncomputable def F_X11_round_30 (G : Gx) (h : Hp) (nx : Nat) : Rz Int64 :=
some ((-9223372036854775808 : Int64), h, nx)
set_option maxRecDepth 100000 in
set_option maxHeartbeats 4000000 in
theorem k_X11_round_30 {G : Gx} {d : Nat} {v' : Int64} {h' : Hp} {n' : Nat} {h : Hp} {nx : Nat} (e : F_X11_round_30 G h nx = some (v', h', n')) : Ok G mX11_round (d + 71) (Same (some (.long v')) h' n') 30 [none, none, none, none, none] [] h nx 0 0 := by
  unfold F_X11_round_30 at e
  refine Ok.ldc2_w (v := -9223372036854775808) dX11_round_30 wd550 ?_
  exact X.lret dX11_round_33 rfl (Nat.le_of_ble_eq_true rfl) (Nat.le_of_ble_eq_true rfl) e
noncomputable def F_X11_round_69 (G : Gx) (h : Hp) (nx : Nat) (s0 : Int64) : Rz Int64 :=
some (s0, h, nx)
set_option maxRecDepth 100000 in
set_option maxHeartbeats 4000000 in
theorem k_X11_round_69 {G : Gx} {d : Nat} {v' : Int64} {h' : Hp} {n' : Nat} {h : Hp} {nx : Nat} {s0 : Int64} (e : F_X11_round_69 G h nx s0 = some (v', h', n')) : Ok G mX11_round (d + 71) (Same (some (.long v')) h' n') 69 [none, none, none, none, none] [.long s0] h nx 0 0 := by
  unfold F_X11_round_69 at e
  exact X.lret dX11_round_69 rfl (Nat.le_of_ble_eq_true rfl) (Nat.le_of_ble_eq_true rfl) e
noncomputable def F_X11_round (G : Gx) (h : Hp) (nx : Nat) (a0 : Nat) (a1 : Int32) (a2 : Int32) : Rz Int64 :=
cl (F_X11_within G h nx a1 (nI 1) (nI 3)) (fun r1 h2 n3 =>
if r1 = 0 then
(F_X11_round_30 G h2 n3)
else
cl (F_X11_within G h2 n3 a2 (-1 : Int32) ((a1 - (nI 1)))) (fun r4 h5 n6 =>
if r4 = 0 then
(F_X11_round_30 G h5 n6)
else
gfR h5 a0 [11] 0 (fun v7 =>
nn v7 (fun p8 =>
gfI h5 p8 [0] 11 (fun v9 =>
if v9 = 0 then
(F_X11_round_30 G h5 n6)
else
gfR h5 a0 [11] 3 (fun v10 =>
nn v10 (fun p11 =>
ck h5 p11 [5] (fun _ =>
cl (F_X5_layAll G h5 n6 p11 (nI 3)) (fun _ h13 n14 =>
gfR h13 a0 [11] 4 (fun v15 =>
nn v15 (fun p16 =>
ck h13 p16 [9] (fun _ =>
cl (F_X9_greatestRound G h13 n14 p16 a1) (fun r17 h18 n19 =>
if 0 ≤ a2 then
gfR h18 a0 [11] 4 (fun v20 =>
nn v20 (fun p21 =>
gfR h18 p21 [9] 10 (fun v22 =>
nn v22 (fun p23 =>
alI (g_c G 0) h18 p23 a2 (fun v24 =>
(F_X11_round_69 G h18 n19 (v24.toInt64)))))))
else
(F_X11_round_69 G h18 n19 r17))))))))))))))
set_option maxRecDepth 100000 in
set_option maxHeartbeats 4000000 in
theorem k_X11_round {G : Gx} {d : Nat} {h : Hp} {nx : Nat} {a0 : Nat} {a1 : Int32} {a2 : Int32} {v' : Int64} {h' : Hp} {n' : Nat} (e : F_X11_round G h nx a0 a1 a2 = some (v', h', n')) : Ct G mX11_round (d + 71) (Same (some (.long v')) h' n') [.ref a0, .int a1, .int a2] h nx := by
  unfold F_X11_round at e
  refine Ct.of (ls := [some (.ref a0), some (.int a1), some (.int a2), none, none]) (by decide +kernel) rfl (Nat.le_of_ble_eq_true rfl) rfl ?_
  refine Ok.iload_n dX11_round_0 rfl ?_
  refine Ok.iconstV (v := (nI 1)) dX11_round_1 (by decide +kernel) ?_
  refine Ok.iconstV (v := (nI 3)) dX11_round_2 (by decide +kernel) ?_
  refine X.callS (My := mX11_within) (n := 3) (As := [.int a1, .int (nI 1), .int (nI 3)]) (T := (fun v => (some (.int v)))) (stk' := (fun v => [.int v])) (rest := []) (kc' := 0) (ks' := 0) dX11_round_3 e (fun v h n e => k_X11_within (d := d + 70) e) wd495 wd76 wd494 wd493 (by decide +kernel) rfl (by decide) rfl rfl (Nat.le_of_ble_eq_true rfl) (Nat.le_of_ble_eq_true rfl) (Nat.le_of_ble_eq_true rfl) rfl rfl (fun _ => rfl) (fun r1 h2 n3 e1 => ?_)
  clear e
  refine X.if_eq (tgt := 30) dX11_round_6 (by decide) e1 (fun e2 => ?_) (fun e2 => ?_)
  · clear e1
    exact Ok.weakL (k_X11_round_30 (d := d) e2) trivial
  · clear e1
    refine Ok.iload_n dX11_round_9 rfl ?_
    refine Ok.iconstV (v := (-1 : Int32)) dX11_round_10 (by decide +kernel) ?_
    refine Ok.iload_n dX11_round_11 rfl ?_
    refine Ok.iconstV (v := (nI 1)) dX11_round_12 (by decide +kernel) ?_
    refine Ok.isub dX11_round_13 ?_
    refine X.callS (My := mX11_within) (n := 3) (As := [.int a2, .int (-1 : Int32), .int ((a1 - (nI 1)))]) (T := (fun v => (some (.int v)))) (stk' := (fun v => [.int v])) (rest := []) (kc' := 0) (ks' := 0) dX11_round_14 e2 (fun v h n e => k_X11_within (d := d + 70) e) wd495 wd76 wd494 wd493 (by decide +kernel) rfl (by decide) rfl rfl (Nat.le_of_ble_eq_true rfl) (Nat.le_of_ble_eq_true rfl) (Nat.le_of_ble_eq_true rfl) rfl rfl (fun _ => rfl) (fun r4 h5 n6 e3 => ?_)
    clear e2
    refine X.if_eq (tgt := 30) dX11_round_17 (by decide) e3 (fun e4 => ?_) (fun e4 => ?_)
    · clear e3
      exact Ok.weakL (k_X11_round_30 (d := d) e4) trivial
    · clear e3
      refine Ok.aload_n dX11_round_20 rfl ?_
      refine X.rgfR fl_RX11_14 dX11_round_21 e4 (fun v7 e5 => ?_)
      clear e4
      refine X.rnn e5 (fun p8 q e6 => ?_)
      clear e5
      subst q
      refine X.rgfI fl_RX11_85 dX11_round_24 e6 (fun v9 e7 => ?_)
      clear e6
      refine X.if_ne (tgt := 34) dX11_round_27 (by decide) e7 (fun e8 => ?_) (fun e8 => ?_)
      · clear e7
        refine Ok.aload_n dX11_round_34 rfl ?_
        refine X.rgfR fl_RX11_30 dX11_round_35 e8 (fun v10 e9 => ?_)
        clear e8
        refine Ok.iconstV (v := (nI 3)) dX11_round_38 (by decide +kernel) ?_
        refine X.rnn e9 (fun p11 q e10 => ?_)
        clear e9
        subst q
        refine X.rck e10 (fun c fs hb hc e11 => ?_)
        clear e10
        obtain rfl := List.mem_singleton.mp hc
        refine X.callV (My := mX5_layAll) (n := 1) (As := [.int (nI 3)]) (T := (fun v => none)) (stk' := (fun _ => [])) (rest := []) (kc' := 0) (ks' := 0) dX11_round_39 e11 (fun v h n e => k_X5_layAll (d := d + 65) e) hb rfl wd740 wd78 wd738 wd739 wd737 (by decide +kernel) rfl (by decide) rfl rfl (Nat.le_of_ble_eq_true rfl) (Nat.le_of_ble_eq_true rfl) (Nat.le_of_ble_eq_true rfl) rfl rfl (fun _ => rfl) (fun _ h13 n14 e12 => ?_)
        clear e11
        refine Ok.aload_n dX11_round_42 rfl ?_
        refine X.rgfR fl_RX11_39 dX11_round_43 e12 (fun v15 e13 => ?_)
        clear e12
        refine Ok.iload_n dX11_round_46 rfl ?_
        refine X.rnn e13 (fun p16 q e14 => ?_)
        clear e13
        subst q
        refine X.rck e14 (fun c fs hb hc e15 => ?_)
        clear e14
        obtain rfl := List.mem_singleton.mp hc
        refine X.callV (My := mX9_greatestRound) (n := 1) (As := [.int a1]) (T := (fun v => (some (.long v)))) (stk' := (fun v => [.long v])) (rest := []) (kc' := 0) (ks' := 0) dX11_round_47 e15 (fun v h n e => k_X9_greatestRound (d := d + 0) e) hb rfl wd933 wd79 wd931 wd932 wd930 (by decide +kernel) rfl (by decide) rfl rfl (Nat.le_of_ble_eq_true rfl) (Nat.le_of_ble_eq_true rfl) (Nat.le_of_ble_eq_true rfl) rfl rfl (fun _ => rfl) (fun r17 h18 n19 e16 => ?_)
        clear e15
        refine XL.lstore_n dX11_round_50 (by decide) (L := [some (.ref a0), some (.int a1), some (.int a2), some (.long r17), none]) rfl ?_
        refine Ok.iload_n dX11_round_51 rfl ?_
        refine X.if_ge (tgt := 59) dX11_round_52 (by decide) e16 (fun e17 => ?_) (fun e17 => ?_)
        · clear e16
          refine Ok.aload_n dX11_round_59 rfl ?_
          refine X.rgfR fl_RX11_39 dX11_round_60 e17 (fun v20 e18 => ?_)
          clear e17
          refine X.rnn e18 (fun p21 q e19 => ?_)
          clear e18
          subst q
          refine X.rgfR fl_RX11_229 dX11_round_63 e19 (fun v22 e20 => ?_)
          clear e19
          refine Ok.iload_n dX11_round_66 rfl ?_
          refine X.rnn e20 (fun p23 q e21 => ?_)
          clear e20
          subst q
          refine X.iald dX11_round_67 e21 (fun v24 e22 => ?_)
          clear e21
          refine Ok.i2l dX11_round_68 ?_
          exact Ok.weakL (k_X11_round_69 (d := d) e22) trivial
        · clear e16
          refine Ok.lload_n dX11_round_55 rfl ?_
          refine Ok.goto (tgt := 69) dX11_round_56 (by decide) ?_
          exact Ok.weakL (k_X11_round_69 (d := d) e17) trivial
      · clear e7
        exact Ok.weakL (k_X11_round_30 (d := d) e8) trivial
noncomputable def F_X11_tour_21 (G : Gx) (h : Hp) (nx : Nat) : Rz Int32 :=
some ((-2 : Int32), h, nx)
set_option maxRecDepth 100000 in
set_option maxHeartbeats 4000000 in
theorem k_X11_tour_21 {G : Gx} {d : Nat} {v' : Int32} {h' : Hp} {n' : Nat} {h : Hp} {nx : Nat} (e : F_X11_tour_21 G h nx = some (v', h', n')) : Ok G mX11_tour (d + 6) (Same (some (.int v')) h' n') 21 [none, none, none, none, none, none, none] [] h nx 0 0 := by
  unfold F_X11_tour_21 at e
  refine Ok.bipushV (v := (-2 : Int32)) dX11_tour_21 (by decide +kernel) ?_
  exact X.iret dX11_tour_23 rfl (Nat.le_of_ble_eq_true rfl) (Nat.le_of_ble_eq_true rfl) e
noncomputable def F_X11_tour_114 (G : Gx) (k48 : Hp → Nat → Nat → Int32 → Int32 → Int32 → Int32 → Rz Int32) (h : Hp) (nx : Nat) (l0 : Nat) (l1 : Int32) (l3 : Int32) (l4 : Int32) (l5 : Int32) : Rz Int32 :=
nm (l5 + (nI 1)) (fun v1 =>
(k48 h nx l0 l1 l3 l4 v1))
set_option maxRecDepth 100000 in
set_option maxHeartbeats 4000000 in
theorem k_X11_tour_114 {G : Gx} {d : Nat} {v' : Int32} {h' : Hp} {n' : Nat} {k48 : Hp → Nat → Nat → Int32 → Int32 → Int32 → Int32 → Rz Int32} (K48 : ∀ {h : Hp} {nx : Nat} {l0 : Nat} {l1 : Int32} {l3 : Int32} {l4 : Int32} {l5 : Int32}, k48 h nx l0 l1 l3 l4 l5 = some (v', h', n') → Ok G mX11_tour (d + 6) (Same (some (.int v')) h' n') 48 [some (.ref l0), some (.int l1), none, some (.int l3), some (.int l4), some (.int l5), none] [] h nx 0 0) {h : Hp} {nx : Nat} {l0 : Nat} {l1 : Int32} {l3 : Int32} {l4 : Int32} {l5 : Int32} (e : F_X11_tour_114 G k48 h nx l0 l1 l3 l4 l5 = some (v', h', n')) : Ok G mX11_tour (d + 6) (Same (some (.int v')) h' n') 114 [some (.ref l0), some (.int l1), none, some (.int l3), some (.int l4), some (.int l5), none] [] h nx 0 0 := by
  unfold F_X11_tour_114 at e
  refine X.iinc dX11_tour_114 rfl (by decide) (by decide +kernel) e (L := fun v1 => [some (.ref l0), some (.int l1), none, some (.int l3), some (.int l4), some (.int v1), none]) (fun _ => rfl) (fun v1 e1 => ?_)
  clear e
  refine Ok.goto (tgt := 48) dX11_tour_117 (by decide) ?_
  exact Ok.weakL (K48 e1) ⟨rfl, ⟨rfl, ⟨rfl, ⟨rfl, ⟨rfl, trivial⟩⟩⟩⟩⟩
noncomputable def F_X11_tour_48 (G : Gx) : Nat → Hp → Nat → Nat → Int32 → Int32 → Int32 → Int32 → Rz Int32 := fun n => Nat.rec (motive := fun _ => Hp → Nat → Nat → Int32 → Int32 → Int32 → Int32 → Rz Int32) (fun _ _ _ _ _ _ _ => none) (fun _ k48 => fun h nx l0 l1 l3 l4 l5 =>
gfR h l0 [11] 0 (fun v1 =>
nn v1 (fun p2 =>
gfI h p2 [0] 11 (fun v3 =>
if (((nI 1) <<< (v3 &&& 31))) ≤ l5 then
some (l4, h, nx)
else
cl (F_J6_bitCount_0f7a4 G h nx l5) (fun r4 h5 n6 =>
gfR h5 l0 [11] 0 (fun v7 =>
nn v7 (fun p8 =>
gfI h5 p8 [0] 17 (fun v9 =>
if v9 < r4 then
(F_X11_tour_114 G k48 h5 n6 l0 l1 l3 l4 l5)
else
gfR h5 l0 [11] 0 (fun v10 =>
nn v10 (fun p11 =>
ck h5 p11 [0] (fun _ =>
cl (F_X0_wayOf G h5 n6 p11 l5) (fun r12 h13 n14 =>
if l1 < r12 then
(F_X11_tour_114 G k48 h13 n14 l0 l1 l3 l4 l5)
else
gfR h13 l0 [11] 3 (fun v15 =>
nn v15 (fun p16 =>
ck h13 p16 [5] (fun _ =>
cl (F_X5_worthOf G h13 n14 p16 l5) (fun r17 h18 n19 =>
if r17 ≤ l3 then
(F_X11_tour_114 G k48 h18 n19 l0 l1 l3 l4 l5)
else
(F_X11_tour_114 G k48 h18 n19 l0 l1 r17 l5 l5))))))))))))))))) n
theorem F_X11_tour_48_0 {G : Gx} {h : Hp} {nx : Nat} {l0 : Nat} {l1 : Int32} {l3 : Int32} {l4 : Int32} {l5 : Int32} : F_X11_tour_48 G 0 h nx l0 l1 l3 l4 l5 = none := rfl
theorem F_X11_tour_48_s {G : Gx} {n : Nat} {h : Hp} {nx : Nat} {l0 : Nat} {l1 : Int32} {l3 : Int32} {l4 : Int32} {l5 : Int32} : F_X11_tour_48 G (n + 1) h nx l0 l1 l3 l4 l5 = (
gfR h l0 [11] 0 (fun v1 =>
nn v1 (fun p2 =>
gfI h p2 [0] 11 (fun v3 =>
if (((nI 1) <<< (v3 &&& 31))) ≤ l5 then
some (l4, h, nx)
else
cl (F_J6_bitCount_0f7a4 G h nx l5) (fun r4 h5 n6 =>
gfR h5 l0 [11] 0 (fun v7 =>
nn v7 (fun p8 =>
gfI h5 p8 [0] 17 (fun v9 =>
if v9 < r4 then
(F_X11_tour_114 G (F_X11_tour_48 G n) h5 n6 l0 l1 l3 l4 l5)
else
gfR h5 l0 [11] 0 (fun v10 =>
nn v10 (fun p11 =>
ck h5 p11 [0] (fun _ =>
cl (F_X0_wayOf G h5 n6 p11 l5) (fun r12 h13 n14 =>
if l1 < r12 then
(F_X11_tour_114 G (F_X11_tour_48 G n) h13 n14 l0 l1 l3 l4 l5)
else
gfR h13 l0 [11] 3 (fun v15 =>
nn v15 (fun p16 =>
ck h13 p16 [5] (fun _ =>
cl (F_X5_worthOf G h13 n14 p16 l5) (fun r17 h18 n19 =>
if r17 ≤ l3 then
(F_X11_tour_114 G (F_X11_tour_48 G n) h18 n19 l0 l1 l3 l4 l5)
else
(F_X11_tour_114 G (F_X11_tour_48 G n) h18 n19 l0 l1 r17 l5 l5))))))))))))))))) := rfl
set_option maxRecDepth 100000 in
set_option maxHeartbeats 4000000 in
theorem k_X11_tour_48 {G : Gx} {d : Nat} {v' : Int32} {h' : Hp} {n' : Nat} : ∀ (n : Nat) {h : Hp} {nx : Nat} {l0 : Nat} {l1 : Int32} {l3 : Int32} {l4 : Int32} {l5 : Int32}, F_X11_tour_48 G n h nx l0 l1 l3 l4 l5 = some (v', h', n') → Ok G mX11_tour (d + 6) (Same (some (.int v')) h' n') 48 [some (.ref l0), some (.int l1), none, some (.int l3), some (.int l4), some (.int l5), none] [] h nx 0 0 := by
  intro n
  induction n with
  | zero =>
    intro h nx l0 l1 l3 l4 l5 e
    rw [F_X11_tour_48_0] at e
    cases e
  | succ n K48 =>
    intro h nx l0 l1 l3 l4 l5 e
    rw [F_X11_tour_48_s] at e
    refine Ok.iload dX11_tour_48 rfl ?_
    refine Ok.iconstV (v := (nI 1)) dX11_tour_50 (by decide +kernel) ?_
    refine Ok.aload_n dX11_tour_51 rfl ?_
    refine X.rgfR fl_RX11_14 dX11_tour_52 e (fun v1 e1 => ?_)
    clear e
    refine X.rnn e1 (fun p2 q e2 => ?_)
    clear e1
    subst q
    refine X.rgfI fl_RX11_85 dX11_tour_55 e2 (fun v3 e3 => ?_)
    clear e2
    refine Ok.ishl dX11_tour_58 ?_
    refine X.icmp_ge (tgt := 120) dX11_tour_59 (by decide) e3 (fun e4 => ?_) (fun e4 => ?_)
    · clear e3
      refine Ok.iload dX11_tour_120 rfl ?_
      exact X.iret dX11_tour_122 rfl (Nat.le_of_ble_eq_true rfl) (Nat.le_of_ble_eq_true rfl) e4
    · clear e3
      refine Ok.iload dX11_tour_62 rfl ?_
      refine X.callS (My := mJ6_bitCount_0f7a4) (n := 1) (As := [.int l5]) (T := (fun v => (some (.int v)))) (stk' := (fun v => [.int v])) (rest := []) (kc' := 0) (ks' := 0) dX11_tour_64 e4 (fun v h n e => k_J6_bitCount_0f7a4 (d := d + 5) e) wd769 wd97 wd768 wd949 (by decide +kernel) rfl (by decide) rfl rfl (Nat.le_of_ble_eq_true rfl) (Nat.le_of_ble_eq_true rfl) (Nat.le_of_ble_eq_true rfl) rfl rfl (fun _ => rfl) (fun r4 h5 n6 e5 => ?_)
      clear e4
      refine Ok.aload_n dX11_tour_67 rfl ?_
      refine X.rgfR fl_RX11_14 dX11_tour_68 e5 (fun v7 e6 => ?_)
      clear e5
      refine X.rnn e6 (fun p8 q e7 => ?_)
      clear e6
      subst q
      refine X.rgfI fl_RX11_154 dX11_tour_71 e7 (fun v9 e8 => ?_)
      clear e7
      refine X.icmp_gt (tgt := 114) dX11_tour_74 (by decide) e8 (fun e9 => ?_) (fun e9 => ?_)
      · clear e8
        exact Ok.weakL (k_X11_tour_114 (d := d) K48 e9) ⟨rfl, ⟨rfl, ⟨rfl, ⟨rfl, ⟨rfl, trivial⟩⟩⟩⟩⟩
      · clear e8
        refine Ok.aload_n dX11_tour_77 rfl ?_
        refine X.rgfR fl_RX11_14 dX11_tour_78 e9 (fun v10 e10 => ?_)
        clear e9
        refine Ok.iload dX11_tour_81 rfl ?_
        refine X.rnn e10 (fun p11 q e11 => ?_)
        clear e10
        subst q
        refine X.rck e11 (fun c fs hb hc e12 => ?_)
        clear e11
        obtain rfl := List.mem_singleton.mp hc
        refine X.callV (My := mX0_wayOf) (n := 1) (As := [.int l5]) (T := (fun v => (some (.int v)))) (stk' := (fun v => [.int v])) (rest := []) (kc' := 0) (ks' := 0) dX11_tour_83 e12 (fun v h n e => k_X0_wayOf (d := d + 5) e) hb rfl wd953 wd77 wd951 wd952 wd950 (by decide +kernel) rfl (by decide) rfl rfl (Nat.le_of_ble_eq_true rfl) (Nat.le_of_ble_eq_true rfl) (Nat.le_of_ble_eq_true rfl) rfl rfl (fun _ => rfl) (fun r12 h13 n14 e13 => ?_)
        clear e12
        refine Ok.iload_n dX11_tour_86 rfl ?_
        refine X.icmp_gt (tgt := 114) dX11_tour_87 (by decide) e13 (fun e14 => ?_) (fun e14 => ?_)
        · clear e13
          exact Ok.weakL (k_X11_tour_114 (d := d) K48 e14) ⟨rfl, ⟨rfl, ⟨rfl, ⟨rfl, ⟨rfl, trivial⟩⟩⟩⟩⟩
        · clear e13
          refine Ok.aload_n dX11_tour_90 rfl ?_
          refine X.rgfR fl_RX11_30 dX11_tour_91 e14 (fun v15 e15 => ?_)
          clear e14
          refine Ok.iload dX11_tour_94 rfl ?_
          refine X.rnn e15 (fun p16 q e16 => ?_)
          clear e15
          subst q
          refine X.rck e16 (fun c fs hb hc e17 => ?_)
          clear e16
          obtain rfl := List.mem_singleton.mp hc
          refine X.callV (My := mX5_worthOf) (n := 1) (As := [.int l5]) (T := (fun v => (some (.int v)))) (stk' := (fun v => [.int v])) (rest := []) (kc' := 0) (ks' := 0) dX11_tour_96 e17 (fun v h n e => k_X5_worthOf (d := d + 5) e) hb rfl wd899 wd78 wd897 wd898 wd955 (by decide +kernel) rfl (by decide) rfl rfl (Nat.le_of_ble_eq_true rfl) (Nat.le_of_ble_eq_true rfl) (Nat.le_of_ble_eq_true rfl) rfl rfl (fun _ => rfl) (fun r17 h18 n19 e18 => ?_)
          clear e17
          refine XL.istore dX11_tour_99 (by decide) (L := [some (.ref l0), some (.int l1), none, some (.int l3), some (.int l4), some (.int l5), some (.int r17)]) rfl ?_
          refine Ok.iload dX11_tour_101 rfl ?_
          refine Ok.iload_n dX11_tour_103 rfl ?_
          refine X.icmp_le (tgt := 114) dX11_tour_104 (by decide) e18 (fun e19 => ?_) (fun e19 => ?_)
          · clear e18
            exact Ok.weakL (k_X11_tour_114 (d := d) K48 e19) ⟨rfl, ⟨rfl, ⟨rfl, ⟨rfl, ⟨rfl, trivial⟩⟩⟩⟩⟩
          · clear e18
            refine Ok.iload dX11_tour_107 rfl ?_
            refine XL.istore_n dX11_tour_109 (by decide) (L := [some (.ref l0), some (.int l1), none, some (.int r17), some (.int l4), some (.int l5), some (.int r17)]) rfl ?_
            refine Ok.iload dX11_tour_110 rfl ?_
            refine XL.istore dX11_tour_112 (by decide) (L := [some (.ref l0), some (.int l1), none, some (.int r17), some (.int l5), some (.int l5), some (.int r17)]) rfl ?_
            exact Ok.weakL (k_X11_tour_114 (d := d) K48 e19) ⟨rfl, ⟨rfl, ⟨rfl, ⟨rfl, ⟨rfl, trivial⟩⟩⟩⟩⟩
noncomputable def F_X11_tour (G : Gx) (h : Hp) (nx : Nat) (a0 : Nat) (a1 : Int32) (a2 : Int32) : Rz Int32 :=
cl (F_X11_within G h nx a1 (nI 0) (nI 200)) (fun r1 h2 n3 =>
if r1 = 0 then
(F_X11_tour_21 G h2 n3)
else
cl (F_X11_within G h2 n3 a2 (nI 1) (nI 8)) (fun r4 h5 n6 =>
if r4 = 0 then
(F_X11_tour_21 G h5 n6)
else
gfR h5 a0 [11] 3 (fun v7 =>
nn v7 (fun p8 =>
ck h5 p8 [5] (fun _ =>
cl (F_X5_layAll G h5 n6 p8 a2) (fun _ h10 n11 =>
gfR h10 a0 [11] 3 (fun v12 =>
nn v12 (fun p13 =>
ck h10 p13 [5] (fun _ =>
cl (F_X5_weighAll G h10 n11 p13 a2) (fun _ h15 n16 =>
(F_X11_tour_48 G fuelL h15 n16 a0 a1 (nI 0) (nI 0) (nI 1))))))))))))
set_option maxRecDepth 100000 in
set_option maxHeartbeats 4000000 in
theorem k_X11_tour {G : Gx} {d : Nat} {h : Hp} {nx : Nat} {a0 : Nat} {a1 : Int32} {a2 : Int32} {v' : Int32} {h' : Hp} {n' : Nat} (e : F_X11_tour G h nx a0 a1 a2 = some (v', h', n')) : Ct G mX11_tour (d + 6) (Same (some (.int v')) h' n') [.ref a0, .int a1, .int a2] h nx := by
  unfold F_X11_tour at e
  refine Ct.of (ls := [some (.ref a0), some (.int a1), some (.int a2), none, none, none, none]) (by decide +kernel) rfl (Nat.le_of_ble_eq_true rfl) rfl ?_
  refine Ok.iload_n dX11_tour_0 rfl ?_
  refine Ok.iconstV (v := (nI 0)) dX11_tour_1 (by decide +kernel) ?_
  refine Ok.sipushV (v := (nI 200)) dX11_tour_2 (by decide +kernel) ?_
  refine X.callS (My := mX11_within) (n := 3) (As := [.int a1, .int (nI 0), .int (nI 200)]) (T := (fun v => (some (.int v)))) (stk' := (fun v => [.int v])) (rest := []) (kc' := 0) (ks' := 0) dX11_tour_5 e (fun v h n e => k_X11_within (d := d + 5) e) wd495 wd76 wd494 wd493 (by decide +kernel) rfl (by decide) rfl rfl (Nat.le_of_ble_eq_true rfl) (Nat.le_of_ble_eq_true rfl) (Nat.le_of_ble_eq_true rfl) rfl rfl (fun _ => rfl) (fun r1 h2 n3 e1 => ?_)
  clear e
  refine X.if_eq (tgt := 21) dX11_tour_8 (by decide) e1 (fun e2 => ?_) (fun e2 => ?_)
  · clear e1
    exact Ok.weakL (k_X11_tour_21 (d := d) e2) trivial
  · clear e1
    refine Ok.iload_n dX11_tour_11 rfl ?_
    refine Ok.iconstV (v := (nI 1)) dX11_tour_12 (by decide +kernel) ?_
    refine Ok.bipushV (v := (nI 8)) dX11_tour_13 (by decide +kernel) ?_
    refine X.callS (My := mX11_within) (n := 3) (As := [.int a2, .int (nI 1), .int (nI 8)]) (T := (fun v => (some (.int v)))) (stk' := (fun v => [.int v])) (rest := []) (kc' := 0) (ks' := 0) dX11_tour_15 e2 (fun v h n e => k_X11_within (d := d + 5) e) wd495 wd76 wd494 wd493 (by decide +kernel) rfl (by decide) rfl rfl (Nat.le_of_ble_eq_true rfl) (Nat.le_of_ble_eq_true rfl) (Nat.le_of_ble_eq_true rfl) rfl rfl (fun _ => rfl) (fun r4 h5 n6 e3 => ?_)
    clear e2
    refine X.if_ne (tgt := 24) dX11_tour_18 (by decide) e3 (fun e4 => ?_) (fun e4 => ?_)
    · clear e3
      refine Ok.aload_n dX11_tour_24 rfl ?_
      refine X.rgfR fl_RX11_30 dX11_tour_25 e4 (fun v7 e5 => ?_)
      clear e4
      refine Ok.iload_n dX11_tour_28 rfl ?_
      refine X.rnn e5 (fun p8 q e6 => ?_)
      clear e5
      subst q
      refine X.rck e6 (fun c fs hb hc e7 => ?_)
      clear e6
      obtain rfl := List.mem_singleton.mp hc
      refine X.callV (My := mX5_layAll) (n := 1) (As := [.int a2]) (T := (fun v => none)) (stk' := (fun _ => [])) (rest := []) (kc' := 0) (ks' := 0) dX11_tour_29 e7 (fun v h n e => k_X5_layAll (d := d + 0) e) hb rfl wd740 wd78 wd738 wd739 wd737 (by decide +kernel) rfl (by decide) rfl rfl (Nat.le_of_ble_eq_true rfl) (Nat.le_of_ble_eq_true rfl) (Nat.le_of_ble_eq_true rfl) rfl rfl (fun _ => rfl) (fun _ h10 n11 e8 => ?_)
      clear e7
      refine Ok.aload_n dX11_tour_32 rfl ?_
      refine X.rgfR fl_RX11_30 dX11_tour_33 e8 (fun v12 e9 => ?_)
      clear e8
      refine Ok.iload_n dX11_tour_36 rfl ?_
      refine X.rnn e9 (fun p13 q e10 => ?_)
      clear e9
      subst q
      refine X.rck e10 (fun c fs hb hc e11 => ?_)
      clear e10
      obtain rfl := List.mem_singleton.mp hc
      refine X.callV (My := mX5_weighAll) (n := 1) (As := [.int a2]) (T := (fun v => none)) (stk' := (fun _ => [])) (rest := []) (kc' := 0) (ks' := 0) dX11_tour_37 e11 (fun v h n e => k_X5_weighAll (d := d + 2) e) hb rfl wd947 wd78 wd945 wd946 wd944 (by decide +kernel) rfl (by decide) rfl rfl (Nat.le_of_ble_eq_true rfl) (Nat.le_of_ble_eq_true rfl) (Nat.le_of_ble_eq_true rfl) rfl rfl (fun _ => rfl) (fun _ h15 n16 e12 => ?_)
      clear e11
      refine Ok.iconstV (v := (nI 0)) dX11_tour_40 (by decide +kernel) ?_
      refine XL.istore_n dX11_tour_41 (by decide) (L := [some (.ref a0), some (.int a1), some (.int a2), some (.int (nI 0)), none, none, none]) rfl ?_
      refine Ok.iconstV (v := (nI 0)) dX11_tour_42 (by decide +kernel) ?_
      refine XL.istore dX11_tour_43 (by decide) (L := [some (.ref a0), some (.int a1), some (.int a2), some (.int (nI 0)), some (.int (nI 0)), none, none]) rfl ?_
      refine Ok.iconstV (v := (nI 1)) dX11_tour_45 (by decide +kernel) ?_
      refine XL.istore dX11_tour_46 (by decide) (L := [some (.ref a0), some (.int a1), some (.int a2), some (.int (nI 0)), some (.int (nI 0)), some (.int (nI 1)), none]) rfl ?_
      exact Ok.weakL (k_X11_tour_48 (d := d) fuelL e12) ⟨rfl, ⟨rfl, ⟨rfl, ⟨rfl, ⟨rfl, trivial⟩⟩⟩⟩⟩
    · clear e3
      exact Ok.weakL (k_X11_tour_21 (d := d) e4) trivial
noncomputable def F_X11_edge_66 (G : Gx) : Nat → Hp → Nat → Nat → Int32 → Int32 → Int32 → Int32 → Rz Int32 := fun n => Nat.rec (motive := fun _ => Hp → Nat → Nat → Int32 → Int32 → Int32 → Int32 → Rz Int32) (fun _ _ _ _ _ _ _ => none) (fun _ k66 => fun h nx l0 l1 l2 l3 l4 =>
if (nI 30) < l4 then
some ((nI 0), h, nx)
else
gfR h l0 [11] 3 (fun v1 =>
nn v1 (fun p2 =>
ck h p2 [5] (fun _ =>
cl (F_X5_worthiestWith G h nx p2 l1 l2 ((-l4))) (fun r3 h4 n5 =>
if r3 = l3 then
gfR h4 l0 [11] 3 (fun v6 =>
nn v6 (fun p7 =>
ck h4 p7 [5] (fun _ =>
cl (F_X5_worthiestWith G h4 n5 p7 l1 l2 l4) (fun r8 h9 n10 =>
if r8 = l3 then
nm (l4 + (nI 1)) (fun v11 =>
(k66 h9 n10 l0 l1 l2 l3 v11))
else
some (l4, h9, n10)))))
else
some (((-l4)), h4, n5)))))) n
theorem F_X11_edge_66_0 {G : Gx} {h : Hp} {nx : Nat} {l0 : Nat} {l1 : Int32} {l2 : Int32} {l3 : Int32} {l4 : Int32} : F_X11_edge_66 G 0 h nx l0 l1 l2 l3 l4 = none := rfl
theorem F_X11_edge_66_s {G : Gx} {n : Nat} {h : Hp} {nx : Nat} {l0 : Nat} {l1 : Int32} {l2 : Int32} {l3 : Int32} {l4 : Int32} : F_X11_edge_66 G (n + 1) h nx l0 l1 l2 l3 l4 = (
if (nI 30) < l4 then
some ((nI 0), h, nx)
else
gfR h l0 [11] 3 (fun v1 =>
nn v1 (fun p2 =>
ck h p2 [5] (fun _ =>
cl (F_X5_worthiestWith G h nx p2 l1 l2 ((-l4))) (fun r3 h4 n5 =>
if r3 = l3 then
gfR h4 l0 [11] 3 (fun v6 =>
nn v6 (fun p7 =>
ck h4 p7 [5] (fun _ =>
cl (F_X5_worthiestWith G h4 n5 p7 l1 l2 l4) (fun r8 h9 n10 =>
if r8 = l3 then
nm (l4 + (nI 1)) (fun v11 =>
((F_X11_edge_66 G n) h9 n10 l0 l1 l2 l3 v11))
else
some (l4, h9, n10)))))
else
some (((-l4)), h4, n5)))))) := rfl
set_option maxRecDepth 100000 in
set_option maxHeartbeats 4000000 in
theorem k_X11_edge_66 {G : Gx} {d : Nat} {v' : Int32} {h' : Hp} {n' : Nat} : ∀ (n : Nat) {h : Hp} {nx : Nat} {l0 : Nat} {l1 : Int32} {l2 : Int32} {l3 : Int32} {l4 : Int32}, F_X11_edge_66 G n h nx l0 l1 l2 l3 l4 = some (v', h', n') → Ok G mX11_edge (d + 6) (Same (some (.int v')) h' n') 66 [some (.ref l0), some (.int l1), some (.int l2), some (.int l3), some (.int l4)] [] h nx 0 0 := by
  intro n
  induction n with
  | zero =>
    intro h nx l0 l1 l2 l3 l4 e
    rw [F_X11_edge_66_0] at e
    cases e
  | succ n K66 =>
    intro h nx l0 l1 l2 l3 l4 e
    rw [F_X11_edge_66_s] at e
    refine Ok.iload dX11_edge_66 rfl ?_
    refine Ok.bipushV (v := (nI 30)) dX11_edge_68 (by decide +kernel) ?_
    refine X.icmp_gt (tgt := 117) dX11_edge_70 (by decide) e (fun e1 => ?_) (fun e1 => ?_)
    · clear e
      refine Ok.iconstV (v := (nI 0)) dX11_edge_117 (by decide +kernel) ?_
      exact X.iret dX11_edge_118 rfl (Nat.le_of_ble_eq_true rfl) (Nat.le_of_ble_eq_true rfl) e1
    · clear e
      refine Ok.aload_n dX11_edge_73 rfl ?_
      refine X.rgfR fl_RX11_30 dX11_edge_74 e1 (fun v1 e2 => ?_)
      clear e1
      refine Ok.iload_n dX11_edge_77 rfl ?_
      refine Ok.iload_n dX11_edge_78 rfl ?_
      refine Ok.iload dX11_edge_79 rfl ?_
      refine Ok.ineg dX11_edge_81 ?_
      refine X.rnn e2 (fun p2 q e3 => ?_)
      clear e2
      subst q
      refine X.rck e3 (fun c fs hb hc e4 => ?_)
      clear e3
      obtain rfl := List.mem_singleton.mp hc
      refine X.callV (My := mX5_worthiestWith) (n := 3) (As := [.int l1, .int l2, .int ((-l4))]) (T := (fun v => (some (.int v)))) (stk' := (fun v => [.int v])) (rest := []) (kc' := 0) (ks' := 0) dX11_edge_82 e4 (fun v h n e => k_X5_worthiestWith (d := d + 0) e) hb rfl wd967 wd78 wd965 wd966 wd964 (by decide +kernel) rfl (by decide) rfl rfl (Nat.le_of_ble_eq_true rfl) (Nat.le_of_ble_eq_true rfl) (Nat.le_of_ble_eq_true rfl) rfl rfl (fun _ => rfl) (fun r3 h4 n5 e5 => ?_)
      clear e4
      refine Ok.iload_n dX11_edge_85 rfl ?_
      refine X.icmp_eq (tgt := 93) dX11_edge_86 (by decide) e5 (fun e6 => ?_) (fun e6 => ?_)
      · clear e5
        refine Ok.aload_n dX11_edge_93 rfl ?_
        refine X.rgfR fl_RX11_30 dX11_edge_94 e6 (fun v6 e7 => ?_)
        clear e6
        refine Ok.iload_n dX11_edge_97 rfl ?_
        refine Ok.iload_n dX11_edge_98 rfl ?_
        refine Ok.iload dX11_edge_99 rfl ?_
        refine X.rnn e7 (fun p7 q e8 => ?_)
        clear e7
        subst q
        refine X.rck e8 (fun c fs hb hc e9 => ?_)
        clear e8
        obtain rfl := List.mem_singleton.mp hc
        refine X.callV (My := mX5_worthiestWith) (n := 3) (As := [.int l1, .int l2, .int l4]) (T := (fun v => (some (.int v)))) (stk' := (fun v => [.int v])) (rest := []) (kc' := 0) (ks' := 0) dX11_edge_101 e9 (fun v h n e => k_X5_worthiestWith (d := d + 0) e) hb rfl wd967 wd78 wd965 wd966 wd964 (by decide +kernel) rfl (by decide) rfl rfl (Nat.le_of_ble_eq_true rfl) (Nat.le_of_ble_eq_true rfl) (Nat.le_of_ble_eq_true rfl) rfl rfl (fun _ => rfl) (fun r8 h9 n10 e10 => ?_)
        clear e9
        refine Ok.iload_n dX11_edge_104 rfl ?_
        refine X.icmp_eq (tgt := 111) dX11_edge_105 (by decide) e10 (fun e11 => ?_) (fun e11 => ?_)
        · clear e10
          refine X.iinc dX11_edge_111 rfl (by decide) (by decide +kernel) e11 (L := fun v11 => [some (.ref l0), some (.int l1), some (.int l2), some (.int l3), some (.int v11)]) (fun _ => rfl) (fun v11 e12 => ?_)
          clear e11
          refine Ok.goto (tgt := 66) dX11_edge_114 (by decide) ?_
          exact Ok.weakL (K66 e12) ⟨rfl, ⟨rfl, ⟨rfl, ⟨rfl, ⟨rfl, trivial⟩⟩⟩⟩⟩
        · clear e10
          refine Ok.iload dX11_edge_108 rfl ?_
          exact X.iret dX11_edge_110 rfl (Nat.le_of_ble_eq_true rfl) (Nat.le_of_ble_eq_true rfl) e11
      · clear e5
        refine Ok.iload dX11_edge_89 rfl ?_
        refine Ok.ineg dX11_edge_91 ?_
        exact X.iret dX11_edge_92 rfl (Nat.le_of_ble_eq_true rfl) (Nat.le_of_ble_eq_true rfl) e6
noncomputable def F_X11_edge (G : Gx) (h : Hp) (nx : Nat) (a0 : Nat) (a1 : Int32) (a2 : Int32) : Rz Int32 :=
gfR h a0 [11] 0 (fun v1 =>
nn v1 (fun p2 =>
ck h p2 [0] (fun _ =>
cl (F_X0_hasThing G h nx p2 a1) (fun r3 h4 n5 =>
if r3 = 0 then
some ((-1 : Int32), h4, n5)
else
cl (F_X11_within G h4 n5 a2 (nI 1) (nI 4)) (fun r6 h7 n8 =>
if r6 = 0 then
some ((-2 : Int32), h7, n8)
else
gfR h7 a0 [11] 0 (fun v9 =>
nn v9 (fun p10 =>
gfI h7 p10 [0] 11 (fun v11 =>
if v11 = (nI 1) then
some ((-3 : Int32), h7, n8)
else
gfR h7 a0 [11] 3 (fun v12 =>
nn v12 (fun p13 =>
ck h7 p13 [5] (fun _ =>
cl (F_X5_layAll G h7 n8 p13 a2) (fun _ h15 n16 =>
gfR h15 a0 [11] 3 (fun v17 =>
nn v17 (fun p18 =>
ck h15 p18 [5] (fun _ =>
cl (F_X5_weighAll G h15 n16 p18 a2) (fun _ h20 n21 =>
gfR h20 a0 [11] 3 (fun v22 =>
nn v22 (fun p23 =>
ck h20 p23 [5] (fun _ =>
cl (F_X5_worthiest G h20 n21 p23) (fun r24 h25 n26 =>
(F_X11_edge_66 G fuelL h25 n26 a0 a1 a2 r24 (nI 1))))))))))))))))))))))
set_option maxRecDepth 100000 in
set_option maxHeartbeats 4000000 in
theorem k_X11_edge {G : Gx} {d : Nat} {h : Hp} {nx : Nat} {a0 : Nat} {a1 : Int32} {a2 : Int32} {v' : Int32} {h' : Hp} {n' : Nat} (e : F_X11_edge G h nx a0 a1 a2 = some (v', h', n')) : Ct G mX11_edge (d + 6) (Same (some (.int v')) h' n') [.ref a0, .int a1, .int a2] h nx := by
  unfold F_X11_edge at e
  refine Ct.of (ls := [some (.ref a0), some (.int a1), some (.int a2), none, none]) (by decide +kernel) rfl (Nat.le_of_ble_eq_true rfl) rfl ?_
  refine Ok.aload_n dX11_edge_0 rfl ?_
  refine X.rgfR fl_RX11_14 dX11_edge_1 e (fun v1 e1 => ?_)
  clear e
  refine Ok.iload_n dX11_edge_4 rfl ?_
  refine X.rnn e1 (fun p2 q e2 => ?_)
  clear e1
  subst q
  refine X.rck e2 (fun c fs hb hc e3 => ?_)
  clear e2
  obtain rfl := List.mem_singleton.mp hc
  refine X.callV (My := mX0_hasThing) (n := 1) (As := [.int a1]) (T := (fun v => (some (.int v)))) (stk' := (fun v => [.int v])) (rest := []) (kc' := 0) (ks' := 0) dX11_edge_5 e3 (fun v h n e => k_X0_hasThing (d := d + 5) e) hb rfl wd521 wd77 wd519 wd520 wd518 (by decide +kernel) rfl (by decide) rfl rfl (Nat.le_of_ble_eq_true rfl) (Nat.le_of_ble_eq_true rfl) (Nat.le_of_ble_eq_true rfl) rfl rfl (fun _ => rfl) (fun r3 h4 n5 e4 => ?_)
  clear e3
  refine X.if_ne (tgt := 13) dX11_edge_8 (by decide) e4 (fun e5 => ?_) (fun e5 => ?_)
  · clear e4
    refine Ok.iload_n dX11_edge_13 rfl ?_
    refine Ok.iconstV (v := (nI 1)) dX11_edge_14 (by decide +kernel) ?_
    refine Ok.iconstV (v := (nI 4)) dX11_edge_15 (by decide +kernel) ?_
    refine X.callS (My := mX11_within) (n := 3) (As := [.int a2, .int (nI 1), .int (nI 4)]) (T := (fun v => (some (.int v)))) (stk' := (fun v => [.int v])) (rest := []) (kc' := 0) (ks' := 0) dX11_edge_16 e5 (fun v h n e => k_X11_within (d := d + 5) e) wd495 wd76 wd494 wd493 (by decide +kernel) rfl (by decide) rfl rfl (Nat.le_of_ble_eq_true rfl) (Nat.le_of_ble_eq_true rfl) (Nat.le_of_ble_eq_true rfl) rfl rfl (fun _ => rfl) (fun r6 h7 n8 e6 => ?_)
    clear e5
    refine X.if_ne (tgt := 25) dX11_edge_19 (by decide) e6 (fun e7 => ?_) (fun e7 => ?_)
    · clear e6
      refine Ok.aload_n dX11_edge_25 rfl ?_
      refine X.rgfR fl_RX11_14 dX11_edge_26 e7 (fun v9 e8 => ?_)
      clear e7
      refine X.rnn e8 (fun p10 q e9 => ?_)
      clear e8
      subst q
      refine X.rgfI fl_RX11_85 dX11_edge_29 e9 (fun v11 e10 => ?_)
      clear e9
      refine Ok.iconstV (v := (nI 1)) dX11_edge_32 (by decide +kernel) ?_
      refine X.icmp_ne (tgt := 39) dX11_edge_33 (by decide) e10 (fun e11 => ?_) (fun e11 => ?_)
      · clear e10
        refine Ok.aload_n dX11_edge_39 rfl ?_
        refine X.rgfR fl_RX11_30 dX11_edge_40 e11 (fun v12 e12 => ?_)
        clear e11
        refine Ok.iload_n dX11_edge_43 rfl ?_
        refine X.rnn e12 (fun p13 q e13 => ?_)
        clear e12
        subst q
        refine X.rck e13 (fun c fs hb hc e14 => ?_)
        clear e13
        obtain rfl := List.mem_singleton.mp hc
        refine X.callV (My := mX5_layAll) (n := 1) (As := [.int a2]) (T := (fun v => none)) (stk' := (fun _ => [])) (rest := []) (kc' := 0) (ks' := 0) dX11_edge_44 e14 (fun v h n e => k_X5_layAll (d := d + 0) e) hb rfl wd740 wd78 wd738 wd739 wd737 (by decide +kernel) rfl (by decide) rfl rfl (Nat.le_of_ble_eq_true rfl) (Nat.le_of_ble_eq_true rfl) (Nat.le_of_ble_eq_true rfl) rfl rfl (fun _ => rfl) (fun _ h15 n16 e15 => ?_)
        clear e14
        refine Ok.aload_n dX11_edge_47 rfl ?_
        refine X.rgfR fl_RX11_30 dX11_edge_48 e15 (fun v17 e16 => ?_)
        clear e15
        refine Ok.iload_n dX11_edge_51 rfl ?_
        refine X.rnn e16 (fun p18 q e17 => ?_)
        clear e16
        subst q
        refine X.rck e17 (fun c fs hb hc e18 => ?_)
        clear e17
        obtain rfl := List.mem_singleton.mp hc
        refine X.callV (My := mX5_weighAll) (n := 1) (As := [.int a2]) (T := (fun v => none)) (stk' := (fun _ => [])) (rest := []) (kc' := 0) (ks' := 0) dX11_edge_52 e18 (fun v h n e => k_X5_weighAll (d := d + 2) e) hb rfl wd947 wd78 wd945 wd946 wd944 (by decide +kernel) rfl (by decide) rfl rfl (Nat.le_of_ble_eq_true rfl) (Nat.le_of_ble_eq_true rfl) (Nat.le_of_ble_eq_true rfl) rfl rfl (fun _ => rfl) (fun _ h20 n21 e19 => ?_)
        clear e18
        refine Ok.aload_n dX11_edge_55 rfl ?_
        refine X.rgfR fl_RX11_30 dX11_edge_56 e19 (fun v22 e20 => ?_)
        clear e19
        refine X.rnn e20 (fun p23 q e21 => ?_)
        clear e20
        subst q
        refine X.rck e21 (fun c fs hb hc e22 => ?_)
        clear e21
        obtain rfl := List.mem_singleton.mp hc
        refine X.callV (My := mX5_worthiest) (n := 0) (As := []) (T := (fun v => (some (.int v)))) (stk' := (fun v => [.int v])) (rest := []) (kc' := 0) (ks' := 0) dX11_edge_59 e22 (fun v h n e => k_X5_worthiest (d := d + 5) e) hb rfl wd963 wd78 wd961 wd962 wd960 (by decide +kernel) rfl (by decide) rfl rfl (Nat.le_of_ble_eq_true rfl) (Nat.le_of_ble_eq_true rfl) (Nat.le_of_ble_eq_true rfl) rfl rfl (fun _ => rfl) (fun r24 h25 n26 e23 => ?_)
        clear e22
        refine XL.istore_n dX11_edge_62 (by decide) (L := [some (.ref a0), some (.int a1), some (.int a2), some (.int r24), none]) rfl ?_
        refine Ok.iconstV (v := (nI 1)) dX11_edge_63 (by decide +kernel) ?_
        refine XL.istore dX11_edge_64 (by decide) (L := [some (.ref a0), some (.int a1), some (.int a2), some (.int r24), some (.int (nI 1))]) rfl ?_
        exact Ok.weakL (k_X11_edge_66 (d := d) fuelL e23) ⟨rfl, ⟨rfl, ⟨rfl, ⟨rfl, ⟨rfl, trivial⟩⟩⟩⟩⟩
      · clear e10
        refine Ok.bipushV (v := (-3 : Int32)) dX11_edge_36 (by decide +kernel) ?_
        exact X.iret dX11_edge_38 rfl (Nat.le_of_ble_eq_true rfl) (Nat.le_of_ble_eq_true rfl) e11
    · clear e6
      refine Ok.bipushV (v := (-2 : Int32)) dX11_edge_22 (by decide +kernel) ?_
      exact X.iret dX11_edge_24 rfl (Nat.le_of_ble_eq_true rfl) (Nat.le_of_ble_eq_true rfl) e7
  · clear e4
    refine Ok.iconstV (v := (-1 : Int32)) dX11_edge_11 (by decide +kernel) ?_
    exact X.iret dX11_edge_12 rfl (Nat.le_of_ble_eq_true rfl) (Nat.le_of_ble_eq_true rfl) e5
noncomputable def F_X11_act (G : Gx) (h : Hp) (nx : Nat) (a0 : Nat) (a1 : Int32) (a2 : Int32) (a3 : Int32) : Rz Int32 :=
gfR h a0 [11] 6 (fun v1 =>
nn v1 (fun p2 =>
asI (g_c G 0) id h p2 (nI 0) (nI 0) (fun h3 =>
gfR h3 a0 [11] 0 (fun v4 =>
nn v4 (fun p5 =>
ck h3 p5 [0] (fun _ =>
cl (F_X0_planAt G h3 nx p5 a1) (fun r6 h7 n8 =>
qn r6 (some ((nI 0), h7, n8)) (fun p9 =>
if a2 = (nI 0) then
gfR h7 a0 [11] 6 (fun v10 =>
nn v10 (fun p11 =>
cl (ck h7 p9 [1, 2, 3, 4, 6, 8, 10] (fun c => match c with
| 1 => F_X6_means G h7 n8 p9 a3 p11
| 2 => F_X6_means G h7 n8 p9 a3 p11
| 3 => F_X6_means G h7 n8 p9 a3 p11
| 4 => F_X4_means G h7 n8 p9 a3 p11
| 6 => F_X6_means G h7 n8 p9 a3 p11
| 8 => F_X8_means G h7 n8 p9 a3 p11
| 10 => F_X6_means G h7 n8 p9 a3 p11
| _ => none)) (fun r12 h13 n14 =>
some (r12, h13, n14))))
else
if a2 = (nI 1) then
gfR h7 a0 [11] 6 (fun v15 =>
nn v15 (fun p16 =>
cl (ck h7 p9 [1, 2, 3, 4, 6, 8, 10] (fun c => match c with
| 1 => F_X10_rows G h7 n8 p9 a3 p16
| 2 => F_X2_rows G h7 n8 p9 a3 p16
| 3 => F_X6_rows G h7 n8 p9 a3 p16
| 4 => F_X6_rows G h7 n8 p9 a3 p16
| 6 => F_X6_rows G h7 n8 p9 a3 p16
| 8 => F_X6_rows G h7 n8 p9 a3 p16
| 10 => F_X10_rows G h7 n8 p9 a3 p16
| _ => none)) (fun r17 h18 n19 =>
some (r17, h18, n19))))
else
if a2 = (nI 2) then
gfR h7 a0 [11] 6 (fun v20 =>
nn v20 (fun p21 =>
cl (ck h7 p9 [1, 2, 3, 4, 6, 8, 10] (fun c => match c with
| 1 => F_X1_ends G h7 n8 p9 a3 p21
| 2 => F_X3_ends G h7 n8 p9 a3 p21
| 3 => F_X3_ends G h7 n8 p9 a3 p21
| 4 => F_X6_ends G h7 n8 p9 a3 p21
| 6 => F_X6_ends G h7 n8 p9 a3 p21
| 8 => F_X6_ends G h7 n8 p9 a3 p21
| 10 => F_X6_ends G h7 n8 p9 a3 p21
| _ => none)) (fun r22 h23 n24 =>
some (r22, h23, n24))))
else
some ((nI 0), h7, n8)))))))))
set_option maxRecDepth 100000 in
set_option maxHeartbeats 4000000 in
theorem k_X11_act {G : Gx} {d : Nat} {h : Hp} {nx : Nat} {a0 : Nat} {a1 : Int32} {a2 : Int32} {a3 : Int32} {v' : Int32} {h' : Hp} {n' : Nat} (e : F_X11_act G h nx a0 a1 a2 a3 = some (v', h', n')) : Ct G mX11_act (d + 7) (Same (some (.int v')) h' n') [.ref a0, .int a1, .int a2, .int a3] h nx := by
  unfold F_X11_act at e
  refine Ct.of (ls := [some (.ref a0), some (.int a1), some (.int a2), some (.int a3), none]) (by decide +kernel) rfl (Nat.le_of_ble_eq_true rfl) rfl ?_
  refine Ok.aload_n dX11_act_0 rfl ?_
  refine X.rgfR fl_RX11_47 dX11_act_1 e (fun v1 e1 => ?_)
  clear e
  refine Ok.iconstV (v := (nI 0)) dX11_act_4 (by decide +kernel) ?_
  refine Ok.iconstV (v := (nI 0)) dX11_act_5 (by decide +kernel) ?_
  refine X.rnn e1 (fun p2 q e2 => ?_)
  clear e1
  subst q
  refine X.iast dX11_act_6 e2 (fun h3 e3 => ?_)
  clear e2
  refine Ok.aload_n dX11_act_7 rfl ?_
  refine X.rgfR fl_RX11_14 dX11_act_8 e3 (fun v4 e4 => ?_)
  clear e3
  refine Ok.iload_n dX11_act_11 rfl ?_
  refine X.rnn e4 (fun p5 q e5 => ?_)
  clear e4
  subst q
  refine X.rck e5 (fun c fs hb hc e6 => ?_)
  clear e5
  obtain rfl := List.mem_singleton.mp hc
  refine X.callV (My := mX0_planAt) (n := 1) (As := [.int a1]) (T := (fun v => (some (va_rf v)))) (stk' := (fun v => [va_rf v])) (rest := []) (kc' := 0) (ks' := 0) dX11_act_12 e6 (fun v h n e => k_X0_planAt (d := d + 6) e) hb rfl wd715 wd77 wd713 wd714 wd712 (by decide +kernel) rfl (by decide) rfl rfl (Nat.le_of_ble_eq_true rfl) (Nat.le_of_ble_eq_true rfl) (Nat.le_of_ble_eq_true rfl) rfl rfl (fun _ => rfl) (fun r6 h7 n8 e7 => ?_)
  clear e6
  refine XL.astoreQ (r := r6) dX11_act_15 (by decide) (L := [some (.ref a0), some (.int a1), some (.int a2), some (.int a3), some (va_rf r6)]) rfl ?_
  refine Ok.aloadQ dX11_act_17 rfl ?_
  refine X.ifnonnull (tgt := 24) dX11_act_19 (by decide) e7 (fun q e8 => ?_) (fun p9 q e8 => ?_)
  · clear e7
    subst q
    refine Ok.iconstV (v := (nI 0)) dX11_act_22 (by decide +kernel) ?_
    exact X.iret dX11_act_23 rfl (Nat.le_of_ble_eq_true rfl) (Nat.le_of_ble_eq_true rfl) e8
  · clear e7
    subst q
    refine Ok.iload_n dX11_act_24 rfl ?_
    refine X.sw e8 (fun c0 e9 => ?_) (fun c0 e9 => ?_)
    · clear e8
      rw [c0]
      refine Ok.tableIn (off := 27) (tgt := 52) dX11_act_25 (by decide) (by decide) (by decide +kernel) (by decide) ?_
      refine Ok.aload dX11_act_52 rfl ?_
      refine Ok.iload_n dX11_act_54 rfl ?_
      refine Ok.aload_n dX11_act_55 rfl ?_
      refine X.rgfR fl_RX11_47 dX11_act_56 e9 (fun v10 e10 => ?_)
      clear e9
      refine X.rnn e10 (fun p11 q e11 => ?_)
      clear e10
      subst q
      refine X.callC (n := 2) (As := [.int a3, .ref p11]) (T := (fun v => (some (.int v)))) (stk' := (fun v => [.int v])) (rest := []) dX11_act_59 (Nat.le_of_ble_eq_true rfl) e11 (fun c hc => ?_) rfl rfl (Nat.le_of_ble_eq_true rfl) (Nat.le_of_ble_eq_true rfl) (fun _ => rfl) (fun r12 h13 n14 e12 => ?_)
      · simp only [List.mem_cons, List.not_mem_nil, or_false] at hc
        rcases hc with rfl | rfl | rfl | rfl | rfl | rfl | rfl
        · exact ⟨mX6_means, vu_RX11_253_1, fun v h n e12 => k_X6_means (d := d + 5) e12⟩
        · exact ⟨mX6_means, vu_RX11_253_2, fun v h n e12 => k_X6_means (d := d + 5) e12⟩
        · exact ⟨mX6_means, vu_RX11_253_3, fun v h n e12 => k_X6_means (d := d + 5) e12⟩
        · exact ⟨mX4_means, vu_RX11_253_4, fun v h n e12 => k_X4_means (d := d + 4) e12⟩
        · exact ⟨mX6_means, vu_RX11_253_6, fun v h n e12 => k_X6_means (d := d + 5) e12⟩
        · exact ⟨mX8_means, vu_RX11_253_8, fun v h n e12 => k_X8_means (d := d + 4) e12⟩
        · exact ⟨mX6_means, vu_RX11_253_10, fun v h n e12 => k_X6_means (d := d + 5) e12⟩
      clear e11
      exact X.iret dX11_act_62 rfl (Nat.le_of_ble_eq_true rfl) (Nat.le_of_ble_eq_true rfl) e12
    refine X.sw e9 (fun c1 e10 => ?_) (fun c1 e10 => ?_)
    · clear e9
      rw [c1]
      refine Ok.tableIn (off := 38) (tgt := 63) dX11_act_25 (by decide) (by decide) (by decide +kernel) (by decide) ?_
      refine Ok.aload dX11_act_63 rfl ?_
      refine Ok.iload_n dX11_act_65 rfl ?_
      refine Ok.aload_n dX11_act_66 rfl ?_
      refine X.rgfR fl_RX11_47 dX11_act_67 e10 (fun v15 e11 => ?_)
      clear e10
      refine X.rnn e11 (fun p16 q e12 => ?_)
      clear e11
      subst q
      refine X.callC (n := 2) (As := [.int a3, .ref p16]) (T := (fun v => (some (.int v)))) (stk' := (fun v => [.int v])) (rest := []) dX11_act_70 (Nat.le_of_ble_eq_true rfl) e12 (fun c hc => ?_) rfl rfl (Nat.le_of_ble_eq_true rfl) (Nat.le_of_ble_eq_true rfl) (fun _ => rfl) (fun r17 h18 n19 e13 => ?_)
      · simp only [List.mem_cons, List.not_mem_nil, or_false] at hc
        rcases hc with rfl | rfl | rfl | rfl | rfl | rfl | rfl
        · exact ⟨mX10_rows, vu_RX11_257_1, fun v h n e13 => k_X10_rows (d := d + 2) e13⟩
        · exact ⟨mX2_rows, vu_RX11_257_2, fun v h n e13 => k_X2_rows (d := d + 2) e13⟩
        · exact ⟨mX6_rows, vu_RX11_257_3, fun v h n e13 => k_X6_rows (d := d + 3) e13⟩
        · exact ⟨mX6_rows, vu_RX11_257_4, fun v h n e13 => k_X6_rows (d := d + 3) e13⟩
        · exact ⟨mX6_rows, vu_RX11_257_6, fun v h n e13 => k_X6_rows (d := d + 3) e13⟩
        · exact ⟨mX6_rows, vu_RX11_257_8, fun v h n e13 => k_X6_rows (d := d + 3) e13⟩
        · exact ⟨mX10_rows, vu_RX11_257_10, fun v h n e13 => k_X10_rows (d := d + 2) e13⟩
      clear e12
      exact X.iret dX11_act_73 rfl (Nat.le_of_ble_eq_true rfl) (Nat.le_of_ble_eq_true rfl) e13
    refine X.sw e10 (fun c2 e11 => ?_) (fun c2 e11 => ?_)
    · clear e10
      rw [c2]
      refine Ok.tableIn (off := 49) (tgt := 74) dX11_act_25 (by decide) (by decide) (by decide +kernel) (by decide) ?_
      refine Ok.aload dX11_act_74 rfl ?_
      refine Ok.iload_n dX11_act_76 rfl ?_
      refine Ok.aload_n dX11_act_77 rfl ?_
      refine X.rgfR fl_RX11_47 dX11_act_78 e11 (fun v20 e12 => ?_)
      clear e11
      refine X.rnn e12 (fun p21 q e13 => ?_)
      clear e12
      subst q
      refine X.callC (n := 2) (As := [.int a3, .ref p21]) (T := (fun v => (some (.int v)))) (stk' := (fun v => [.int v])) (rest := []) dX11_act_81 (Nat.le_of_ble_eq_true rfl) e13 (fun c hc => ?_) rfl rfl (Nat.le_of_ble_eq_true rfl) (Nat.le_of_ble_eq_true rfl) (fun _ => rfl) (fun r22 h23 n24 e14 => ?_)
      · simp only [List.mem_cons, List.not_mem_nil, or_false] at hc
        rcases hc with rfl | rfl | rfl | rfl | rfl | rfl | rfl
        · exact ⟨mX1_ends, vu_RX11_259_1, fun v h n e14 => k_X1_ends (d := d + 0) e14⟩
        · exact ⟨mX3_ends, vu_RX11_259_2, fun v h n e14 => k_X3_ends (d := d + 0) e14⟩
        · exact ⟨mX3_ends, vu_RX11_259_3, fun v h n e14 => k_X3_ends (d := d + 0) e14⟩
        · exact ⟨mX6_ends, vu_RX11_259_4, fun v h n e14 => k_X6_ends (d := d + 1) e14⟩
        · exact ⟨mX6_ends, vu_RX11_259_6, fun v h n e14 => k_X6_ends (d := d + 1) e14⟩
        · exact ⟨mX6_ends, vu_RX11_259_8, fun v h n e14 => k_X6_ends (d := d + 1) e14⟩
        · exact ⟨mX6_ends, vu_RX11_259_10, fun v h n e14 => k_X6_ends (d := d + 1) e14⟩
      clear e13
      exact X.iret dX11_act_84 rfl (Nat.le_of_ble_eq_true rfl) (Nat.le_of_ble_eq_true rfl) e14
    refine Ok.tableOut (tgt := 85) dX11_act_25 (sw_out 0 3 (fun i hi => match i, hi with | 0, _ => c0 | 1, _ => c1 | 2, _ => c2 | _ + 3, q => absurd q (by omega))) (by decide) ?_
    refine Ok.iconstV (v := (nI 0)) dX11_act_85 (by decide +kernel) ?_
    exact X.iret dX11_act_86 rfl (Nat.le_of_ble_eq_true rfl) (Nat.le_of_ble_eq_true rfl) e11
noncomputable def F_X11_trace_33 (G : Gx) (h : Hp) (nx : Nat) (s0 : Int32) : Rz Int32 :=
some (s0, h, nx)
set_option maxRecDepth 100000 in
set_option maxHeartbeats 4000000 in
theorem k_X11_trace_33 {G : Gx} {d : Nat} {v' : Int32} {h' : Hp} {n' : Nat} {h : Hp} {nx : Nat} {s0 : Int32} (e : F_X11_trace_33 G h nx s0 = some (v', h', n')) : Ok G mX11_trace (d + 1) (Same (some (.int v')) h' n') 33 [none, none] [.int s0] h nx 0 0 := by
  unfold F_X11_trace_33 at e
  exact X.iret dX11_trace_33 rfl (Nat.le_of_ble_eq_true rfl) (Nat.le_of_ble_eq_true rfl) e
noncomputable def F_X11_trace (G : Gx) (h : Hp) (nx : Nat) (a0 : Nat) (a1 : Int32) : Rz Int32 :=
gfR h a0 [11] 6 (fun v1 =>
nn v1 (fun p2 =>
alI (g_c G 0) h p2 (nI 0) (fun v3 =>
cl (F_X11_within G h nx a1 (nI 0) (((mnI v3 (nI 20)) - (nI 1)))) (fun r4 h5 n6 =>
if r4 = 0 then
(F_X11_trace_33 G h5 n6 (-1 : Int32))
else
gfR h5 a0 [11] 6 (fun v7 =>
nn v7 (fun p8 =>
alI (g_c G 0) h5 p8 (((nI 1) + a1)) (fun v9 =>
(F_X11_trace_33 G h5 n6 v9))))))))
set_option maxRecDepth 100000 in
set_option maxHeartbeats 4000000 in
theorem k_X11_trace {G : Gx} {d : Nat} {h : Hp} {nx : Nat} {a0 : Nat} {a1 : Int32} {v' : Int32} {h' : Hp} {n' : Nat} (e : F_X11_trace G h nx a0 a1 = some (v', h', n')) : Ct G mX11_trace (d + 1) (Same (some (.int v')) h' n') [.ref a0, .int a1] h nx := by
  unfold F_X11_trace at e
  refine Ct.of (ls := [some (.ref a0), some (.int a1)]) (by decide +kernel) rfl (Nat.le_of_ble_eq_true rfl) rfl ?_
  refine Ok.iload_n dX11_trace_0 rfl ?_
  refine Ok.iconstV (v := (nI 0)) dX11_trace_1 (by decide +kernel) ?_
  refine Ok.aload_n dX11_trace_2 rfl ?_
  refine X.rgfR fl_RX11_47 dX11_trace_3 e (fun v1 e1 => ?_)
  clear e
  refine Ok.iconstV (v := (nI 0)) dX11_trace_6 (by decide +kernel) ?_
  refine X.rnn e1 (fun p2 q e2 => ?_)
  clear e1
  subst q
  refine X.iald dX11_trace_7 e2 (fun v3 e3 => ?_)
  clear e2
  refine Ok.bipushV (v := (nI 20)) dX11_trace_8 (by decide +kernel) ?_
  refine Ok.mminI dX11_trace_10 wd1053 wd343 wd83 wd344 (Nat.le_of_ble_eq_true rfl) (Nat.le_of_ble_eq_true rfl) (Nat.le_of_ble_eq_true rfl) ?_
  refine Ok.iconstV (v := (nI 1)) dX11_trace_13 (by decide +kernel) ?_
  refine Ok.isub dX11_trace_14 ?_
  refine X.callS (My := mX11_within) (n := 3) (As := [.int a1, .int (nI 0), .int (((mnI v3 (nI 20)) - (nI 1)))]) (T := (fun v => (some (.int v)))) (stk' := (fun v => [.int v])) (rest := []) (kc' := 0) (ks' := 0) dX11_trace_15 e3 (fun v h n e => k_X11_within (d := d + 0) e) wd495 wd76 wd494 wd493 (by decide +kernel) rfl (by decide) rfl rfl (Nat.le_of_ble_eq_true rfl) (Nat.le_of_ble_eq_true rfl) (Nat.le_of_ble_eq_true rfl) rfl rfl (fun _ => rfl) (fun r4 h5 n6 e4 => ?_)
  clear e3
  refine X.if_eq (tgt := 32) dX11_trace_18 (by decide) e4 (fun e5 => ?_) (fun e5 => ?_)
  · clear e4
    refine Ok.iconstV (v := (-1 : Int32)) dX11_trace_32 (by decide +kernel) ?_
    exact Ok.weakL (k_X11_trace_33 (d := d) e5) trivial
  · clear e4
    refine Ok.aload_n dX11_trace_21 rfl ?_
    refine X.rgfR fl_RX11_47 dX11_trace_22 e5 (fun v7 e6 => ?_)
    clear e5
    refine Ok.iconstV (v := (nI 1)) dX11_trace_25 (by decide +kernel) ?_
    refine Ok.iload_n dX11_trace_26 rfl ?_
    refine Ok.iadd dX11_trace_27 ?_
    refine X.rnn e6 (fun p8 q e7 => ?_)
    clear e6
    subst q
    refine X.iald dX11_trace_28 e7 (fun v9 e8 => ?_)
    clear e7
    refine Ok.goto (tgt := 33) dX11_trace_29 (by decide) ?_
    exact Ok.weakL (k_X11_trace_33 (d := d) e8) trivial
noncomputable def F_X11_isOfKind (G : Gx) (h : Hp) (nx : Nat) (a0 : Nat) (a1 : Int32) : Rz Int32 :=
if a1 = (nI 1) then
inC h a0 [1, 2, 3, 4, 6, 8, 10] [4] (fun v1 =>
zk v1 (some (v1, h, nx)))
else
if a1 = (nI 2) then
inC h a0 [1, 2, 3, 4, 6, 8, 10] [1, 10] (fun v2 =>
zk v2 (some (v2, h, nx)))
else
if a1 = (nI 3) then
inC h a0 [1, 2, 3, 4, 6, 8, 10] [2, 3] (fun v3 =>
zk v3 (some (v3, h, nx)))
else
if a1 = (nI 4) then
inC h a0 [1, 2, 3, 4, 6, 8, 10] [1] (fun v4 =>
zk v4 (some (v4, h, nx)))
else
if a1 = (nI 5) then
inC h a0 [1, 2, 3, 4, 6, 8, 10] [2] (fun v5 =>
zk v5 (some (v5, h, nx)))
else
if a1 = (nI 6) then
inC h a0 [1, 2, 3, 4, 6, 8, 10] [8] (fun v6 =>
zk v6 (some (v6, h, nx)))
else
zk (nI 1) (some ((nI 1), h, nx))
set_option maxRecDepth 100000 in
set_option maxHeartbeats 4000000 in
theorem k_X11_isOfKind {G : Gx} {d : Nat} {h : Hp} {nx : Nat} {a0 : Nat} {a1 : Int32} {v' : Int32} {h' : Hp} {n' : Nat} (e : F_X11_isOfKind G h nx a0 a1 = some (v', h', n')) : Ct G mX11_isOfKind (d + 0) (Same (some (.int v')) h' n') [.ref a0, .int a1] h nx := by
  unfold F_X11_isOfKind at e
  refine Ct.of (ls := [some (.ref a0), some (.int a1)]) (by decide +kernel) rfl (Nat.le_of_ble_eq_true rfl) rfl ?_
  refine Ok.iload_n dX11_isOfKind_0 rfl ?_
  refine X.sw e (fun c0 e1 => ?_) (fun c0 e1 => ?_)
  · clear e
    rw [c0]
    refine Ok.tableIn (off := 39) (tgt := 40) dX11_isOfKind_1 (by decide) (by decide) (by decide +kernel) (by decide) ?_
    refine Ok.aload_n dX11_isOfKind_40 rfl ?_
    refine X.rinC dX11_isOfKind_41 fi_RX11_276 e1 (fun v1 e2 => ?_)
    clear e1
    exact X.zret dX11_isOfKind_44 rfl (Nat.le_of_ble_eq_true rfl) (Nat.le_of_ble_eq_true rfl) e2
  refine X.sw e1 (fun c1 e2 => ?_) (fun c1 e2 => ?_)
  · clear e1
    rw [c1]
    refine Ok.tableIn (off := 44) (tgt := 45) dX11_isOfKind_1 (by decide) (by decide) (by decide +kernel) (by decide) ?_
    refine Ok.aload_n dX11_isOfKind_45 rfl ?_
    refine X.rinC dX11_isOfKind_46 fi_RX11_281 e2 (fun v2 e3 => ?_)
    clear e2
    exact X.zret dX11_isOfKind_49 rfl (Nat.le_of_ble_eq_true rfl) (Nat.le_of_ble_eq_true rfl) e3
  refine X.sw e2 (fun c2 e3 => ?_) (fun c2 e3 => ?_)
  · clear e2
    rw [c2]
    refine Ok.tableIn (off := 49) (tgt := 50) dX11_isOfKind_1 (by decide) (by decide) (by decide +kernel) (by decide) ?_
    refine Ok.aload_n dX11_isOfKind_50 rfl ?_
    refine X.rinC dX11_isOfKind_51 fi_RX11_284 e3 (fun v3 e4 => ?_)
    clear e3
    exact X.zret dX11_isOfKind_54 rfl (Nat.le_of_ble_eq_true rfl) (Nat.le_of_ble_eq_true rfl) e4
  refine X.sw e3 (fun c3 e4 => ?_) (fun c3 e4 => ?_)
  · clear e3
    rw [c3]
    refine Ok.tableIn (off := 54) (tgt := 55) dX11_isOfKind_1 (by decide) (by decide) (by decide +kernel) (by decide) ?_
    refine Ok.aload_n dX11_isOfKind_55 rfl ?_
    refine X.rinC dX11_isOfKind_56 fi_RX11_287 e4 (fun v4 e5 => ?_)
    clear e4
    exact X.zret dX11_isOfKind_59 rfl (Nat.le_of_ble_eq_true rfl) (Nat.le_of_ble_eq_true rfl) e5
  refine X.sw e4 (fun c4 e5 => ?_) (fun c4 e5 => ?_)
  · clear e4
    rw [c4]
    refine Ok.tableIn (off := 59) (tgt := 60) dX11_isOfKind_1 (by decide) (by decide) (by decide +kernel) (by decide) ?_
    refine Ok.aload_n dX11_isOfKind_60 rfl ?_
    refine X.rinC dX11_isOfKind_61 fi_RX11_290 e5 (fun v5 e6 => ?_)
    clear e5
    exact X.zret dX11_isOfKind_64 rfl (Nat.le_of_ble_eq_true rfl) (Nat.le_of_ble_eq_true rfl) e6
  refine X.sw e5 (fun c5 e6 => ?_) (fun c5 e6 => ?_)
  · clear e5
    rw [c5]
    refine Ok.tableIn (off := 64) (tgt := 65) dX11_isOfKind_1 (by decide) (by decide) (by decide +kernel) (by decide) ?_
    refine Ok.aload_n dX11_isOfKind_65 rfl ?_
    refine X.rinC dX11_isOfKind_66 fi_RX11_172 e6 (fun v6 e7 => ?_)
    clear e6
    exact X.zret dX11_isOfKind_69 rfl (Nat.le_of_ble_eq_true rfl) (Nat.le_of_ble_eq_true rfl) e7
  refine Ok.tableOut (tgt := 70) dX11_isOfKind_1 (sw_out 1 6 (fun i hi => match i, hi with | 0, _ => c0 | 1, _ => c1 | 2, _ => c2 | 3, _ => c3 | 4, _ => c4 | 5, _ => c5 | _ + 6, q => absurd q (by omega))) (by decide) ?_
  refine Ok.iconstV (v := (nI 1)) dX11_isOfKind_70 (by decide +kernel) ?_
  exact X.zret dX11_isOfKind_71 rfl (Nat.le_of_ble_eq_true rfl) (Nat.le_of_ble_eq_true rfl) e6
noncomputable def F_X11_as_23 (G : Gx) (h : Hp) (nx : Nat) : Rz Int32 :=
some ((-1 : Int32), h, nx)
set_option maxRecDepth 100000 in
set_option maxHeartbeats 4000000 in
theorem k_X11_as_23 {G : Gx} {d : Nat} {v' : Int32} {h' : Hp} {n' : Nat} {h : Hp} {nx : Nat} (e : F_X11_as_23 G h nx = some (v', h', n')) : Ok G mX11_as (d + 1) (Same (some (.int v')) h' n') 23 [none, none, none, none] [] h nx 0 0 := by
  unfold F_X11_as_23 at e
  refine Ok.iconstV (v := (-1 : Int32)) dX11_as_23 (by decide +kernel) ?_
  exact X.iret dX11_as_24 rfl (Nat.le_of_ble_eq_true rfl) (Nat.le_of_ble_eq_true rfl) e
noncomputable def F_X11_as_42 (G : Gx) (h : Hp) (nx : Nat) (s0 : Int32) : Rz Int32 :=
some (s0, h, nx)
set_option maxRecDepth 100000 in
set_option maxHeartbeats 4000000 in
theorem k_X11_as_42 {G : Gx} {d : Nat} {v' : Int32} {h' : Hp} {n' : Nat} {h : Hp} {nx : Nat} {s0 : Int32} (e : F_X11_as_42 G h nx s0 = some (v', h', n')) : Ok G mX11_as (d + 1) (Same (some (.int v')) h' n') 42 [none, none, none, none] [.int s0] h nx 0 0 := by
  unfold F_X11_as_42 at e
  exact X.iret dX11_as_42 rfl (Nat.le_of_ble_eq_true rfl) (Nat.le_of_ble_eq_true rfl) e
noncomputable def F_X11_as (G : Gx) (h : Hp) (nx : Nat) (a0 : Nat) (a1 : Int32) (a2 : Int32) : Rz Int32 :=
gfR h a0 [11] 0 (fun v1 =>
nn v1 (fun p2 =>
ck h p2 [0] (fun _ =>
cl (F_X0_planAt G h nx p2 a1) (fun r3 h4 n5 =>
qn r3 ((F_X11_as_23 G h4 n5)) (fun p6 =>
cl (F_X11_within G h4 n5 a2 (nI 0) (nI 6)) (fun r7 h8 n9 =>
if r7 = 0 then
(F_X11_as_23 G h8 n9)
else
cl (F_X11_isOfKind G h8 n9 p6 a2) (fun r10 h11 n12 =>
if r10 = 0 then
(F_X11_as_42 G h11 n12 (-6 : Int32))
else
gfI h11 p6 [1, 2, 3, 4, 6, 8, 10] 1 (fun v13 =>
(F_X11_as_42 G h11 n12 v13)))))))))
set_option maxRecDepth 100000 in
set_option maxHeartbeats 4000000 in
theorem k_X11_as {G : Gx} {d : Nat} {h : Hp} {nx : Nat} {a0 : Nat} {a1 : Int32} {a2 : Int32} {v' : Int32} {h' : Hp} {n' : Nat} (e : F_X11_as G h nx a0 a1 a2 = some (v', h', n')) : Ct G mX11_as (d + 1) (Same (some (.int v')) h' n') [.ref a0, .int a1, .int a2] h nx := by
  unfold F_X11_as at e
  refine Ct.of (ls := [some (.ref a0), some (.int a1), some (.int a2), none]) (by decide +kernel) rfl (Nat.le_of_ble_eq_true rfl) rfl ?_
  refine Ok.aload_n dX11_as_0 rfl ?_
  refine X.rgfR fl_RX11_14 dX11_as_1 e (fun v1 e1 => ?_)
  clear e
  refine Ok.iload_n dX11_as_4 rfl ?_
  refine X.rnn e1 (fun p2 q e2 => ?_)
  clear e1
  subst q
  refine X.rck e2 (fun c fs hb hc e3 => ?_)
  clear e2
  obtain rfl := List.mem_singleton.mp hc
  refine X.callV (My := mX0_planAt) (n := 1) (As := [.int a1]) (T := (fun v => (some (va_rf v)))) (stk' := (fun v => [va_rf v])) (rest := []) (kc' := 0) (ks' := 0) dX11_as_5 e3 (fun v h n e => k_X0_planAt (d := d + 0) e) hb rfl wd715 wd77 wd713 wd714 wd712 (by decide +kernel) rfl (by decide) rfl rfl (Nat.le_of_ble_eq_true rfl) (Nat.le_of_ble_eq_true rfl) (Nat.le_of_ble_eq_true rfl) rfl rfl (fun _ => rfl) (fun r3 h4 n5 e4 => ?_)
  clear e3
  refine XL.astore_nQ (r := r3) dX11_as_8 (by decide) (L := [some (.ref a0), some (.int a1), some (.int a2), some (va_rf r3)]) rfl ?_
  refine Ok.aload_nQ dX11_as_9 rfl ?_
  refine X.ifnull (tgt := 23) dX11_as_10 (by decide) e4 (fun q e5 => ?_) (fun p6 q e5 => ?_)
  · clear e4
    subst q
    exact Ok.weakL (k_X11_as_23 (d := d) e5) trivial
  · clear e4
    subst q
    refine Ok.iload_n dX11_as_13 rfl ?_
    refine Ok.iconstV (v := (nI 0)) dX11_as_14 (by decide +kernel) ?_
    refine Ok.bipushV (v := (nI 6)) dX11_as_15 (by decide +kernel) ?_
    refine X.callS (My := mX11_within) (n := 3) (As := [.int a2, .int (nI 0), .int (nI 6)]) (T := (fun v => (some (.int v)))) (stk' := (fun v => [.int v])) (rest := []) (kc' := 0) (ks' := 0) dX11_as_17 e5 (fun v h n e => k_X11_within (d := d + 0) e) wd495 wd76 wd494 wd493 (by decide +kernel) rfl (by decide) rfl rfl (Nat.le_of_ble_eq_true rfl) (Nat.le_of_ble_eq_true rfl) (Nat.le_of_ble_eq_true rfl) rfl rfl (fun _ => rfl) (fun r7 h8 n9 e6 => ?_)
    clear e5
    refine X.if_ne (tgt := 25) dX11_as_20 (by decide) e6 (fun e7 => ?_) (fun e7 => ?_)
    · clear e6
      refine Ok.aload_n dX11_as_25 rfl ?_
      refine Ok.iload_n dX11_as_26 rfl ?_
      refine X.callS (My := mX11_isOfKind) (n := 2) (As := [.ref p6, .int a2]) (T := (fun v => (some (.int v)))) (stk' := (fun v => [.int v])) (rest := []) (kc' := 0) (ks' := 0) dX11_as_27 e7 (fun v h n e => k_X11_isOfKind (d := d + 0) e) wd1060 wd76 wd1059 wd1058 (by decide +kernel) rfl (by decide) rfl rfl (Nat.le_of_ble_eq_true rfl) (Nat.le_of_ble_eq_true rfl) (Nat.le_of_ble_eq_true rfl) rfl rfl (fun _ => rfl) (fun r10 h11 n12 e8 => ?_)
      clear e7
      refine X.if_eq (tgt := 40) dX11_as_30 (by decide) e8 (fun e9 => ?_) (fun e9 => ?_)
      · clear e8
        refine Ok.bipushV (v := (-6 : Int32)) dX11_as_40 (by decide +kernel) ?_
        exact Ok.weakL (k_X11_as_42 (d := d) e9) trivial
      · clear e8
        refine Ok.aload_n dX11_as_33 rfl ?_
        refine X.rgfI fl_RX11_268 dX11_as_34 e9 (fun v13 e10 => ?_)
        clear e9
        refine Ok.goto (tgt := 42) dX11_as_37 (by decide) ?_
        exact Ok.weakL (k_X11_as_42 (d := d) e10) trivial
    · clear e6
      exact Ok.weakL (k_X11_as_23 (d := d) e7) trivial
noncomputable def F_X11_image (G : Gx) (h : Hp) (nx : Nat) (a0 : Nat) : Rz Int32 :=
gfR h a0 [11] 1 (fun v1 =>
gfR h a0 [11] 0 (fun v2 =>
nn v2 (fun p3 =>
nn v1 (fun p4 =>
ck h p4 [0] (fun _ =>
cl (F_X0_copyFrom G h nx p4 p3) (fun _ h6 n7 =>
zk (nI 1) (
pfV h6 a0 [11] 2 (.int (nI 1)) (fun h8 =>
gfR h8 a0 [11] 0 (fun v9 =>
nn v9 (fun p10 =>
gfI h8 p10 [0] 16 (fun v11 =>
some (v11, h8, n7))))))))))))
set_option maxRecDepth 100000 in
set_option maxHeartbeats 4000000 in
theorem k_X11_image {G : Gx} {d : Nat} {h : Hp} {nx : Nat} {a0 : Nat} {v' : Int32} {h' : Hp} {n' : Nat} (e : F_X11_image G h nx a0 = some (v', h', n')) : Ct G mX11_image (d + 2) (Same (some (.int v')) h' n') [.ref a0] h nx := by
  unfold F_X11_image at e
  refine Ct.of (ls := [some (.ref a0)]) (by decide +kernel) rfl (Nat.le_of_ble_eq_true rfl) rfl ?_
  refine Ok.aload_n dX11_image_0 rfl ?_
  refine X.rgfR fl_RX11_18 dX11_image_1 e (fun v1 e1 => ?_)
  clear e
  refine Ok.aload_n dX11_image_4 rfl ?_
  refine X.rgfR fl_RX11_14 dX11_image_5 e1 (fun v2 e2 => ?_)
  clear e1
  refine X.rnn e2 (fun p3 q e3 => ?_)
  clear e2
  subst q
  refine X.rnn e3 (fun p4 q e4 => ?_)
  clear e3
  subst q
  refine X.rck e4 (fun c fs hb hc e5 => ?_)
  clear e4
  obtain rfl := List.mem_singleton.mp hc
  refine X.callV (My := mX0_copyFrom) (n := 1) (As := [.ref p3]) (T := (fun v => none)) (stk' := (fun _ => [])) (rest := []) (kc' := 0) (ks' := 0) dX11_image_8 e5 (fun v h n e => k_X0_copyFrom (d := d + 0) e) hb rfl wd1068 wd77 wd1066 wd1067 wd1065 (by decide +kernel) rfl (by decide) rfl rfl (Nat.le_of_ble_eq_true rfl) (Nat.le_of_ble_eq_true rfl) (Nat.le_of_ble_eq_true rfl) rfl rfl (fun _ => rfl) (fun _ h6 n7 e6 => ?_)
  clear e5
  refine Ok.aload_n dX11_image_11 rfl ?_
  refine Ok.iconstV (v := (nI 1)) dX11_image_12 (by decide +kernel) ?_
  refine X.rzk e6 (fun z e7 => ?_)
  clear e6
  refine X.rpfV (v := (.int (nI 1))) fp_RX11_21 (nar_z z) (fits_z z) dX11_image_13 e7 (fun h8 e8 => ?_)
  clear e7
  refine Ok.aload_n dX11_image_16 rfl ?_
  refine X.rgfR fl_RX11_14 dX11_image_17 e8 (fun v9 e9 => ?_)
  clear e8
  refine X.rnn e9 (fun p10 q e10 => ?_)
  clear e9
  subst q
  refine X.rgfI fl_RX11_114 dX11_image_20 e10 (fun v11 e11 => ?_)
  clear e10
  exact X.iret dX11_image_23 rfl (Nat.le_of_ble_eq_true rfl) (Nat.le_of_ble_eq_true rfl) e11
noncomputable def F_X11_undo (G : Gx) (h : Hp) (nx : Nat) (a0 : Nat) : Rz Int32 :=
gfI h a0 [11] 2 (fun v1 =>
if v1 = 0 then
some ((-3 : Int32), h, nx)
else
gfR h a0 [11] 0 (fun v2 =>
gfR h a0 [11] 1 (fun v3 =>
nn v3 (fun p4 =>
nn v2 (fun p5 =>
ck h p5 [0] (fun _ =>
cl (F_X0_copyFrom G h nx p5 p4) (fun _ h7 n8 =>
gfR h7 a0 [11] 0 (fun v9 =>
nn v9 (fun p10 =>
gfI h7 p10 [0] 16 (fun v11 =>
some (v11, h7, n8)))))))))))
set_option maxRecDepth 100000 in
set_option maxHeartbeats 4000000 in
theorem k_X11_undo {G : Gx} {d : Nat} {h : Hp} {nx : Nat} {a0 : Nat} {v' : Int32} {h' : Hp} {n' : Nat} (e : F_X11_undo G h nx a0 = some (v', h', n')) : Ct G mX11_undo (d + 2) (Same (some (.int v')) h' n') [.ref a0] h nx := by
  unfold F_X11_undo at e
  refine Ct.of (ls := [some (.ref a0)]) (by decide +kernel) rfl (Nat.le_of_ble_eq_true rfl) rfl ?_
  refine Ok.aload_n dX11_undo_0 rfl ?_
  refine X.rgfI fl_RX11_21 dX11_undo_1 e (fun v1 e1 => ?_)
  clear e
  refine X.if_ne (tgt := 10) dX11_undo_4 (by decide) e1 (fun e2 => ?_) (fun e2 => ?_)
  · clear e1
    refine Ok.aload_n dX11_undo_10 rfl ?_
    refine X.rgfR fl_RX11_14 dX11_undo_11 e2 (fun v2 e3 => ?_)
    clear e2
    refine Ok.aload_n dX11_undo_14 rfl ?_
    refine X.rgfR fl_RX11_18 dX11_undo_15 e3 (fun v3 e4 => ?_)
    clear e3
    refine X.rnn e4 (fun p4 q e5 => ?_)
    clear e4
    subst q
    refine X.rnn e5 (fun p5 q e6 => ?_)
    clear e5
    subst q
    refine X.rck e6 (fun c fs hb hc e7 => ?_)
    clear e6
    obtain rfl := List.mem_singleton.mp hc
    refine X.callV (My := mX0_copyFrom) (n := 1) (As := [.ref p4]) (T := (fun v => none)) (stk' := (fun _ => [])) (rest := []) (kc' := 0) (ks' := 0) dX11_undo_18 e7 (fun v h n e => k_X0_copyFrom (d := d + 0) e) hb rfl wd1068 wd77 wd1066 wd1067 wd1065 (by decide +kernel) rfl (by decide) rfl rfl (Nat.le_of_ble_eq_true rfl) (Nat.le_of_ble_eq_true rfl) (Nat.le_of_ble_eq_true rfl) rfl rfl (fun _ => rfl) (fun _ h7 n8 e8 => ?_)
    clear e7
    refine Ok.aload_n dX11_undo_21 rfl ?_
    refine X.rgfR fl_RX11_14 dX11_undo_22 e8 (fun v9 e9 => ?_)
    clear e8
    refine X.rnn e9 (fun p10 q e10 => ?_)
    clear e9
    subst q
    refine X.rgfI fl_RX11_114 dX11_undo_25 e10 (fun v11 e11 => ?_)
    clear e10
    exact X.iret dX11_undo_28 rfl (Nat.le_of_ble_eq_true rfl) (Nat.le_of_ble_eq_true rfl) e11
  · clear e1
    refine Ok.bipushV (v := (-3 : Int32)) dX11_undo_7 (by decide +kernel) ?_
    exact X.iret dX11_undo_9 rfl (Nat.le_of_ble_eq_true rfl) (Nat.le_of_ble_eq_true rfl) e2
noncomputable def F_X11_count (G : Gx) (h : Hp) (nx : Nat) (a0 : Nat) (a1 : Int32) : Rz Int32 :=
if a1 = (nI 0) then
gfR h a0 [11] 0 (fun v1 =>
nn v1 (fun p2 =>
gfI h p2 [0] 3 (fun v3 =>
some (v3, h, nx))))
else
if a1 = (nI 1) then
gfR h a0 [11] 0 (fun v4 =>
nn v4 (fun p5 =>
gfI h p5 [0] 11 (fun v6 =>
some (v6, h, nx))))
else
if a1 = (nI 2) then
gfR h a0 [11] 0 (fun v7 =>
nn v7 (fun p8 =>
gfI h p8 [0] 15 (fun v9 =>
some (v9, h, nx))))
else
if a1 = (nI 3) then
gfR h a0 [11] 0 (fun v10 =>
nn v10 (fun p11 =>
gfI h p11 [0] 16 (fun v12 =>
some (v12, h, nx))))
else
if a1 = (nI 4) then
gfR h a0 [11] 0 (fun v13 =>
nn v13 (fun p14 =>
gfI h p14 [0] 17 (fun v15 =>
some (v15, h, nx))))
else
if a1 = (nI 5) then
gfR h a0 [11] 0 (fun v16 =>
nn v16 (fun p17 =>
gfI h p17 [0] 1 (fun v18 =>
some (v18, h, nx))))
else
if a1 = (nI 6) then
gfR h a0 [11] 6 (fun v19 =>
nn v19 (fun p20 =>
alI (g_c G 0) h p20 (nI 0) (fun v21 =>
some (v21, h, nx))))
else
some ((-1 : Int32), h, nx)
set_option maxRecDepth 100000 in
set_option maxHeartbeats 4000000 in
theorem k_X11_count {G : Gx} {d : Nat} {h : Hp} {nx : Nat} {a0 : Nat} {a1 : Int32} {v' : Int32} {h' : Hp} {n' : Nat} (e : F_X11_count G h nx a0 a1 = some (v', h', n')) : Ct G mX11_count (d + 0) (Same (some (.int v')) h' n') [.ref a0, .int a1] h nx := by
  unfold F_X11_count at e
  refine Ct.of (ls := [some (.ref a0), some (.int a1)]) (by decide +kernel) rfl (Nat.le_of_ble_eq_true rfl) rfl ?_
  refine Ok.iload_n dX11_count_0 rfl ?_
  refine X.sw e (fun c0 e1 => ?_) (fun c0 e1 => ?_)
  · clear e
    rw [c0]
    refine Ok.tableIn (off := 43) (tgt := 44) dX11_count_1 (by decide) (by decide) (by decide +kernel) (by decide) ?_
    refine Ok.aload_n dX11_count_44 rfl ?_
    refine X.rgfR fl_RX11_14 dX11_count_45 e1 (fun v1 e2 => ?_)
    clear e1
    refine X.rnn e2 (fun p2 q e3 => ?_)
    clear e2
    subst q
    refine X.rgfI fl_RX11_58 dX11_count_48 e3 (fun v3 e4 => ?_)
    clear e3
    exact X.iret dX11_count_51 rfl (Nat.le_of_ble_eq_true rfl) (Nat.le_of_ble_eq_true rfl) e4
  refine X.sw e1 (fun c1 e2 => ?_) (fun c1 e2 => ?_)
  · clear e1
    rw [c1]
    refine Ok.tableIn (off := 51) (tgt := 52) dX11_count_1 (by decide) (by decide) (by decide +kernel) (by decide) ?_
    refine Ok.aload_n dX11_count_52 rfl ?_
    refine X.rgfR fl_RX11_14 dX11_count_53 e2 (fun v4 e3 => ?_)
    clear e2
    refine X.rnn e3 (fun p5 q e4 => ?_)
    clear e3
    subst q
    refine X.rgfI fl_RX11_85 dX11_count_56 e4 (fun v6 e5 => ?_)
    clear e4
    exact X.iret dX11_count_59 rfl (Nat.le_of_ble_eq_true rfl) (Nat.le_of_ble_eq_true rfl) e5
  refine X.sw e2 (fun c2 e3 => ?_) (fun c2 e3 => ?_)
  · clear e2
    rw [c2]
    refine Ok.tableIn (off := 59) (tgt := 60) dX11_count_1 (by decide) (by decide) (by decide +kernel) (by decide) ?_
    refine Ok.aload_n dX11_count_60 rfl ?_
    refine X.rgfR fl_RX11_14 dX11_count_61 e3 (fun v7 e4 => ?_)
    clear e3
    refine X.rnn e4 (fun p8 q e5 => ?_)
    clear e4
    subst q
    refine X.rgfI fl_RX11_157 dX11_count_64 e5 (fun v9 e6 => ?_)
    clear e5
    exact X.iret dX11_count_67 rfl (Nat.le_of_ble_eq_true rfl) (Nat.le_of_ble_eq_true rfl) e6
  refine X.sw e3 (fun c3 e4 => ?_) (fun c3 e4 => ?_)
  · clear e3
    rw [c3]
    refine Ok.tableIn (off := 67) (tgt := 68) dX11_count_1 (by decide) (by decide) (by decide +kernel) (by decide) ?_
    refine Ok.aload_n dX11_count_68 rfl ?_
    refine X.rgfR fl_RX11_14 dX11_count_69 e4 (fun v10 e5 => ?_)
    clear e4
    refine X.rnn e5 (fun p11 q e6 => ?_)
    clear e5
    subst q
    refine X.rgfI fl_RX11_114 dX11_count_72 e6 (fun v12 e7 => ?_)
    clear e6
    exact X.iret dX11_count_75 rfl (Nat.le_of_ble_eq_true rfl) (Nat.le_of_ble_eq_true rfl) e7
  refine X.sw e4 (fun c4 e5 => ?_) (fun c4 e5 => ?_)
  · clear e4
    rw [c4]
    refine Ok.tableIn (off := 75) (tgt := 76) dX11_count_1 (by decide) (by decide) (by decide +kernel) (by decide) ?_
    refine Ok.aload_n dX11_count_76 rfl ?_
    refine X.rgfR fl_RX11_14 dX11_count_77 e5 (fun v13 e6 => ?_)
    clear e5
    refine X.rnn e6 (fun p14 q e7 => ?_)
    clear e6
    subst q
    refine X.rgfI fl_RX11_154 dX11_count_80 e7 (fun v15 e8 => ?_)
    clear e7
    exact X.iret dX11_count_83 rfl (Nat.le_of_ble_eq_true rfl) (Nat.le_of_ble_eq_true rfl) e8
  refine X.sw e5 (fun c5 e6 => ?_) (fun c5 e6 => ?_)
  · clear e5
    rw [c5]
    refine Ok.tableIn (off := 83) (tgt := 84) dX11_count_1 (by decide) (by decide) (by decide +kernel) (by decide) ?_
    refine Ok.aload_n dX11_count_84 rfl ?_
    refine X.rgfR fl_RX11_14 dX11_count_85 e6 (fun v16 e7 => ?_)
    clear e6
    refine X.rnn e7 (fun p17 q e8 => ?_)
    clear e7
    subst q
    refine X.rgfI fl_RX11_50 dX11_count_88 e8 (fun v18 e9 => ?_)
    clear e8
    exact X.iret dX11_count_91 rfl (Nat.le_of_ble_eq_true rfl) (Nat.le_of_ble_eq_true rfl) e9
  refine X.sw e6 (fun c6 e7 => ?_) (fun c6 e7 => ?_)
  · clear e6
    rw [c6]
    refine Ok.tableIn (off := 91) (tgt := 92) dX11_count_1 (by decide) (by decide) (by decide +kernel) (by decide) ?_
    refine Ok.aload_n dX11_count_92 rfl ?_
    refine X.rgfR fl_RX11_47 dX11_count_93 e7 (fun v19 e8 => ?_)
    clear e7
    refine Ok.iconstV (v := (nI 0)) dX11_count_96 (by decide +kernel) ?_
    refine X.rnn e8 (fun p20 q e9 => ?_)
    clear e8
    subst q
    refine X.iald dX11_count_97 e9 (fun v21 e10 => ?_)
    clear e9
    exact X.iret dX11_count_98 rfl (Nat.le_of_ble_eq_true rfl) (Nat.le_of_ble_eq_true rfl) e10
  refine Ok.tableOut (tgt := 99) dX11_count_1 (sw_out 0 7 (fun i hi => match i, hi with | 0, _ => c0 | 1, _ => c1 | 2, _ => c2 | 3, _ => c3 | 4, _ => c4 | 5, _ => c5 | 6, _ => c6 | _ + 7, q => absurd q (by omega))) (by decide) ?_
  refine Ok.iconstV (v := (-1 : Int32)) dX11_count_99 (by decide +kernel) ?_
  exact X.iret dX11_count_100 rfl (Nat.le_of_ble_eq_true rfl) (Nat.le_of_ble_eq_true rfl) e7
