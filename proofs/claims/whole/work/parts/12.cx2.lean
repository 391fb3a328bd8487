noncomputable def F_X6_daysAhead (G : Gx) (h : Hp) (nx : Nat) (a0 : Nat) : Rz Int32 :=
some ((nI 0), h, nx)
set_option maxRecDepth 100000 in
set_option maxHeartbeats 4000000 in
theorem k_X6_daysAhead {G : Gx} {d : Nat} {h : Hp} {nx : Nat} {a0 : Nat} {v' : Int32} {h' : Hp} {n' : Nat} (e : F_X6_daysAhead G h nx a0 = some (v', h', n')) : Ct G mX6_daysAhead (d + 0) (Same (some (.int v')) h' n') [.ref a0] h nx := by
  unfold F_X6_daysAhead at e
  refine Ct.of (ls := [some (.ref a0)]) (by decide +kernel) rfl (Nat.le_of_ble_eq_true rfl) rfl ?_
  refine Ok.iconstV (v := (nI 0)) dX6_daysAhead_0 (by decide +kernel) ?_
  exact X.iret dX6_daysAhead_1 rfl (Nat.le_of_ble_eq_true rfl) (Nat.le_of_ble_eq_true rfl) e
noncomputable def F_X6_worthOf (G : Gx) (h : Hp) (nx : Nat) (a0 : Nat) (a1 : Nat) (a2 : Int32) (a3 : Int32) : Rz Int32 :=
some ((nI 0), h, nx)
set_option maxRecDepth 100000 in
set_option maxHeartbeats 4000000 in
theorem k_X6_worthOf {G : Gx} {d : Nat} {h : Hp} {nx : Nat} {a0 : Nat} {a1 : Nat} {a2 : Int32} {a3 : Int32} {v' : Int32} {h' : Hp} {n' : Nat} (e : F_X6_worthOf G h nx a0 a1 a2 a3 = some (v', h', n')) : Ct G mX6_worthOf (d + 0) (Same (some (.int v')) h' n') [.ref a0, .ref a1, .int a2, .int a3] h nx := by
  unfold F_X6_worthOf at e
  refine Ct.of (ls := [some (.ref a0), some (.ref a1), some (.int a2), some (.int a3)]) (by decide +kernel) rfl (Nat.le_of_ble_eq_true rfl) rfl ?_
  refine Ok.iconstV (v := (nI 0)) dX6_worthOf_0 (by decide +kernel) ?_
  exact X.iret dX6_worthOf_1 rfl (Nat.le_of_ble_eq_true rfl) (Nat.le_of_ble_eq_true rfl) e
noncomputable def F_X6_chosen_3 (G : Gx) : Nat → Hp → Nat → Nat → Nat → Nat → Int32 → Rz Int32 := fun n => Nat.rec (motive := fun _ => Hp → Nat → Nat → Nat → Nat → Int32 → Rz Int32) (fun _ _ _ _ _ _ => none) (fun _ k3 => fun h nx l0 l1 l2 l4 =>
gfR h l1 [5] 0 (fun v1 =>
nn v1 (fun p2 =>
gfI h p2 [0] 11 (fun v3 =>
if v3 ≤ l4 then
ck h l1 [5] (fun _ =>
cl (F_X5_worthiestSet G h nx l1) (fun r4 h5 n6 =>
some (r4, h5, n6)))
else
gfR h l1 [5] 5 (fun v7 =>
alI (g_c G 0) h l2 l4 (fun v8 =>
cl (ck h l0 [1, 2, 3, 4, 6, 8, 10] (fun c => match c with
| 1 => F_X6_worthOf G h nx l0 l1 l4 v8
| 2 => F_X2_worthOf G h nx l0 l1 l4 v8
| 3 => F_X3_worthOf G h nx l0 l1 l4 v8
| 4 => F_X4_worthOf G h nx l0 l1 l4 v8
| 6 => F_X6_worthOf G h nx l0 l1 l4 v8
| 8 => F_X6_worthOf G h nx l0 l1 l4 v8
| 10 => F_X6_worthOf G h nx l0 l1 l4 v8
| _ => none)) (fun r9 h10 n11 =>
nn v7 (fun p12 =>
asI (g_c G 0) id h10 p12 l4 r9 (fun h13 =>
nm (l4 + (nI 1)) (fun v14 =>
(k3 h13 n11 l0 l1 l2 v14))))))))))) n
theorem F_X6_chosen_3_0 {G : Gx} {h : Hp} {nx : Nat} {l0 : Nat} {l1 : Nat} {l2 : Nat} {l4 : Int32} : F_X6_chosen_3 G 0 h nx l0 l1 l2 l4 = none := rfl
theorem F_X6_chosen_3_s {G : Gx} {n : Nat} {h : Hp} {nx : Nat} {l0 : Nat} {l1 : Nat} {l2 : Nat} {l4 : Int32} : F_X6_chosen_3 G (n + 1) h nx l0 l1 l2 l4 = (
gfR h l1 [5] 0 (fun v1 =>
nn v1 (fun p2 =>
gfI h p2 [0] 11 (fun v3 =>
if v3 ≤ l4 then
ck h l1 [5] (fun _ =>
cl (F_X5_worthiestSet G h nx l1) (fun r4 h5 n6 =>
some (r4, h5, n6)))
else
gfR h l1 [5] 5 (fun v7 =>
alI (g_c G 0) h l2 l4 (fun v8 =>
cl (ck h l0 [1, 2, 3, 4, 6, 8, 10] (fun c => match c with
| 1 => F_X6_worthOf G h nx l0 l1 l4 v8
| 2 => F_X2_worthOf G h nx l0 l1 l4 v8
| 3 => F_X3_worthOf G h nx l0 l1 l4 v8
| 4 => F_X4_worthOf G h nx l0 l1 l4 v8
| 6 => F_X6_worthOf G h nx l0 l1 l4 v8
| 8 => F_X6_worthOf G h nx l0 l1 l4 v8
| 10 => F_X6_worthOf G h nx l0 l1 l4 v8
| _ => none)) (fun r9 h10 n11 =>
nn v7 (fun p12 =>
asI (g_c G 0) id h10 p12 l4 r9 (fun h13 =>
nm (l4 + (nI 1)) (fun v14 =>
((F_X6_chosen_3 G n) h13 n11 l0 l1 l2 v14))))))))))) := rfl
set_option maxRecDepth 100000 in
set_option maxHeartbeats 4000000 in
theorem k_X6_chosen_3 {G : Gx} {d : Nat} {v' : Int32} {h' : Hp} {n' : Nat} : ∀ (n : Nat) {h : Hp} {nx : Nat} {l0 : Nat} {l1 : Nat} {l2 : Nat} {l4 : Int32}, F_X6_chosen_3 G n h nx l0 l1 l2 l4 = some (v', h', n') → Ok G mX6_chosen (d + 4) (Same (some (.int v')) h' n') 3 [some (.ref l0), some (.ref l1), some (.ref l2), none, some (.int l4)] [] h nx 0 0 := by
  intro n
  induction n with
  | zero =>
    intro h nx l0 l1 l2 l4 e
    rw [F_X6_chosen_3_0] at e
    cases e
  | succ n K3 =>
    intro h nx l0 l1 l2 l4 e
    rw [F_X6_chosen_3_s] at e
    refine Ok.iload dX6_chosen_3 rfl ?_
    refine Ok.aload_n dX6_chosen_5 rfl ?_
    refine X.rgfR fl_RX6_18 dX6_chosen_6 e (fun v1 e1 => ?_)
    clear e
    refine X.rnn e1 (fun p2 q e2 => ?_)
    clear e1
    subst q
    refine X.rgfI fl_RX6_24 dX6_chosen_9 e2 (fun v3 e3 => ?_)
    clear e2
    refine X.icmp_ge (tgt := 39) dX6_chosen_12 (by decide) e3 (fun e4 => ?_) (fun e4 => ?_)
    · clear e3
      refine Ok.aload_n dX6_chosen_39 rfl ?_
      refine X.rck e4 (fun c fs hb hc e5 => ?_)
      clear e4
      obtain rfl := List.mem_singleton.mp hc
      refine X.callV (My := mX5_worthiestSet) (n := 0) (As := []) (T := (fun v => (some (.int v)))) (stk' := (fun v => [.int v])) (rest := []) (kc' := 0) (ks' := 0) dX6_chosen_40 e5 (fun v h n e => k_X5_worthiestSet (d := d + 2) e) hb rfl wd806 wd78 wd804 wd805 wd803 (by decide +kernel) rfl (by decide) rfl rfl (Nat.le_of_ble_eq_true rfl) (Nat.le_of_ble_eq_true rfl) (Nat.le_of_ble_eq_true rfl) rfl rfl (fun _ => rfl) (fun r4 h5 n6 e6 => ?_)
      clear e5
      exact X.iret dX6_chosen_43 rfl (Nat.le_of_ble_eq_true rfl) (Nat.le_of_ble_eq_true rfl) e6
    · clear e3
      refine Ok.aload_n dX6_chosen_15 rfl ?_
      refine X.rgfR fl_RX6_29 dX6_chosen_16 e4 (fun v7 e5 => ?_)
      clear e4
      refine Ok.iload dX6_chosen_19 rfl ?_
      refine Ok.aload_n dX6_chosen_21 rfl ?_
      refine Ok.aload_n dX6_chosen_22 rfl ?_
      refine Ok.iload dX6_chosen_23 rfl ?_
      refine Ok.aload_n dX6_chosen_25 rfl ?_
      refine Ok.iload dX6_chosen_26 rfl ?_
      refine X.iald dX6_chosen_28 e5 (fun v8 e6 => ?_)
      clear e5
      refine X.callC (n := 3) (As := [.ref l1, .int l4, .int v8]) (T := (fun v => (some (.int v)))) (stk' := (fun v => [.int v, .int l4, va_rf v7])) (rest := [.int l4, va_rf v7]) dX6_chosen_29 (cs_le (cs_c (a := 1) rfl (cs_c (a := 1) (va_rf_cat _) cs_n)) (by decide)) e6 (fun c hc => ?_) rfl rfl (Nat.le_of_ble_eq_true rfl) (Nat.le_of_ble_eq_true rfl) (fun _ => rfl) (fun r9 h10 n11 e7 => ?_)
      · simp only [List.mem_cons, List.not_mem_nil, or_false] at hc
        rcases hc with rfl | rfl | rfl | rfl | rfl | rfl | rfl
        · exact ⟨mX6_worthOf, vu_RX6_33_1, fun v h n e7 => k_X6_worthOf (d := d + 3) e7⟩
        · exact ⟨mX2_worthOf, vu_RX6_33_2, fun v h n e7 => k_X2_worthOf (d := d + 3) e7⟩
        · exact ⟨mX3_worthOf, vu_RX6_33_3, fun v h n e7 => k_X3_worthOf (d := d + 3) e7⟩
        · exact ⟨mX4_worthOf, vu_RX6_33_4, fun v h n e7 => k_X4_worthOf (d := d + 0) e7⟩
        · exact ⟨mX6_worthOf, vu_RX6_33_6, fun v h n e7 => k_X6_worthOf (d := d + 3) e7⟩
        · exact ⟨mX6_worthOf, vu_RX6_33_8, fun v h n e7 => k_X6_worthOf (d := d + 3) e7⟩
        · exact ⟨mX6_worthOf, vu_RX6_33_10, fun v h n e7 => k_X6_worthOf (d := d + 3) e7⟩
      clear e6
      refine X.rnn e7 (fun p12 q e8 => ?_)
      clear e7
      subst q
      refine X.iast dX6_chosen_32 e8 (fun h13 e9 => ?_)
      clear e8
      refine X.iinc dX6_chosen_33 rfl (by decide) (by decide +kernel) e9 (L := fun v14 => [some (.ref l0), some (.ref l1), some (.ref l2), none, some (.int v14)]) (fun _ => rfl) (fun v14 e10 => ?_)
      clear e9
      refine Ok.goto (tgt := 3) dX6_chosen_36 (by decide) ?_
      exact Ok.weakL (K3 e10) ⟨rfl, ⟨rfl, ⟨rfl, ⟨rfl, trivial⟩⟩⟩⟩
noncomputable def F_X6_chosen (G : Gx) (h : Hp) (nx : Nat) (a0 : Nat) (a1 : Nat) (a2 : Nat) (a3 : Int32) : Rz Int32 :=
(F_X6_chosen_3 G fuelL h nx a0 a1 a2 (nI 0))
set_option maxRecDepth 100000 in
set_option maxHeartbeats 4000000 in
theorem k_X6_chosen {G : Gx} {d : Nat} {h : Hp} {nx : Nat} {a0 : Nat} {a1 : Nat} {a2 : Nat} {a3 : Int32} {v' : Int32} {h' : Hp} {n' : Nat} (e : F_X6_chosen G h nx a0 a1 a2 a3 = some (v', h', n')) : Ct G mX6_chosen (d + 4) (Same (some (.int v')) h' n') [.ref a0, .ref a1, .ref a2, .int a3] h nx := by
  unfold F_X6_chosen at e
  refine Ct.of (ls := [some (.ref a0), some (.ref a1), some (.ref a2), some (.int a3), none]) (by decide +kernel) rfl (Nat.le_of_ble_eq_true rfl) rfl ?_
  refine Ok.iconstV (v := (nI 0)) dX6_chosen_0 (by decide +kernel) ?_
  refine XL.istore dX6_chosen_1 (by decide) (L := [some (.ref a0), some (.ref a1), some (.ref a2), some (.int a3), some (.int (nI 0))]) rfl ?_
  exact Ok.weakL (k_X6_chosen_3 (d := d) fuelL e) ⟨rfl, ⟨rfl, ⟨rfl, ⟨rfl, trivial⟩⟩⟩⟩
noncomputable def F_X7_init (G : Gx) (h : Hp) (nx : Nat) (a0 : Nat) (a1 : Nat) (a2 : Int32) : Rz Unit :=
nwI G (g_c G 0) h nx (nI 6) 6 (fun p1 h2 n3 =>
pfV h2 a0 [7] 0 (va_rf (some p1)) (fun h4 =>
pfV h4 a0 [7] 2 (.int (nI 0)) (fun h5 =>
pfV h5 a0 [7] 3 (.int (nI 0)) (fun h6 =>
nwI G (g_c G 0) h6 n3 (nI 120) 120 (fun p7 h8 n9 =>
pfV h8 a0 [7] 4 (va_rf (some p7)) (fun h10 =>
pfV h10 a0 [7] 5 (.int (nI 0)) (fun h11 =>
nwI G (g_c G 0) h11 n9 (nI 10) 10 (fun p12 h13 n14 =>
pfV h13 a0 [7] 6 (va_rf (some p12)) (fun h15 =>
nwI G (g_c G 0) h15 n14 (nI 10) 10 (fun p16 h17 n18 =>
pfV h17 a0 [7] 7 (va_rf (some p16)) (fun h19 =>
nwI G (g_c G 0) h19 n18 (nI 10) 10 (fun p20 h21 n22 =>
pfV h21 a0 [7] 8 (va_rf (some p20)) (fun h23 =>
pfV h23 a0 [7] 9 (.int (nI 0)) (fun h24 =>
cl (F_J7_copyOf_9075b G h24 n22 a1 a2) (fun r25 h26 n27 =>
pfV h26 a0 [7] 1 (va_rf r25) (fun h28 =>
some ((), h28, n27)))))))))))))))))
set_option maxRecDepth 100000 in
set_option maxHeartbeats 4000000 in
theorem k_X7_init {G : Gx} {d : Nat} {h : Hp} {nx : Nat} {a0 : Nat} {a1 : Nat} {a2 : Int32} {v' : Unit} {h' : Hp} {n' : Nat} (e : F_X7_init G h nx a0 a1 a2 = some (v', h', n')) : Ct G mX7_init (d + 1) (Same none h' n') [.ref a0, .ref a1, .int a2] h nx := by
  unfold F_X7_init at e
  refine Ct.of (ls := [some (.ref a0), some (.ref a1), some (.int a2)]) (by decide +kernel) rfl (Nat.le_of_ble_eq_true rfl) rfl ?_
  refine Ok.aload_n dX7_init_0 rfl ?_
  refine Ok.objInit dX7_init_1 wd331 wo_1 wo_2 (Nat.le_of_ble_eq_true rfl) ?_
  refine Ok.aload_n dX7_init_4 rfl ?_
  refine Ok.bipushV (v := (nI 6)) dX7_init_5 (by decide +kernel) ?_
  refine X.rnwI dX7_init_7 wd203 (by decide +kernel) (Nat.le_of_ble_eq_true rfl) (Nat.le_of_ble_eq_true rfl) e (fun p1 h2 n3 e1 => ?_)
  clear e
  refine Ok.mono (kc' := 1) (ks' := 6) ?_ (by decide) (by decide)
  refine X.pfF (v := (va_rf (some p1))) fp_RX7_9 rfl (nar_q (Or.inr ⟨_, rfl⟩) (some p1)) (fits_q (Or.inr ⟨_, rfl⟩) (some p1)) dX7_init_9 e1 (fun h4 e2 => ?_)
  clear e1
  refine Ok.aload_n dX7_init_12 rfl ?_
  refine Ok.iconstV (v := (nI 0)) dX7_init_13 (by decide +kernel) ?_
  refine X.rpfV (v := (.int (nI 0))) fp_RX7_15 rfl rfl dX7_init_14 e2 (fun h5 e3 => ?_)
  clear e2
  refine Ok.aload_n dX7_init_17 rfl ?_
  refine Ok.iconstV (v := (nI 0)) dX7_init_18 (by decide +kernel) ?_
  refine X.rpfV (v := (.int (nI 0))) fp_RX7_19 rfl rfl dX7_init_19 e3 (fun h6 e4 => ?_)
  clear e3
  refine Ok.aload_n dX7_init_22 rfl ?_
  refine Ok.bipushV (v := (nI 120)) dX7_init_23 (by decide +kernel) ?_
  refine X.rnwI dX7_init_25 wd203 (by decide +kernel) (Nat.le_of_ble_eq_true rfl) (Nat.le_of_ble_eq_true rfl) e4 (fun p7 h8 n9 e5 => ?_)
  clear e4
  refine Ok.mono (kc' := 2) (ks' := 126) ?_ (by decide) (by decide)
  refine X.pfF (v := (va_rf (some p7))) fp_RX7_22 rfl (nar_q (Or.inr ⟨_, rfl⟩) (some p7)) (fits_q (Or.inr ⟨_, rfl⟩) (some p7)) dX7_init_27 e5 (fun h10 e6 => ?_)
  clear e5
  refine Ok.aload_n dX7_init_30 rfl ?_
  refine Ok.iconstV (v := (nI 0)) dX7_init_31 (by decide +kernel) ?_
  refine X.rpfV (v := (.int (nI 0))) fp_RX7_25 rfl rfl dX7_init_32 e6 (fun h11 e7 => ?_)
  clear e6
  refine Ok.aload_n dX7_init_35 rfl ?_
  refine Ok.bipushV (v := (nI 10)) dX7_init_36 (by decide +kernel) ?_
  refine X.rnwI dX7_init_38 wd203 (by decide +kernel) (Nat.le_of_ble_eq_true rfl) (Nat.le_of_ble_eq_true rfl) e7 (fun p12 h13 n14 e8 => ?_)
  clear e7
  refine Ok.mono (kc' := 3) (ks' := 136) ?_ (by decide) (by decide)
  refine X.pfF (v := (va_rf (some p12))) fp_RX7_28 rfl (nar_q (Or.inr ⟨_, rfl⟩) (some p12)) (fits_q (Or.inr ⟨_, rfl⟩) (some p12)) dX7_init_40 e8 (fun h15 e9 => ?_)
  clear e8
  refine Ok.aload_n dX7_init_43 rfl ?_
  refine Ok.bipushV (v := (nI 10)) dX7_init_44 (by decide +kernel) ?_
  refine X.rnwI dX7_init_46 wd203 (by decide +kernel) (Nat.le_of_ble_eq_true rfl) (Nat.le_of_ble_eq_true rfl) e9 (fun p16 h17 n18 e10 => ?_)
  clear e9
  refine Ok.mono (kc' := 4) (ks' := 146) ?_ (by decide) (by decide)
  refine X.pfF (v := (va_rf (some p16))) fp_RX7_31 rfl (nar_q (Or.inr ⟨_, rfl⟩) (some p16)) (fits_q (Or.inr ⟨_, rfl⟩) (some p16)) dX7_init_48 e10 (fun h19 e11 => ?_)
  clear e10
  refine Ok.aload_n dX7_init_51 rfl ?_
  refine Ok.bipushV (v := (nI 10)) dX7_init_52 (by decide +kernel) ?_
  refine X.rnwI dX7_init_54 wd203 (by decide +kernel) (Nat.le_of_ble_eq_true rfl) (Nat.le_of_ble_eq_true rfl) e11 (fun p20 h21 n22 e12 => ?_)
  clear e11
  refine Ok.mono (kc' := 5) (ks' := 156) ?_ (by decide) (by decide)
  refine X.pfF (v := (va_rf (some p20))) fp_RX7_34 rfl (nar_q (Or.inr ⟨_, rfl⟩) (some p20)) (fits_q (Or.inr ⟨_, rfl⟩) (some p20)) dX7_init_56 e12 (fun h23 e13 => ?_)
  clear e12
  refine Ok.aload_n dX7_init_59 rfl ?_
  refine Ok.iconstV (v := (nI 0)) dX7_init_60 (by decide +kernel) ?_
  refine X.rpfV (v := (.int (nI 0))) fp_RX7_37 rfl rfl dX7_init_61 e13 (fun h24 e14 => ?_)
  clear e13
  refine Ok.aload_n dX7_init_64 rfl ?_
  refine Ok.aload_n dX7_init_65 rfl ?_
  refine Ok.iload_n dX7_init_66 rfl ?_
  refine X.callS (My := mJ7_copyOf_9075b) (n := 2) (As := [.ref a1, .int a2]) (T := (fun v => (some (va_rf v)))) (stk' := (fun v => [va_rf v, .ref a0])) (rest := [.ref a0]) (kc' := 7) (ks' := 396) dX7_init_67 e14 (fun v h n e => k_J7_copyOf_9075b (d := d + 0) e) wd334 wd82 wd333 wd332 (by decide +kernel) rfl (by decide) rfl rfl (Nat.le_of_ble_eq_true rfl) (Nat.le_of_ble_eq_true rfl) (Nat.le_of_ble_eq_true rfl) rfl rfl (fun _ => rfl) (fun r25 h26 n27 e15 => ?_)
  clear e14
  refine X.pfF (v := (va_rf r25)) fp_RX7_46 rfl (nar_q (Or.inr ⟨_, rfl⟩) r25) (fits_q (Or.inr ⟨_, rfl⟩) r25) dX7_init_70 e15 (fun h28 e16 => ?_)
  clear e15
  exact X.vret dX7_init_73 rfl (Nat.le_of_ble_eq_true rfl) (Nat.le_of_ble_eq_true rfl) e16
noncomputable def F_X7_addClause (G : Gx) (h : Hp) (nx : Nat) (a0 : Nat) (a1 : Int32) (a2 : Int32) : Rz Int32 :=
gfI h a0 [7] 9 (fun v1 =>
if v1 < (nI 10) then
gfR h a0 [7] 6 (fun v2 =>
gfI h a0 [7] 9 (fun v3 =>
nn v2 (fun p4 =>
asI (g_c G 0) id h p4 v3 a1 (fun h5 =>
gfR h5 a0 [7] 7 (fun v6 =>
gfI h5 a0 [7] 9 (fun v7 =>
nn v6 (fun p8 =>
asI (g_c G 0) id h5 p8 v7 a2 (fun h9 =>
gfR h9 a0 [7] 8 (fun v10 =>
gfI h9 a0 [7] 9 (fun v11 =>
gfI h9 a0 [7] 5 (fun v12 =>
nn v10 (fun p13 =>
asI (g_c G 0) id h9 p13 v11 v12 (fun h14 =>
gfI h14 a0 [7] 9 (fun v15 =>
pfV h14 a0 [7] 9 (.int ((v15 + (nI 1)))) (fun h16 =>
zk (nI 1) (some ((nI 1), h16, nx)))))))))))))))))
else
zk (nI 0) (some ((nI 0), h, nx)))
set_option maxRecDepth 100000 in
set_option maxHeartbeats 4000000 in
theorem k_X7_addClause {G : Gx} {d : Nat} {h : Hp} {nx : Nat} {a0 : Nat} {a1 : Int32} {a2 : Int32} {v' : Int32} {h' : Hp} {n' : Nat} (e : F_X7_addClause G h nx a0 a1 a2 = some (v', h', n')) : Ct G mX7_addClause (d + 0) (Same (some (.int v')) h' n') [.ref a0, .int a1, .int a2] h nx := by
  unfold F_X7_addClause at e
  refine Ct.of (ls := [some (.ref a0), some (.int a1), some (.int a2)]) (by decide +kernel) rfl (Nat.le_of_ble_eq_true rfl) rfl ?_
  refine Ok.aload_n dX7_addClause_0 rfl ?_
  refine X.rgfI fl_RX7_37 dX7_addClause_1 e (fun v1 e1 => ?_)
  clear e
  refine Ok.bipushV (v := (nI 10)) dX7_addClause_4 (by decide +kernel) ?_
  refine X.icmp_lt (tgt := 11) dX7_addClause_6 (by decide) e1 (fun e2 => ?_) (fun e2 => ?_)
  · clear e1
    refine Ok.aload_n dX7_addClause_11 rfl ?_
    refine X.rgfR fl_RX7_28 dX7_addClause_12 e2 (fun v2 e3 => ?_)
    clear e2
    refine Ok.aload_n dX7_addClause_15 rfl ?_
    refine X.rgfI fl_RX7_37 dX7_addClause_16 e3 (fun v3 e4 => ?_)
    clear e3
    refine Ok.iload_n dX7_addClause_19 rfl ?_
    refine X.rnn e4 (fun p4 q e5 => ?_)
    clear e4
    subst q
    refine X.iast dX7_addClause_20 e5 (fun h5 e6 => ?_)
    clear e5
    refine Ok.aload_n dX7_addClause_21 rfl ?_
    refine X.rgfR fl_RX7_31 dX7_addClause_22 e6 (fun v6 e7 => ?_)
    clear e6
    refine Ok.aload_n dX7_addClause_25 rfl ?_
    refine X.rgfI fl_RX7_37 dX7_addClause_26 e7 (fun v7 e8 => ?_)
    clear e7
    refine Ok.iload_n dX7_addClause_29 rfl ?_
    refine X.rnn e8 (fun p8 q e9 => ?_)
    clear e8
    subst q
    refine X.iast dX7_addClause_30 e9 (fun h9 e10 => ?_)
    clear e9
    refine Ok.aload_n dX7_addClause_31 rfl ?_
    refine X.rgfR fl_RX7_34 dX7_addClause_32 e10 (fun v10 e11 => ?_)
    clear e10
    refine Ok.aload_n dX7_addClause_35 rfl ?_
    refine X.rgfI fl_RX7_37 dX7_addClause_36 e11 (fun v11 e12 => ?_)
    clear e11
    refine Ok.aload_n dX7_addClause_39 rfl ?_
    refine X.rgfI fl_RX7_25 dX7_addClause_40 e12 (fun v12 e13 => ?_)
    clear e12
    refine X.rnn e13 (fun p13 q e14 => ?_)
    clear e13
    subst q
    refine X.iast dX7_addClause_43 e14 (fun h14 e15 => ?_)
    clear e14
    refine Ok.aload_n dX7_addClause_44 rfl ?_
    refine Ok.dup dX7_addClause_45 rfl ?_
    refine X.rgfI fl_RX7_37 dX7_addClause_46 e15 (fun v15 e16 => ?_)
    clear e15
    refine Ok.iconstV (v := (nI 1)) dX7_addClause_49 (by decide +kernel) ?_
    refine Ok.iadd dX7_addClause_50 ?_
    refine X.rpfV (v := (.int ((v15 + (nI 1))))) fp_RX7_37 rfl rfl dX7_addClause_51 e16 (fun h16 e17 => ?_)
    clear e16
    refine Ok.iconstV (v := (nI 1)) dX7_addClause_54 (by decide +kernel) ?_
    exact X.zret dX7_addClause_55 rfl (Nat.le_of_ble_eq_true rfl) (Nat.le_of_ble_eq_true rfl) e17
  · clear e1
    refine Ok.iconstV (v := (nI 0)) dX7_addClause_9 (by decide +kernel) ?_
    exact X.zret dX7_addClause_10 rfl (Nat.le_of_ble_eq_true rfl) (Nat.le_of_ble_eq_true rfl) e2
noncomputable def F_X7_put (G : Gx) (h : Hp) (nx : Nat) (a0 : Nat) (a1 : Int32) : Rz Int32 :=
gfI h a0 [7] 5 (fun v1 =>
if v1 < (nI 120) then
gfR h a0 [7] 4 (fun v2 =>
gfI h a0 [7] 5 (fun v3 =>
nn v2 (fun p4 =>
asI (g_c G 0) id h p4 v3 a1 (fun h5 =>
gfI h5 a0 [7] 5 (fun v6 =>
pfV h5 a0 [7] 5 (.int ((v6 + (nI 1)))) (fun h7 =>
zk (nI 1) (some ((nI 1), h7, nx))))))))
else
zk (nI 0) (some ((nI 0), h, nx)))
set_option maxRecDepth 100000 in
set_option maxHeartbeats 4000000 in
theorem k_X7_put {G : Gx} {d : Nat} {h : Hp} {nx : Nat} {a0 : Nat} {a1 : Int32} {v' : Int32} {h' : Hp} {n' : Nat} (e : F_X7_put G h nx a0 a1 = some (v', h', n')) : Ct G mX7_put (d + 0) (Same (some (.int v')) h' n') [.ref a0, .int a1] h nx := by
  unfold F_X7_put at e
  refine Ct.of (ls := [some (.ref a0), some (.int a1)]) (by decide +kernel) rfl (Nat.le_of_ble_eq_true rfl) rfl ?_
  refine Ok.aload_n dX7_put_0 rfl ?_
  refine X.rgfI fl_RX7_25 dX7_put_1 e (fun v1 e1 => ?_)
  clear e
  refine Ok.bipushV (v := (nI 120)) dX7_put_4 (by decide +kernel) ?_
  refine X.icmp_lt (tgt := 11) dX7_put_6 (by decide) e1 (fun e2 => ?_) (fun e2 => ?_)
  · clear e1
    refine Ok.aload_n dX7_put_11 rfl ?_
    refine X.rgfR fl_RX7_22 dX7_put_12 e2 (fun v2 e3 => ?_)
    clear e2
    refine Ok.aload_n dX7_put_15 rfl ?_
    refine X.rgfI fl_RX7_25 dX7_put_16 e3 (fun v3 e4 => ?_)
    clear e3
    refine Ok.iload_n dX7_put_19 rfl ?_
    refine X.rnn e4 (fun p4 q e5 => ?_)
    clear e4
    subst q
    refine X.iast dX7_put_20 e5 (fun h5 e6 => ?_)
    clear e5
    refine Ok.aload_n dX7_put_21 rfl ?_
    refine Ok.dup dX7_put_22 rfl ?_
    refine X.rgfI fl_RX7_25 dX7_put_23 e6 (fun v6 e7 => ?_)
    clear e6
    refine Ok.iconstV (v := (nI 1)) dX7_put_26 (by decide +kernel) ?_
    refine Ok.iadd dX7_put_27 ?_
    refine X.rpfV (v := (.int ((v6 + (nI 1))))) fp_RX7_25 rfl rfl dX7_put_28 e7 (fun h7 e8 => ?_)
    clear e7
    refine Ok.iconstV (v := (nI 1)) dX7_put_31 (by decide +kernel) ?_
    exact X.zret dX7_put_32 rfl (Nat.le_of_ble_eq_true rfl) (Nat.le_of_ble_eq_true rfl) e8
  · clear e1
    refine Ok.iconstV (v := (nI 0)) dX7_put_9 (by decide +kernel) ?_
    exact X.zret dX7_put_10 rfl (Nat.le_of_ble_eq_true rfl) (Nat.le_of_ble_eq_true rfl) e2
noncomputable def F_X7_readNumber_120 (G : Gx) (h : Hp) (nx : Nat) (s0 : Int32) : Rz Int32 :=
zk s0 (some (s0, h, nx))
set_option maxRecDepth 100000 in
set_option maxHeartbeats 4000000 in
theorem k_X7_readNumber_120 {G : Gx} {d : Nat} {v' : Int32} {h' : Hp} {n' : Nat} {h : Hp} {nx : Nat} {s0 : Int32} (e : F_X7_readNumber_120 G h nx s0 = some (v', h', n')) : Ok G mX7_readNumber (d + 0) (Same (some (.int v')) h' n') 120 [none, none, none] [.int s0] h nx 0 0 := by
  unfold F_X7_readNumber_120 at e
  exact X.zret dX7_readNumber_120 rfl (Nat.le_of_ble_eq_true rfl) (Nat.le_of_ble_eq_true rfl) e
noncomputable def F_X7_readNumber_111 (G : Gx) (h : Hp) (nx : Nat) (l1 : Int32) : Rz Int32 :=
if l1 ≤ 0 then
(F_X7_readNumber_120 G h nx (nI 0))
else
(F_X7_readNumber_120 G h nx (nI 1))
set_option maxRecDepth 100000 in
set_option maxHeartbeats 4000000 in
theorem k_X7_readNumber_111 {G : Gx} {d : Nat} {v' : Int32} {h' : Hp} {n' : Nat} {h : Hp} {nx : Nat} {l1 : Int32} (e : F_X7_readNumber_111 G h nx l1 = some (v', h', n')) : Ok G mX7_readNumber (d + 0) (Same (some (.int v')) h' n') 111 [none, some (.int l1), none] [] h nx 0 0 := by
  unfold F_X7_readNumber_111 at e
  refine Ok.iload_n dX7_readNumber_111 rfl ?_
  refine X.if_le (tgt := 119) dX7_readNumber_112 (by decide) e (fun e1 => ?_) (fun e1 => ?_)
  · clear e
    refine Ok.iconstV (v := (nI 0)) dX7_readNumber_119 (by decide +kernel) ?_
    exact Ok.weakL (k_X7_readNumber_120 (d := d) e1) trivial
  · clear e
    refine Ok.iconstV (v := (nI 1)) dX7_readNumber_115 (by decide +kernel) ?_
    refine Ok.goto (tgt := 120) dX7_readNumber_116 (by decide) ?_
    exact Ok.weakL (k_X7_readNumber_120 (d := d) e1) trivial
noncomputable def F_X7_readNumber_107 (G : Gx) (k9 : Hp → Nat → Nat → Int32 → Int32 → Rz Int32) (h : Hp) (nx : Nat) (s0 : Int32) (l0 : Nat) (l1 : Int32) : Rz Int32 :=
(k9 h nx l0 l1 s0)
set_option maxRecDepth 100000 in
set_option maxHeartbeats 4000000 in
theorem k_X7_readNumber_107 {G : Gx} {d : Nat} {v' : Int32} {h' : Hp} {n' : Nat} {k9 : Hp → Nat → Nat → Int32 → Int32 → Rz Int32} (K9 : ∀ {h : Hp} {nx : Nat} {l0 : Nat} {l1 : Int32} {l2 : Int32}, k9 h nx l0 l1 l2 = some (v', h', n') → Ok G mX7_readNumber (d + 0) (Same (some (.int v')) h' n') 9 [some (.ref l0), some (.int l1), some (.int l2)] [] h nx 0 0) {h : Hp} {nx : Nat} {s0 : Int32} {l0 : Nat} {l1 : Int32} (e : F_X7_readNumber_107 G k9 h nx s0 l0 l1 = some (v', h', n')) : Ok G mX7_readNumber (d + 0) (Same (some (.int v')) h' n') 107 [some (.ref l0), some (.int l1), none] [.int s0] h nx 0 0 := by
  unfold F_X7_readNumber_107 at e
  refine XL.istore_n dX7_readNumber_107 (by decide) (L := [some (.ref l0), some (.int l1), some (.int s0)]) rfl ?_
  refine Ok.goto (tgt := 9) dX7_readNumber_108 (by decide) ?_
  exact Ok.weakL (K9 e) ⟨rfl, ⟨rfl, ⟨rfl, trivial⟩⟩⟩
noncomputable def F_X7_readNumber_9 (G : Gx) : Nat → Hp → Nat → Nat → Int32 → Int32 → Rz Int32 := fun n => Nat.rec (motive := fun _ => Hp → Nat → Nat → Int32 → Int32 → Rz Int32) (fun _ _ _ _ _ => none) (fun _ k9 => fun h nx l0 l1 l2 =>
if l2 = 0 then
(F_X7_readNumber_111 G h nx l1)
else
if (nI 3) ≤ l1 then
(F_X7_readNumber_111 G h nx l1)
else
gfI h l0 [7] 2 (fun v1 =>
gfR h l0 [7] 1 (fun v2 =>
nn v2 (fun p3 =>
lnI (g_c G 2) h p3 (fun v4 =>
if v4 ≤ v1 then
(F_X7_readNumber_111 G h nx l1)
else
gfR h l0 [7] 1 (fun v5 =>
gfI h l0 [7] 2 (fun v6 =>
nn v5 (fun p7 =>
alI (g_c G 2) h p7 v6 (fun v8 =>
if v8 < (nI 48) then
(F_X7_readNumber_111 G h nx l1)
else
gfR h l0 [7] 1 (fun v9 =>
gfI h l0 [7] 2 (fun v10 =>
nn v9 (fun p11 =>
alI (g_c G 2) h p11 v10 (fun v12 =>
if (nI 57) < v12 then
(F_X7_readNumber_111 G h nx l1)
else
gfI h l0 [7] 3 (fun v13 =>
gfR h l0 [7] 1 (fun v14 =>
gfI h l0 [7] 2 (fun v15 =>
nn v14 (fun p16 =>
alI (g_c G 2) h p16 v15 (fun v17 =>
pfV h l0 [7] 3 (.int ((((((v13 * (nI 10))) + v17)) - (nI 48)))) (fun h18 =>
gfI h18 l0 [7] 2 (fun v19 =>
pfV h18 l0 [7] 2 (.int ((v19 + (nI 1)))) (fun h20 =>
nm (l1 + (nI 1)) (fun v21 =>
gfI h20 l0 [7] 3 (fun v22 =>
if v22 ≤ 0 then
(F_X7_readNumber_107 G k9 h20 nx (nI 0) l0 v21)
else
(F_X7_readNumber_107 G k9 h20 nx (nI 1) l0 v21)))))))))))))))))))))))) n
theorem F_X7_readNumber_9_0 {G : Gx} {h : Hp} {nx : Nat} {l0 : Nat} {l1 : Int32} {l2 : Int32} : F_X7_readNumber_9 G 0 h nx l0 l1 l2 = none := rfl
theorem F_X7_readNumber_9_s {G : Gx} {n : Nat} {h : Hp} {nx : Nat} {l0 : Nat} {l1 : Int32} {l2 : Int32} : F_X7_readNumber_9 G (n + 1) h nx l0 l1 l2 = (
if l2 = 0 then
(F_X7_readNumber_111 G h nx l1)
else
if (nI 3) ≤ l1 then
(F_X7_readNumber_111 G h nx l1)
else
gfI h l0 [7] 2 (fun v1 =>
gfR h l0 [7] 1 (fun v2 =>
nn v2 (fun p3 =>
lnI (g_c G 2) h p3 (fun v4 =>
if v4 ≤ v1 then
(F_X7_readNumber_111 G h nx l1)
else
gfR h l0 [7] 1 (fun v5 =>
gfI h l0 [7] 2 (fun v6 =>
nn v5 (fun p7 =>
alI (g_c G 2) h p7 v6 (fun v8 =>
if v8 < (nI 48) then
(F_X7_readNumber_111 G h nx l1)
else
gfR h l0 [7] 1 (fun v9 =>
gfI h l0 [7] 2 (fun v10 =>
nn v9 (fun p11 =>
alI (g_c G 2) h p11 v10 (fun v12 =>
if (nI 57) < v12 then
(F_X7_readNumber_111 G h nx l1)
else
gfI h l0 [7] 3 (fun v13 =>
gfR h l0 [7] 1 (fun v14 =>
gfI h l0 [7] 2 (fun v15 =>
nn v14 (fun p16 =>
alI (g_c G 2) h p16 v15 (fun v17 =>
pfV h l0 [7] 3 (.int ((((((v13 * (nI 10))) + v17)) - (nI 48)))) (fun h18 =>
gfI h18 l0 [7] 2 (fun v19 =>
pfV h18 l0 [7] 2 (.int ((v19 + (nI 1)))) (fun h20 =>
nm (l1 + (nI 1)) (fun v21 =>
gfI h20 l0 [7] 3 (fun v22 =>
if v22 ≤ 0 then
(F_X7_readNumber_107 G (F_X7_readNumber_9 G n) h20 nx (nI 0) l0 v21)
else
(F_X7_readNumber_107 G (F_X7_readNumber_9 G n) h20 nx (nI 1) l0 v21)))))))))))))))))))))))) := rfl
set_option maxRecDepth 100000 in
set_option maxHeartbeats 4000000 in
theorem k_X7_readNumber_9 {G : Gx} {d : Nat} {v' : Int32} {h' : Hp} {n' : Nat} : ∀ (n : Nat) {h : Hp} {nx : Nat} {l0 : Nat} {l1 : Int32} {l2 : Int32}, F_X7_readNumber_9 G n h nx l0 l1 l2 = some (v', h', n') → Ok G mX7_readNumber (d + 0) (Same (some (.int v')) h' n') 9 [some (.ref l0), some (.int l1), some (.int l2)] [] h nx 0 0 := by
  intro n
  induction n with
  | zero =>
    intro h nx l0 l1 l2 e
    rw [F_X7_readNumber_9_0] at e
    cases e
  | succ n K9 =>
    intro h nx l0 l1 l2 e
    rw [F_X7_readNumber_9_s] at e
    refine Ok.iload_n dX7_readNumber_9 rfl ?_
    refine X.if_eq (tgt := 111) dX7_readNumber_10 (by decide) e (fun e1 => ?_) (fun e1 => ?_)
    · clear e
      exact Ok.weakL (k_X7_readNumber_111 (d := d) e1) ⟨rfl, trivial⟩
    · clear e
      refine Ok.iload_n dX7_readNumber_13 rfl ?_
      refine Ok.iconstV (v := (nI 3)) dX7_readNumber_14 (by decide +kernel) ?_
      refine X.icmp_ge (tgt := 111) dX7_readNumber_15 (by decide) e1 (fun e2 => ?_) (fun e2 => ?_)
      · clear e1
        exact Ok.weakL (k_X7_readNumber_111 (d := d) e2) ⟨rfl, trivial⟩
      · clear e1
        refine Ok.aload_n dX7_readNumber_18 rfl ?_
        refine X.rgfI fl_RX7_15 dX7_readNumber_19 e2 (fun v1 e3 => ?_)
        clear e2
        refine Ok.aload_n dX7_readNumber_22 rfl ?_
        refine X.rgfR fl_RX7_46 dX7_readNumber_23 e3 (fun v2 e4 => ?_)
        clear e3
        refine X.rnn e4 (fun p3 q e5 => ?_)
        clear e4
        subst q
        refine X.lnB dX7_readNumber_26 e5 (fun v4 e6 => ?_)
        clear e5
        refine X.icmp_ge (tgt := 111) dX7_readNumber_27 (by decide) e6 (fun e7 => ?_) (fun e7 => ?_)
        · clear e6
          exact Ok.weakL (k_X7_readNumber_111 (d := d) e7) ⟨rfl, trivial⟩
        · clear e6
          refine Ok.aload_n dX7_readNumber_30 rfl ?_
          refine X.rgfR fl_RX7_46 dX7_readNumber_31 e7 (fun v5 e8 => ?_)
          clear e7
          refine Ok.aload_n dX7_readNumber_34 rfl ?_
          refine X.rgfI fl_RX7_15 dX7_readNumber_35 e8 (fun v6 e9 => ?_)
          clear e8
          refine X.rnn e9 (fun p7 q e10 => ?_)
          clear e9
          subst q
          refine X.bald dX7_readNumber_38 e10 (fun v8 e11 => ?_)
          clear e10
          refine Ok.bipushV (v := (nI 48)) dX7_readNumber_39 (by decide +kernel) ?_
          refine X.icmp_lt (tgt := 111) dX7_readNumber_41 (by decide) e11 (fun e12 => ?_) (fun e12 => ?_)
          · clear e11
            exact Ok.weakL (k_X7_readNumber_111 (d := d) e12) ⟨rfl, trivial⟩
          · clear e11
            refine Ok.aload_n dX7_readNumber_44 rfl ?_
            refine X.rgfR fl_RX7_46 dX7_readNumber_45 e12 (fun v9 e13 => ?_)
            clear e12
            refine Ok.aload_n dX7_readNumber_48 rfl ?_
            refine X.rgfI fl_RX7_15 dX7_readNumber_49 e13 (fun v10 e14 => ?_)
            clear e13
            refine X.rnn e14 (fun p11 q e15 => ?_)
            clear e14
            subst q
            refine X.bald dX7_readNumber_52 e15 (fun v12 e16 => ?_)
            clear e15
            refine Ok.bipushV (v := (nI 57)) dX7_readNumber_53 (by decide +kernel) ?_
            refine X.icmp_gt (tgt := 111) dX7_readNumber_55 (by decide) e16 (fun e17 => ?_) (fun e17 => ?_)
            · clear e16
              exact Ok.weakL (k_X7_readNumber_111 (d := d) e17) ⟨rfl, trivial⟩
            · clear e16
              refine Ok.aload_n dX7_readNumber_58 rfl ?_
              refine Ok.aload_n dX7_readNumber_59 rfl ?_
              refine X.rgfI fl_RX7_19 dX7_readNumber_60 e17 (fun v13 e18 => ?_)
              clear e17
              refine Ok.bipushV (v := (nI 10)) dX7_readNumber_63 (by decide +kernel) ?_
              refine Ok.imul dX7_readNumber_65 ?_
              refine Ok.aload_n dX7_readNumber_66 rfl ?_
              refine X.rgfR fl_RX7_46 dX7_readNumber_67 e18 (fun v14 e19 => ?_)
              clear e18
              refine Ok.aload_n dX7_readNumber_70 rfl ?_
              refine X.rgfI fl_RX7_15 dX7_readNumber_71 e19 (fun v15 e20 => ?_)
              clear e19
              refine X.rnn e20 (fun p16 q e21 => ?_)
              clear e20
              subst q
              refine X.bald dX7_readNumber_74 e21 (fun v17 e22 => ?_)
              clear e21
              refine Ok.iadd dX7_readNumber_75 ?_
              refine Ok.bipushV (v := (nI 48)) dX7_readNumber_76 (by decide +kernel) ?_
              refine Ok.isub dX7_readNumber_78 ?_
              refine X.rpfV (v := (.int ((((((v13 * (nI 10))) + v17)) - (nI 48))))) fp_RX7_19 rfl rfl dX7_readNumber_79 e22 (fun h18 e23 => ?_)
              clear e22
              refine Ok.aload_n dX7_readNumber_82 rfl ?_
              refine Ok.dup dX7_readNumber_83 rfl ?_
              refine X.rgfI fl_RX7_15 dX7_readNumber_84 e23 (fun v19 e24 => ?_)
              clear e23
              refine Ok.iconstV (v := (nI 1)) dX7_readNumber_87 (by decide +kernel) ?_
              refine Ok.iadd dX7_readNumber_88 ?_
              refine X.rpfV (v := (.int ((v19 + (nI 1))))) fp_RX7_15 rfl rfl dX7_readNumber_89 e24 (fun h20 e25 => ?_)
              clear e24
              refine X.iinc dX7_readNumber_92 rfl (by decide) (by decide +kernel) e25 (L := fun v21 => [some (.ref l0), some (.int v21), some (.int l2)]) (fun _ => rfl) (fun v21 e26 => ?_)
              clear e25
              refine Ok.aload_n dX7_readNumber_95 rfl ?_
              refine X.rgfI fl_RX7_19 dX7_readNumber_96 e26 (fun v22 e27 => ?_)
              clear e26
              refine X.if_le (tgt := 106) dX7_readNumber_99 (by decide) e27 (fun e28 => ?_) (fun e28 => ?_)
              · clear e27
                refine Ok.iconstV (v := (nI 0)) dX7_readNumber_106 (by decide +kernel) ?_
                exact Ok.weakL (k_X7_readNumber_107 (d := d) K9 e28) ⟨rfl, ⟨rfl, trivial⟩⟩
              · clear e27
                refine Ok.iconstV (v := (nI 1)) dX7_readNumber_102 (by decide +kernel) ?_
                refine Ok.goto (tgt := 107) dX7_readNumber_103 (by decide) ?_
                exact Ok.weakL (k_X7_readNumber_107 (d := d) K9 e28) ⟨rfl, ⟨rfl, trivial⟩⟩
noncomputable def F_X7_readNumber (G : Gx) (h : Hp) (nx : Nat) (a0 : Nat) : Rz Int32 :=
pfV h a0 [7] 3 (.int (nI 0)) (fun h1 =>
(F_X7_readNumber_9 G fuelL h1 nx a0 (nI 0) (nI 1)))
set_option maxRecDepth 100000 in
set_option maxHeartbeats 4000000 in
theorem k_X7_readNumber {G : Gx} {d : Nat} {h : Hp} {nx : Nat} {a0 : Nat} {v' : Int32} {h' : Hp} {n' : Nat} (e : F_X7_readNumber G h nx a0 = some (v', h', n')) : Ct G mX7_readNumber (d + 0) (Same (some (.int v')) h' n') [.ref a0] h nx := by
  unfold F_X7_readNumber at e
  refine Ct.of (ls := [some (.ref a0), none, none]) (by decide +kernel) rfl (Nat.le_of_ble_eq_true rfl) rfl ?_
  refine Ok.aload_n dX7_readNumber_0 rfl ?_
  refine Ok.iconstV (v := (nI 0)) dX7_readNumber_1 (by decide +kernel) ?_
  refine X.rpfV (v := (.int (nI 0))) fp_RX7_19 rfl rfl dX7_readNumber_2 e (fun h1 e1 => ?_)
  clear e
  refine Ok.iconstV (v := (nI 0)) dX7_readNumber_5 (by decide +kernel) ?_
  refine XL.istore_n dX7_readNumber_6 (by decide) (L := [some (.ref a0), some (.int (nI 0)), none]) rfl ?_
  refine Ok.iconstV (v := (nI 1)) dX7_readNumber_7 (by decide +kernel) ?_
  refine XL.istore_n dX7_readNumber_8 (by decide) (L := [some (.ref a0), some (.int (nI 0)), some (.int (nI 1))]) rfl ?_
  exact Ok.weakL (k_X7_readNumber_9 (d := d) fuelL e1) ⟨rfl, ⟨rfl, ⟨rfl, trivial⟩⟩⟩
noncomputable def F_X7_take_25 (G : Gx) (h : Hp) (nx : Nat) : Rz Int32 :=
zk (nI 0) (some ((nI 0), h, nx))
set_option maxRecDepth 100000 in
set_option maxHeartbeats 4000000 in
theorem k_X7_take_25 {G : Gx} {d : Nat} {v' : Int32} {h' : Hp} {n' : Nat} {h : Hp} {nx : Nat} (e : F_X7_take_25 G h nx = some (v', h', n')) : Ok G mX7_take (d + 0) (Same (some (.int v')) h' n') 25 [none, none] [] h nx 0 0 := by
  unfold F_X7_take_25 at e
  refine Ok.iconstV (v := (nI 0)) dX7_take_25 (by decide +kernel) ?_
  exact X.zret dX7_take_26 rfl (Nat.le_of_ble_eq_true rfl) (Nat.le_of_ble_eq_true rfl) e
noncomputable def F_X7_take (G : Gx) (h : Hp) (nx : Nat) (a0 : Nat) (a1 : Int32) : Rz Int32 :=
gfI h a0 [7] 2 (fun v1 =>
gfR h a0 [7] 1 (fun v2 =>
nn v2 (fun p3 =>
lnI (g_c G 2) h p3 (fun v4 =>
if v4 ≤ v1 then
(F_X7_take_25 G h nx)
else
gfR h a0 [7] 1 (fun v5 =>
gfI h a0 [7] 2 (fun v6 =>
nn v5 (fun p7 =>
alI (g_c G 2) h p7 v6 (fun v8 =>
if v8 = a1 then
gfI h a0 [7] 2 (fun v9 =>
pfV h a0 [7] 2 (.int ((v9 + (nI 1)))) (fun h10 =>
zk (nI 1) (some ((nI 1), h10, nx))))
else
(F_X7_take_25 G h nx)))))))))
set_option maxRecDepth 100000 in
set_option maxHeartbeats 4000000 in
theorem k_X7_take {G : Gx} {d : Nat} {h : Hp} {nx : Nat} {a0 : Nat} {a1 : Int32} {v' : Int32} {h' : Hp} {n' : Nat} (e : F_X7_take G h nx a0 a1 = some (v', h', n')) : Ct G mX7_take (d + 0) (Same (some (.int v')) h' n') [.ref a0, .int a1] h nx := by
  unfold F_X7_take at e
  refine Ct.of (ls := [some (.ref a0), some (.int a1)]) (by decide +kernel) rfl (Nat.le_of_ble_eq_true rfl) rfl ?_
  refine Ok.aload_n dX7_take_0 rfl ?_
  refine X.rgfI fl_RX7_15 dX7_take_1 e (fun v1 e1 => ?_)
  clear e
  refine Ok.aload_n dX7_take_4 rfl ?_
  refine X.rgfR fl_RX7_46 dX7_take_5 e1 (fun v2 e2 => ?_)
  clear e1
  refine X.rnn e2 (fun p3 q e3 => ?_)
  clear e2
  subst q
  refine X.lnB dX7_take_8 e3 (fun v4 e4 => ?_)
  clear e3
  refine X.icmp_ge (tgt := 25) dX7_take_9 (by decide) e4 (fun e5 => ?_) (fun e5 => ?_)
  · clear e4
    exact Ok.weakL (k_X7_take_25 (d := d) e5) trivial
  · clear e4
    refine Ok.aload_n dX7_take_12 rfl ?_
    refine X.rgfR fl_RX7_46 dX7_take_13 e5 (fun v5 e6 => ?_)
    clear e5
    refine Ok.aload_n dX7_take_16 rfl ?_
    refine X.rgfI fl_RX7_15 dX7_take_17 e6 (fun v6 e7 => ?_)
    clear e6
    refine X.rnn e7 (fun p7 q e8 => ?_)
    clear e7
    subst q
    refine X.bald dX7_take_20 e8 (fun v8 e9 => ?_)
    clear e8
    refine Ok.iload_n dX7_take_21 rfl ?_
    refine X.icmp_eq (tgt := 27) dX7_take_22 (by decide) e9 (fun e10 => ?_) (fun e10 => ?_)
    · clear e9
      refine Ok.aload_n dX7_take_27 rfl ?_
      refine Ok.dup dX7_take_28 rfl ?_
      refine X.rgfI fl_RX7_15 dX7_take_29 e10 (fun v9 e11 => ?_)
      clear e10
      refine Ok.iconstV (v := (nI 1)) dX7_take_32 (by decide +kernel) ?_
      refine Ok.iadd dX7_take_33 ?_
      refine X.rpfV (v := (.int ((v9 + (nI 1))))) fp_RX7_15 rfl rfl dX7_take_34 e11 (fun h10 e12 => ?_)
      clear e11
      refine Ok.iconstV (v := (nI 1)) dX7_take_37 (by decide +kernel) ?_
      exact X.zret dX7_take_38 rfl (Nat.le_of_ble_eq_true rfl) (Nat.le_of_ble_eq_true rfl) e12
    · clear e9
      exact Ok.weakL (k_X7_take_25 (d := d) e10) trivial
noncomputable def F_X7_readTest_86 (G : Gx) (h : Hp) (nx : Nat) : Rz Int32 :=
zk (nI 0) (some ((nI 0), h, nx))
set_option maxRecDepth 100000 in
set_option maxHeartbeats 4000000 in
theorem k_X7_readTest_86 {G : Gx} {d : Nat} {v' : Int32} {h' : Hp} {n' : Nat} {h : Hp} {nx : Nat} (e : F_X7_readTest_86 G h nx = some (v', h', n')) : Ok G mX7_readTest (d + 1) (Same (some (.int v')) h' n') 86 [none, none, none] [] h nx 0 0 := by
  unfold F_X7_readTest_86 at e
  refine Ok.iconstV (v := (nI 0)) dX7_readTest_86 (by decide +kernel) ?_
  exact X.zret dX7_readTest_87 rfl (Nat.le_of_ble_eq_true rfl) (Nat.le_of_ble_eq_true rfl) e
noncomputable def F_X7_readTest_74 (G : Gx) (h : Hp) (nx : Nat) (s0 : Int32) (l0 : Nat) (l1 : Int32) : Rz Int32 :=
if s0 < 0 then
(F_X7_readTest_86 G h nx)
else
ck h l0 [7] (fun _ =>
cl (F_X7_readNumber G h nx l0) (fun r1 h2 n3 =>
if r1 = 0 then
(F_X7_readTest_86 G h2 n3)
else
gfI h2 l0 [7] 3 (fun v4 =>
ck h2 l0 [7] (fun _ =>
cl (F_X7_put G h2 n3 l0 ((((((v4 * (nI 8))) + ((s0 * (nI 2))))) + l1))) (fun r5 h6 n7 =>
zk r5 (some (r5, h6, n7)))))))
set_option maxRecDepth 100000 in
set_option maxHeartbeats 4000000 in
theorem k_X7_readTest_74 {G : Gx} {d : Nat} {v' : Int32} {h' : Hp} {n' : Nat} {h : Hp} {nx : Nat} {s0 : Int32} {l0 : Nat} {l1 : Int32} (e : F_X7_readTest_74 G h nx s0 l0 l1 = some (v', h', n')) : Ok G mX7_readTest (d + 1) (Same (some (.int v')) h' n') 74 [some (.ref l0), some (.int l1), none] [.int s0] h nx 0 0 := by
  unfold F_X7_readTest_74 at e
  refine XL.istore_n dX7_readTest_74 (by decide) (L := [some (.ref l0), some (.int l1), some (.int s0)]) rfl ?_
  refine Ok.iload_n dX7_readTest_75 rfl ?_
  refine X.if_lt (tgt := 86) dX7_readTest_76 (by decide) e (fun e1 => ?_) (fun e1 => ?_)
  · clear e
    exact Ok.weakL (k_X7_readTest_86 (d := d) e1) trivial
  · clear e
    refine Ok.aload_n dX7_readTest_79 rfl ?_
    refine X.rck e1 (fun c fs hb hc e2 => ?_)
    clear e1
    obtain rfl := List.mem_singleton.mp hc
    refine X.callV (My := mX7_readNumber) (n := 0) (As := []) (T := (fun v => (some (.int v)))) (stk' := (fun v => [.int v])) (rest := []) (kc' := 0) (ks' := 0) dX7_readTest_80 e2 (fun v h n e => k_X7_readNumber (d := d + 0) e) hb rfl wd464 wd81 wd463 wd4 wd461 (by decide +kernel) rfl (by decide) rfl rfl (Nat.le_of_ble_eq_true rfl) (Nat.le_of_ble_eq_true rfl) (Nat.le_of_ble_eq_true rfl) rfl rfl (fun _ => rfl) (fun r1 h2 n3 e3 => ?_)
    clear e2
    refine X.if_ne (tgt := 88) dX7_readTest_83 (by decide) e3 (fun e4 => ?_) (fun e4 => ?_)
    · clear e3
      refine Ok.aload_n dX7_readTest_88 rfl ?_
      refine Ok.aload_n dX7_readTest_89 rfl ?_
      refine X.rgfI fl_RX7_19 dX7_readTest_90 e4 (fun v4 e5 => ?_)
      clear e4
      refine Ok.bipushV (v := (nI 8)) dX7_readTest_93 (by decide +kernel) ?_
      refine Ok.imul dX7_readTest_95 ?_
      refine Ok.iload_n dX7_readTest_96 rfl ?_
      refine Ok.iconstV (v := (nI 2)) dX7_readTest_97 (by decide +kernel) ?_
      refine Ok.imul dX7_readTest_98 ?_
      refine Ok.iadd dX7_readTest_99 ?_
      refine Ok.iload_n dX7_readTest_100 rfl ?_
      refine Ok.iadd dX7_readTest_101 ?_
      refine X.rck e5 (fun c fs hb hc e6 => ?_)
      clear e5
      obtain rfl := List.mem_singleton.mp hc
      refine X.callV (My := mX7_put) (n := 1) (As := [.int ((((((v4 * (nI 8))) + ((s0 * (nI 2))))) + l1))]) (T := (fun v => (some (.int v)))) (stk' := (fun v => [.int v])) (rest := []) (kc' := 0) (ks' := 0) dX7_readTest_102 e6 (fun v h n e => k_X7_put (d := d + 0) e) hb rfl wd480 wd81 wd479 wd8 wd477 (by decide +kernel) rfl (by decide) rfl rfl (Nat.le_of_ble_eq_true rfl) (Nat.le_of_ble_eq_true rfl) (Nat.le_of_ble_eq_true rfl) rfl rfl (fun _ => rfl) (fun r5 h6 n7 e7 => ?_)
      clear e6
      exact X.zret dX7_readTest_105 rfl (Nat.le_of_ble_eq_true rfl) (Nat.le_of_ble_eq_true rfl) e7
    · clear e3
      exact Ok.weakL (k_X7_readTest_86 (d := d) e4) trivial
noncomputable def F_X7_readTest_27 (G : Gx) (h : Hp) (nx : Nat) (s0 : Int32) (l0 : Nat) : Rz Int32 :=
if 0 ≤ s0 then
ck h l0 [7] (fun _ =>
cl (F_X7_take G h nx l0 (nI 60)) (fun r1 h2 n3 =>
if r1 = 0 then
ck h2 l0 [7] (fun _ =>
cl (F_X7_take G h2 n3 l0 (nI 61)) (fun r4 h5 n6 =>
if r4 = 0 then
ck h5 l0 [7] (fun _ =>
cl (F_X7_take G h5 n6 l0 (nI 62)) (fun r7 h8 n9 =>
if r7 = 0 then
(F_X7_readTest_74 G h8 n9 (-1 : Int32) l0 s0)
else
(F_X7_readTest_74 G h8 n9 (nI 2) l0 s0)))
else
(F_X7_readTest_74 G h5 n6 (nI 1) l0 s0)))
else
(F_X7_readTest_74 G h2 n3 (nI 0) l0 s0)))
else
zk (nI 0) (some ((nI 0), h, nx))
set_option maxRecDepth 100000 in
set_option maxHeartbeats 4000000 in
theorem k_X7_readTest_27 {G : Gx} {d : Nat} {v' : Int32} {h' : Hp} {n' : Nat} {h : Hp} {nx : Nat} {s0 : Int32} {l0 : Nat} (e : F_X7_readTest_27 G h nx s0 l0 = some (v', h', n')) : Ok G mX7_readTest (d + 1) (Same (some (.int v')) h' n') 27 [some (.ref l0), none, none] [.int s0] h nx 0 0 := by
  unfold F_X7_readTest_27 at e
  refine XL.istore_n dX7_readTest_27 (by decide) (L := [some (.ref l0), some (.int s0), none]) rfl ?_
  refine Ok.iload_n dX7_readTest_28 rfl ?_
  refine X.if_ge (tgt := 34) dX7_readTest_29 (by decide) e (fun e1 => ?_) (fun e1 => ?_)
  · clear e
    refine Ok.aload_n dX7_readTest_34 rfl ?_
    refine Ok.bipushV (v := (nI 60)) dX7_readTest_35 (by decide +kernel) ?_
    refine X.rck e1 (fun c fs hb hc e2 => ?_)
    clear e1
    obtain rfl := List.mem_singleton.mp hc
    refine X.callV (My := mX7_take) (n := 1) (As := [.int (nI 60)]) (T := (fun v => (some (.int v)))) (stk' := (fun v => [.int v])) (rest := []) (kc' := 0) (ks' := 0) dX7_readTest_37 e2 (fun v h n e => k_X7_take (d := d + 0) e) hb rfl wd460 wd81 wd459 wd3 wd457 (by decide +kernel) rfl (by decide) rfl rfl (Nat.le_of_ble_eq_true rfl) (Nat.le_of_ble_eq_true rfl) (Nat.le_of_ble_eq_true rfl) rfl rfl (fun _ => rfl) (fun r1 h2 n3 e3 => ?_)
    clear e2
    refine X.if_eq (tgt := 47) dX7_readTest_40 (by decide) e3 (fun e4 => ?_) (fun e4 => ?_)
    · clear e3
      refine Ok.aload_n dX7_readTest_47 rfl ?_
      refine Ok.bipushV (v := (nI 61)) dX7_readTest_48 (by decide +kernel) ?_
      refine X.rck e4 (fun c fs hb hc e5 => ?_)
      clear e4
      obtain rfl := List.mem_singleton.mp hc
      refine X.callV (My := mX7_take) (n := 1) (As := [.int (nI 61)]) (T := (fun v => (some (.int v)))) (stk' := (fun v => [.int v])) (rest := []) (kc' := 0) (ks' := 0) dX7_readTest_50 e5 (fun v h n e => k_X7_take (d := d + 0) e) hb rfl wd460 wd81 wd459 wd3 wd457 (by decide +kernel) rfl (by decide) rfl rfl (Nat.le_of_ble_eq_true rfl) (Nat.le_of_ble_eq_true rfl) (Nat.le_of_ble_eq_true rfl) rfl rfl (fun _ => rfl) (fun r4 h5 n6 e6 => ?_)
      clear e5
      refine X.if_eq (tgt := 60) dX7_readTest_53 (by decide) e6 (fun e7 => ?_) (fun e7 => ?_)
      · clear e6
        refine Ok.aload_n dX7_readTest_60 rfl ?_
        refine Ok.bipushV (v := (nI 62)) dX7_readTest_61 (by decide +kernel) ?_
        refine X.rck e7 (fun c fs hb hc e8 => ?_)
        clear e7
        obtain rfl := List.mem_singleton.mp hc
        refine X.callV (My := mX7_take) (n := 1) (As := [.int (nI 62)]) (T := (fun v => (some (.int v)))) (stk' := (fun v => [.int v])) (rest := []) (kc' := 0) (ks' := 0) dX7_readTest_63 e8 (fun v h n e => k_X7_take (d := d + 0) e) hb rfl wd460 wd81 wd459 wd3 wd457 (by decide +kernel) rfl (by decide) rfl rfl (Nat.le_of_ble_eq_true rfl) (Nat.le_of_ble_eq_true rfl) (Nat.le_of_ble_eq_true rfl) rfl rfl (fun _ => rfl) (fun r7 h8 n9 e9 => ?_)
        clear e8
        refine X.if_eq (tgt := 73) dX7_readTest_66 (by decide) e9 (fun e10 => ?_) (fun e10 => ?_)
        · clear e9
          refine Ok.iconstV (v := (-1 : Int32)) dX7_readTest_73 (by decide +kernel) ?_
          exact Ok.weakL (k_X7_readTest_74 (d := d) e10) ⟨rfl, ⟨rfl, trivial⟩⟩
        · clear e9
          refine Ok.iconstV (v := (nI 2)) dX7_readTest_69 (by decide +kernel) ?_
          refine Ok.goto (tgt := 74) dX7_readTest_70 (by decide) ?_
          exact Ok.weakL (k_X7_readTest_74 (d := d) e10) ⟨rfl, ⟨rfl, trivial⟩⟩
      · clear e6
        refine Ok.iconstV (v := (nI 1)) dX7_readTest_56 (by decide +kernel) ?_
        refine Ok.goto (tgt := 74) dX7_readTest_57 (by decide) ?_
        exact Ok.weakL (k_X7_readTest_74 (d := d) e7) ⟨rfl, ⟨rfl, trivial⟩⟩
    · clear e3
      refine Ok.iconstV (v := (nI 0)) dX7_readTest_43 (by decide +kernel) ?_
      refine Ok.goto (tgt := 74) dX7_readTest_44 (by decide) ?_
      exact Ok.weakL (k_X7_readTest_74 (d := d) e4) ⟨rfl, ⟨rfl, trivial⟩⟩
  · clear e
    refine Ok.iconstV (v := (nI 0)) dX7_readTest_32 (by decide +kernel) ?_
    exact X.zret dX7_readTest_33 rfl (Nat.le_of_ble_eq_true rfl) (Nat.le_of_ble_eq_true rfl) e1
noncomputable def F_X7_readTest (G : Gx) (h : Hp) (nx : Nat) (a0 : Nat) : Rz Int32 :=
ck h a0 [7] (fun _ =>
cl (F_X7_take G h nx a0 (nI 100)) (fun r1 h2 n3 =>
if r1 = 0 then
ck h2 a0 [7] (fun _ =>
cl (F_X7_take G h2 n3 a0 (nI 107)) (fun r4 h5 n6 =>
if r4 = 0 then
(F_X7_readTest_27 G h5 n6 (-1 : Int32) a0)
else
(F_X7_readTest_27 G h5 n6 (nI 1) a0)))
else
(F_X7_readTest_27 G h2 n3 (nI 0) a0)))
set_option maxRecDepth 100000 in
set_option maxHeartbeats 4000000 in
theorem k_X7_readTest {G : Gx} {d : Nat} {h : Hp} {nx : Nat} {a0 : Nat} {v' : Int32} {h' : Hp} {n' : Nat} (e : F_X7_readTest G h nx a0 = some (v', h', n')) : Ct G mX7_readTest (d + 1) (Same (some (.int v')) h' n') [.ref a0] h nx := by
  unfold F_X7_readTest at e
  refine Ct.of (ls := [some (.ref a0), none, none]) (by decide +kernel) rfl (Nat.le_of_ble_eq_true rfl) rfl ?_
  refine Ok.aload_n dX7_readTest_0 rfl ?_
  refine Ok.bipushV (v := (nI 100)) dX7_readTest_1 (by decide +kernel) ?_
  refine X.rck e (fun c fs hb hc e1 => ?_)
  clear e
  obtain rfl := List.mem_singleton.mp hc
  refine X.callV (My := mX7_take) (n := 1) (As := [.int (nI 100)]) (T := (fun v => (some (.int v)))) (stk' := (fun v => [.int v])) (rest := []) (kc' := 0) (ks' := 0) dX7_readTest_3 e1 (fun v h n e => k_X7_take (d := d + 0) e) hb rfl wd460 wd81 wd459 wd3 wd457 (by decide +kernel) rfl (by decide) rfl rfl (Nat.le_of_ble_eq_true rfl) (Nat.le_of_ble_eq_true rfl) (Nat.le_of_ble_eq_true rfl) rfl rfl (fun _ => rfl) (fun r1 h2 n3 e2 => ?_)
  clear e1
  refine X.if_eq (tgt := 13) dX7_readTest_6 (by decide) e2 (fun e3 => ?_) (fun e3 => ?_)
  · clear e2
    refine Ok.aload_n dX7_readTest_13 rfl ?_
    refine Ok.bipushV (v := (nI 107)) dX7_readTest_14 (by decide +kernel) ?_
    refine X.rck e3 (fun c fs hb hc e4 => ?_)
    clear e3
    obtain rfl := List.mem_singleton.mp hc
    refine X.callV (My := mX7_take) (n := 1) (As := [.int (nI 107)]) (T := (fun v => (some (.int v)))) (stk' := (fun v => [.int v])) (rest := []) (kc' := 0) (ks' := 0) dX7_readTest_16 e4 (fun v h n e => k_X7_take (d := d + 0) e) hb rfl wd460 wd81 wd459 wd3 wd457 (by decide +kernel) rfl (by decide) rfl rfl (Nat.le_of_ble_eq_true rfl) (Nat.le_of_ble_eq_true rfl) (Nat.le_of_ble_eq_true rfl) rfl rfl (fun _ => rfl) (fun r4 h5 n6 e5 => ?_)
    clear e4
    refine X.if_eq (tgt := 26) dX7_readTest_19 (by decide) e5 (fun e6 => ?_) (fun e6 => ?_)
    · clear e5
      refine Ok.iconstV (v := (-1 : Int32)) dX7_readTest_26 (by decide +kernel) ?_
      exact Ok.weakL (k_X7_readTest_27 (d := d) e6) ⟨rfl, trivial⟩
    · clear e5
      refine Ok.iconstV (v := (nI 1)) dX7_readTest_22 (by decide +kernel) ?_
      refine Ok.goto (tgt := 27) dX7_readTest_23 (by decide) ?_
      exact Ok.weakL (k_X7_readTest_27 (d := d) e6) ⟨rfl, trivial⟩
  · clear e2
    refine Ok.iconstV (v := (nI 0)) dX7_readTest_9 (by decide +kernel) ?_
    refine Ok.goto (tgt := 27) dX7_readTest_10 (by decide) ?_
    exact Ok.weakL (k_X7_readTest_27 (d := d) e3) ⟨rfl, trivial⟩
noncomputable def F_X7_readBoth_52 (G : Gx) (c_X7_readBoth : Hp → Nat → Nat → Int32 → Rz Int32) (c_X7_readEither : Hp → Nat → Nat → Int32 → Rz Int32) (c_X7_readPart : Hp → Nat → Nat → Int32 → Rz Int32) (h : Hp) (nx : Nat) : Rz Int32 :=
zk (nI 1) (some ((nI 1), h, nx))
set_option maxRecDepth 100000 in
set_option maxHeartbeats 4000000 in
theorem k_X7_readBoth_52 {G : Gx} {d : Nat} {v' : Int32} {h' : Hp} {n' : Nat} {c_X7_readBoth : Hp → Nat → Nat → Int32 → Rz Int32} (C_X7_readBoth : ∀ {h : Hp} {nx : Nat} {b0 : Nat} {b1 : Int32} {v : Int32} {h1 : Hp} {n1 : Nat}, c_X7_readBoth h nx b0 b1 = some (v, h1, n1) → Ct G mX7_readBoth (d + 2) (Same (some (.int v)) h1 n1) [.ref b0, .int b1] h nx) {c_X7_readEither : Hp → Nat → Nat → Int32 → Rz Int32} (C_X7_readEither : ∀ {h : Hp} {nx : Nat} {b0 : Nat} {b1 : Int32} {v : Int32} {h1 : Hp} {n1 : Nat}, c_X7_readEither h nx b0 b1 = some (v, h1, n1) → Ct G mX7_readEither (d + 2) (Same (some (.int v)) h1 n1) [.ref b0, .int b1] h nx) {c_X7_readPart : Hp → Nat → Nat → Int32 → Rz Int32} (C_X7_readPart : ∀ {h : Hp} {nx : Nat} {b0 : Nat} {b1 : Int32} {v : Int32} {h1 : Hp} {n1 : Nat}, c_X7_readPart h nx b0 b1 = some (v, h1, n1) → Ct G mX7_readPart (d + 2) (Same (some (.int v)) h1 n1) [.ref b0, .int b1] h nx) {h : Hp} {nx : Nat} (e : F_X7_readBoth_52 G c_X7_readBoth c_X7_readEither c_X7_readPart h nx = some (v', h', n')) : Ok G mX7_readBoth (d + 3) (Same (some (.int v')) h' n') 52 [none, none, none] [] h nx 0 0 := by
  unfold F_X7_readBoth_52 at e
  refine Ok.iconstV (v := (nI 1)) dX7_readBoth_52 (by decide +kernel) ?_
  exact X.zret dX7_readBoth_53 rfl (Nat.le_of_ble_eq_true rfl) (Nat.le_of_ble_eq_true rfl) e
noncomputable def F_X7_readBoth_44 (G : Gx) (c_X7_readBoth : Hp → Nat → Nat → Int32 → Rz Int32) (c_X7_readEither : Hp → Nat → Nat → Int32 → Rz Int32) (c_X7_readPart : Hp → Nat → Nat → Int32 → Rz Int32) (h : Hp) (nx : Nat) : Rz Int32 :=
zk (nI 0) (some ((nI 0), h, nx))
set_option maxRecDepth 100000 in
set_option maxHeartbeats 4000000 in
theorem k_X7_readBoth_44 {G : Gx} {d : Nat} {v' : Int32} {h' : Hp} {n' : Nat} {c_X7_readBoth : Hp → Nat → Nat → Int32 → Rz Int32} (C_X7_readBoth : ∀ {h : Hp} {nx : Nat} {b0 : Nat} {b1 : Int32} {v : Int32} {h1 : Hp} {n1 : Nat}, c_X7_readBoth h nx b0 b1 = some (v, h1, n1) → Ct G mX7_readBoth (d + 2) (Same (some (.int v)) h1 n1) [.ref b0, .int b1] h nx) {c_X7_readEither : Hp → Nat → Nat → Int32 → Rz Int32} (C_X7_readEither : ∀ {h : Hp} {nx : Nat} {b0 : Nat} {b1 : Int32} {v : Int32} {h1 : Hp} {n1 : Nat}, c_X7_readEither h nx b0 b1 = some (v, h1, n1) → Ct G mX7_readEither (d + 2) (Same (some (.int v)) h1 n1) [.ref b0, .int b1] h nx) {c_X7_readPart : Hp → Nat → Nat → Int32 → Rz Int32} (C_X7_readPart : ∀ {h : Hp} {nx : Nat} {b0 : Nat} {b1 : Int32} {v : Int32} {h1 : Hp} {n1 : Nat}, c_X7_readPart h nx b0 b1 = some (v, h1, n1) → Ct G mX7_readPart (d + 2) (Same (some (.int v)) h1 n1) [.ref b0, .int b1] h nx) {h : Hp} {nx : Nat} (e : F_X7_readBoth_44 G c_X7_readBoth c_X7_readEither c_X7_readPart h nx = some (v', h', n')) : Ok G mX7_readBoth (d + 3) (Same (some (.int v')) h' n') 44 [none, none, none] [] h nx 0 0 := by
  unfold F_X7_readBoth_44 at e
  refine Ok.iconstV (v := (nI 0)) dX7_readBoth_44 (by decide +kernel) ?_
  exact X.zret dX7_readBoth_45 rfl (Nat.le_of_ble_eq_true rfl) (Nat.le_of_ble_eq_true rfl) e
noncomputable def F_X7_readBoth_12 (G : Gx) (c_X7_readBoth : Hp → Nat → Nat → Int32 → Rz Int32) (c_X7_readEither : Hp → Nat → Nat → Int32 → Rz Int32) (c_X7_readPart : Hp → Nat → Nat → Int32 → Rz Int32) : Nat → Hp → Nat → Nat → Int32 → Int32 → Rz Int32 := fun n => Nat.rec (motive := fun _ => Hp → Nat → Nat → Int32 → Int32 → Rz Int32) (fun _ _ _ _ _ => none) (fun _ k12 => fun h nx l0 l1 l2 =>
if (nI 120) ≤ l2 then
(F_X7_readBoth_52 G c_X7_readBoth c_X7_readEither c_X7_readPart h nx)
else
ck h l0 [7] (fun _ =>
cl (F_X7_take G h nx l0 (nI 38)) (fun r1 h2 n3 =>
if r1 = 0 then
(F_X7_readBoth_52 G c_X7_readBoth c_X7_readEither c_X7_readPart h2 n3)
else
ck h2 l0 [7] (fun _ =>
cl (c_X7_readPart h2 n3 l0 l1) (fun r4 h5 n6 =>
if r4 = 0 then
(F_X7_readBoth_44 G c_X7_readBoth c_X7_readEither c_X7_readPart h5 n6)
else
ck h5 l0 [7] (fun _ =>
cl (F_X7_put G h5 n6 l0 (-2 : Int32)) (fun r7 h8 n9 =>
if r7 = 0 then
(F_X7_readBoth_44 G c_X7_readBoth c_X7_readEither c_X7_readPart h8 n9)
else
nm (l2 + (nI 1)) (fun v10 =>
(k12 h8 n9 l0 l1 v10))))))))) n
theorem F_X7_readBoth_12_0 {G : Gx} (c_X7_readBoth : Hp → Nat → Nat → Int32 → Rz Int32) (c_X7_readEither : Hp → Nat → Nat → Int32 → Rz Int32) (c_X7_readPart : Hp → Nat → Nat → Int32 → Rz Int32) {h : Hp} {nx : Nat} {l0 : Nat} {l1 : Int32} {l2 : Int32} : F_X7_readBoth_12 G c_X7_readBoth c_X7_readEither c_X7_readPart 0 h nx l0 l1 l2 = none := rfl
theorem F_X7_readBoth_12_s {G : Gx} (c_X7_readBoth : Hp → Nat → Nat → Int32 → Rz Int32) (c_X7_readEither : Hp → Nat → Nat → Int32 → Rz Int32) (c_X7_readPart : Hp → Nat → Nat → Int32 → Rz Int32) {n : Nat} {h : Hp} {nx : Nat} {l0 : Nat} {l1 : Int32} {l2 : Int32} : F_X7_readBoth_12 G c_X7_readBoth c_X7_readEither c_X7_readPart (n + 1) h nx l0 l1 l2 = (
if (nI 120) ≤ l2 then
(F_X7_readBoth_52 G c_X7_readBoth c_X7_readEither c_X7_readPart h nx)
else
ck h l0 [7] (fun _ =>
cl (F_X7_take G h nx l0 (nI 38)) (fun r1 h2 n3 =>
if r1 = 0 then
(F_X7_readBoth_52 G c_X7_readBoth c_X7_readEither c_X7_readPart h2 n3)
else
ck h2 l0 [7] (fun _ =>
cl (c_X7_readPart h2 n3 l0 l1) (fun r4 h5 n6 =>
if r4 = 0 then
(F_X7_readBoth_44 G c_X7_readBoth c_X7_readEither c_X7_readPart h5 n6)
else
ck h5 l0 [7] (fun _ =>
cl (F_X7_put G h5 n6 l0 (-2 : Int32)) (fun r7 h8 n9 =>
if r7 = 0 then
(F_X7_readBoth_44 G c_X7_readBoth c_X7_readEither c_X7_readPart h8 n9)
else
nm (l2 + (nI 1)) (fun v10 =>
((F_X7_readBoth_12 G c_X7_readBoth c_X7_readEither c_X7_readPart n) h8 n9 l0 l1 v10))))))))) := rfl
set_option maxRecDepth 100000 in
set_option maxHeartbeats 4000000 in
theorem k_X7_readBoth_12 {G : Gx} {d : Nat} {v' : Int32} {h' : Hp} {n' : Nat} {c_X7_readBoth : Hp → Nat → Nat → Int32 → Rz Int32} (C_X7_readBoth : ∀ {h : Hp} {nx : Nat} {b0 : Nat} {b1 : Int32} {v : Int32} {h1 : Hp} {n1 : Nat}, c_X7_readBoth h nx b0 b1 = some (v, h1, n1) → Ct G mX7_readBoth (d + 2) (Same (some (.int v)) h1 n1) [.ref b0, .int b1] h nx) {c_X7_readEither : Hp → Nat → Nat → Int32 → Rz Int32} (C_X7_readEither : ∀ {h : Hp} {nx : Nat} {b0 : Nat} {b1 : Int32} {v : Int32} {h1 : Hp} {n1 : Nat}, c_X7_readEither h nx b0 b1 = some (v, h1, n1) → Ct G mX7_readEither (d + 2) (Same (some (.int v)) h1 n1) [.ref b0, .int b1] h nx) {c_X7_readPart : Hp → Nat → Nat → Int32 → Rz Int32} (C_X7_readPart : ∀ {h : Hp} {nx : Nat} {b0 : Nat} {b1 : Int32} {v : Int32} {h1 : Hp} {n1 : Nat}, c_X7_readPart h nx b0 b1 = some (v, h1, n1) → Ct G mX7_readPart (d + 2) (Same (some (.int v)) h1 n1) [.ref b0, .int b1] h nx) : ∀ (n : Nat) {h : Hp} {nx : Nat} {l0 : Nat} {l1 : Int32} {l2 : Int32}, F_X7_readBoth_12 G c_X7_readBoth c_X7_readEither c_X7_readPart n h nx l0 l1 l2 = some (v', h', n') → Ok G mX7_readBoth (d + 3) (Same (some (.int v')) h' n') 12 [some (.ref l0), some (.int l1), some (.int l2)] [] h nx 0 0 := by
  intro n
  induction n with
  | zero =>
    intro h nx l0 l1 l2 e
    rw [F_X7_readBoth_12_0] at e
    cases e
  | succ n K12 =>
    intro h nx l0 l1 l2 e
    rw [F_X7_readBoth_12_s] at e
    refine Ok.iload_n dX7_readBoth_12 rfl ?_
    refine Ok.bipushV (v := (nI 120)) dX7_readBoth_13 (by decide +kernel) ?_
    refine X.icmp_ge (tgt := 52) dX7_readBoth_15 (by decide) e (fun e1 => ?_) (fun e1 => ?_)
    · clear e
      exact Ok.weakL (k_X7_readBoth_52 (d := d) C_X7_readBoth C_X7_readEither C_X7_readPart e1) trivial
    · clear e
      refine Ok.aload_n dX7_readBoth_18 rfl ?_
      refine Ok.bipushV (v := (nI 38)) dX7_readBoth_19 (by decide +kernel) ?_
      refine X.rck e1 (fun c fs hb hc e2 => ?_)
      clear e1
      obtain rfl := List.mem_singleton.mp hc
      refine X.callV (My := mX7_take) (n := 1) (As := [.int (nI 38)]) (T := (fun v => (some (.int v)))) (stk' := (fun v => [.int v])) (rest := []) (kc' := 0) (ks' := 0) dX7_readBoth_21 e2 (fun v h n e => k_X7_take (d := d + 2) e) hb rfl wd460 wd81 wd459 wd3 wd457 (by decide +kernel) rfl (by decide) rfl rfl (Nat.le_of_ble_eq_true rfl) (Nat.le_of_ble_eq_true rfl) (Nat.le_of_ble_eq_true rfl) rfl rfl (fun _ => rfl) (fun r1 h2 n3 e3 => ?_)
      clear e2
      refine X.if_eq (tgt := 52) dX7_readBoth_24 (by decide) e3 (fun e4 => ?_) (fun e4 => ?_)
      · clear e3
        exact Ok.weakL (k_X7_readBoth_52 (d := d) C_X7_readBoth C_X7_readEither C_X7_readPart e4) trivial
      · clear e3
        refine Ok.aload_n dX7_readBoth_27 rfl ?_
        refine Ok.iload_n dX7_readBoth_28 rfl ?_
        refine X.rck e4 (fun c fs hb hc e5 => ?_)
        clear e4
        obtain rfl := List.mem_singleton.mp hc
        refine X.callV (My := mX7_readPart) (n := 1) (As := [.int l1]) (T := (fun v => (some (.int v)))) (stk' := (fun v => [.int v])) (rest := []) (kc' := 0) (ks' := 0) dX7_readBoth_29 e5 (fun v h n e => C_X7_readPart e) hb rfl wd476 wd81 wd475 wd7 wd473 (by decide +kernel) rfl (by decide) rfl rfl (Nat.le_of_ble_eq_true rfl) (Nat.le_of_ble_eq_true rfl) (Nat.le_of_ble_eq_true rfl) rfl rfl (fun _ => rfl) (fun r4 h5 n6 e6 => ?_)
        clear e5
        refine X.if_eq (tgt := 44) dX7_readBoth_32 (by decide) e6 (fun e7 => ?_) (fun e7 => ?_)
        · clear e6
          exact Ok.weakL (k_X7_readBoth_44 (d := d) C_X7_readBoth C_X7_readEither C_X7_readPart e7) trivial
        · clear e6
          refine Ok.aload_n dX7_readBoth_35 rfl ?_
          refine Ok.bipushV (v := (-2 : Int32)) dX7_readBoth_36 (by decide +kernel) ?_
          refine X.rck e7 (fun c fs hb hc e8 => ?_)
          clear e7
          obtain rfl := List.mem_singleton.mp hc
          refine X.callV (My := mX7_put) (n := 1) (As := [.int (-2 : Int32)]) (T := (fun v => (some (.int v)))) (stk' := (fun v => [.int v])) (rest := []) (kc' := 0) (ks' := 0) dX7_readBoth_38 e8 (fun v h n e => k_X7_put (d := d + 2) e) hb rfl wd480 wd81 wd479 wd8 wd477 (by decide +kernel) rfl (by decide) rfl rfl (Nat.le_of_ble_eq_true rfl) (Nat.le_of_ble_eq_true rfl) (Nat.le_of_ble_eq_true rfl) rfl rfl (fun _ => rfl) (fun r7 h8 n9 e9 => ?_)
          clear e8
          refine X.if_ne (tgt := 46) dX7_readBoth_41 (by decide) e9 (fun e10 => ?_) (fun e10 => ?_)
          · clear e9
            refine X.iinc dX7_readBoth_46 rfl (by decide) (by decide +kernel) e10 (L := fun v10 => [some (.ref l0), some (.int l1), some (.int v10)]) (fun _ => rfl) (fun v10 e11 => ?_)
            clear e10
            refine Ok.goto (tgt := 12) dX7_readBoth_49 (by decide) ?_
            exact Ok.weakL (K12 e11) ⟨rfl, ⟨rfl, ⟨rfl, trivial⟩⟩⟩
          · clear e9
            exact Ok.weakL (k_X7_readBoth_44 (d := d) C_X7_readBoth C_X7_readEither C_X7_readPart e10) trivial
noncomputable def B_X7_readBoth (G : Gx) (c_X7_readBoth : Hp → Nat → Nat → Int32 → Rz Int32) (c_X7_readEither : Hp → Nat → Nat → Int32 → Rz Int32) (c_X7_readPart : Hp → Nat → Nat → Int32 → Rz Int32) (h : Hp) (nx : Nat) (a0 : Nat) (a1 : Int32) : Rz Int32 :=
ck h a0 [7] (fun _ =>
cl (c_X7_readPart h nx a0 a1) (fun r1 h2 n3 =>
if r1 = 0 then
zk (nI 0) (some ((nI 0), h2, n3))
else
(F_X7_readBoth_12 G c_X7_readBoth c_X7_readEither c_X7_readPart fuelL h2 n3 a0 a1 (nI 0))))
set_option maxRecDepth 100000 in
set_option maxHeartbeats 4000000 in
theorem b_X7_readBoth {G : Gx} {d : Nat} {c_X7_readBoth : Hp → Nat → Nat → Int32 → Rz Int32} (C_X7_readBoth : ∀ {h : Hp} {nx : Nat} {b0 : Nat} {b1 : Int32} {v : Int32} {h1 : Hp} {n1 : Nat}, c_X7_readBoth h nx b0 b1 = some (v, h1, n1) → Ct G mX7_readBoth (d + 2) (Same (some (.int v)) h1 n1) [.ref b0, .int b1] h nx) {c_X7_readEither : Hp → Nat → Nat → Int32 → Rz Int32} (C_X7_readEither : ∀ {h : Hp} {nx : Nat} {b0 : Nat} {b1 : Int32} {v : Int32} {h1 : Hp} {n1 : Nat}, c_X7_readEither h nx b0 b1 = some (v, h1, n1) → Ct G mX7_readEither (d + 2) (Same (some (.int v)) h1 n1) [.ref b0, .int b1] h nx) {c_X7_readPart : Hp → Nat → Nat → Int32 → Rz Int32} (C_X7_readPart : ∀ {h : Hp} {nx : Nat} {b0 : Nat} {b1 : Int32} {v : Int32} {h1 : Hp} {n1 : Nat}, c_X7_readPart h nx b0 b1 = some (v, h1, n1) → Ct G mX7_readPart (d + 2) (Same (some (.int v)) h1 n1) [.ref b0, .int b1] h nx) {h : Hp} {nx : Nat} {a0 : Nat} {a1 : Int32} {v' : Int32} {h' : Hp} {n' : Nat} (e : B_X7_readBoth G c_X7_readBoth c_X7_readEither c_X7_readPart h nx a0 a1 = some (v', h', n')) : Ct G mX7_readBoth (d + 3) (Same (some (.int v')) h' n') [.ref a0, .int a1] h nx := by
  unfold B_X7_readBoth at e
  refine Ct.of (ls := [some (.ref a0), some (.int a1), none]) (by decide +kernel) rfl (Nat.le_of_ble_eq_true rfl) rfl ?_
  refine Ok.aload_n dX7_readBoth_0 rfl ?_
  refine Ok.iload_n dX7_readBoth_1 rfl ?_
  refine X.rck e (fun c fs hb hc e1 => ?_)
  clear e
  obtain rfl := List.mem_singleton.mp hc
  refine X.callV (My := mX7_readPart) (n := 1) (As := [.int a1]) (T := (fun v => (some (.int v)))) (stk' := (fun v => [.int v])) (rest := []) (kc' := 0) (ks' := 0) dX7_readBoth_2 e1 (fun v h n e => C_X7_readPart e) hb rfl wd476 wd81 wd475 wd7 wd473 (by decide +kernel) rfl (by decide) rfl rfl (Nat.le_of_ble_eq_true rfl) (Nat.le_of_ble_eq_true rfl) (Nat.le_of_ble_eq_true rfl) rfl rfl (fun _ => rfl) (fun r1 h2 n3 e2 => ?_)
  clear e1
  refine X.if_ne (tgt := 10) dX7_readBoth_5 (by decide) e2 (fun e3 => ?_) (fun e3 => ?_)
  · clear e2
    refine Ok.iconstV (v := (nI 0)) dX7_readBoth_10 (by decide +kernel) ?_
    refine XL.istore_n dX7_readBoth_11 (by decide) (L := [some (.ref a0), some (.int a1), some (.int (nI 0))]) rfl ?_
    exact Ok.weakL (k_X7_readBoth_12 (d := d) C_X7_readBoth C_X7_readEither C_X7_readPart fuelL e3) ⟨rfl, ⟨rfl, ⟨rfl, trivial⟩⟩⟩
  · clear e2
    refine Ok.iconstV (v := (nI 0)) dX7_readBoth_8 (by decide +kernel) ?_
    exact X.zret dX7_readBoth_9 rfl (Nat.le_of_ble_eq_true rfl) (Nat.le_of_ble_eq_true rfl) e3
noncomputable def F_X7_readEither_52 (G : Gx) (c_X7_readBoth : Hp → Nat → Nat → Int32 → Rz Int32) (c_X7_readEither : Hp → Nat → Nat → Int32 → Rz Int32) (c_X7_readPart : Hp → Nat → Nat → Int32 → Rz Int32) (h : Hp) (nx : Nat) : Rz Int32 :=
zk (nI 1) (some ((nI 1), h, nx))
set_option maxRecDepth 100000 in
set_option maxHeartbeats 4000000 in
theorem k_X7_readEither_52 {G : Gx} {d : Nat} {v' : Int32} {h' : Hp} {n' : Nat} {c_X7_readBoth : Hp → Nat → Nat → Int32 → Rz Int32} (C_X7_readBoth : ∀ {h : Hp} {nx : Nat} {b0 : Nat} {b1 : Int32} {v : Int32} {h1 : Hp} {n1 : Nat}, c_X7_readBoth h nx b0 b1 = some (v, h1, n1) → Ct G mX7_readBoth (d + 2) (Same (some (.int v)) h1 n1) [.ref b0, .int b1] h nx) {c_X7_readEither : Hp → Nat → Nat → Int32 → Rz Int32} (C_X7_readEither : ∀ {h : Hp} {nx : Nat} {b0 : Nat} {b1 : Int32} {v : Int32} {h1 : Hp} {n1 : Nat}, c_X7_readEither h nx b0 b1 = some (v, h1, n1) → Ct G mX7_readEither (d + 2) (Same (some (.int v)) h1 n1) [.ref b0, .int b1] h nx) {c_X7_readPart : Hp → Nat → Nat → Int32 → Rz Int32} (C_X7_readPart : ∀ {h : Hp} {nx : Nat} {b0 : Nat} {b1 : Int32} {v : Int32} {h1 : Hp} {n1 : Nat}, c_X7_readPart h nx b0 b1 = some (v, h1, n1) → Ct G mX7_readPart (d + 2) (Same (some (.int v)) h1 n1) [.ref b0, .int b1] h nx) {h : Hp} {nx : Nat} (e : F_X7_readEither_52 G c_X7_readBoth c_X7_readEither c_X7_readPart h nx = some (v', h', n')) : Ok G mX7_readEither (d + 3) (Same (some (.int v')) h' n') 52 [none, none, none] [] h nx 0 0 := by
  unfold F_X7_readEither_52 at e
  refine Ok.iconstV (v := (nI 1)) dX7_readEither_52 (by decide +kernel) ?_
  exact X.zret dX7_readEither_53 rfl (Nat.le_of_ble_eq_true rfl) (Nat.le_of_ble_eq_true rfl) e
noncomputable def F_X7_readEither_44 (G : Gx) (c_X7_readBoth : Hp → Nat → Nat → Int32 → Rz Int32) (c_X7_readEither : Hp → Nat → Nat → Int32 → Rz Int32) (c_X7_readPart : Hp → Nat → Nat → Int32 → Rz Int32) (h : Hp) (nx : Nat) : Rz Int32 :=
zk (nI 0) (some ((nI 0), h, nx))
set_option maxRecDepth 100000 in
set_option maxHeartbeats 4000000 in
theorem k_X7_readEither_44 {G : Gx} {d : Nat} {v' : Int32} {h' : Hp} {n' : Nat} {c_X7_readBoth : Hp → Nat → Nat → Int32 → Rz Int32} (C_X7_readBoth : ∀ {h : Hp} {nx : Nat} {b0 : Nat} {b1 : Int32} {v : Int32} {h1 : Hp} {n1 : Nat}, c_X7_readBoth h nx b0 b1 = some (v, h1, n1) → Ct G mX7_readBoth (d + 2) (Same (some (.int v)) h1 n1) [.ref b0, .int b1] h nx) {c_X7_readEither : Hp → Nat → Nat → Int32 → Rz Int32} (C_X7_readEither : ∀ {h : Hp} {nx : Nat} {b0 : Nat} {b1 : Int32} {v : Int32} {h1 : Hp} {n1 : Nat}, c_X7_readEither h nx b0 b1 = some (v, h1, n1) → Ct G mX7_readEither (d + 2) (Same (some (.int v)) h1 n1) [.ref b0, .int b1] h nx) {c_X7_readPart : Hp → Nat → Nat → Int32 → Rz Int32} (C_X7_readPart : ∀ {h : Hp} {nx : Nat} {b0 : Nat} {b1 : Int32} {v : Int32} {h1 : Hp} {n1 : Nat}, c_X7_readPart h nx b0 b1 = some (v, h1, n1) → Ct G mX7_readPart (d + 2) (Same (some (.int v)) h1 n1) [.ref b0, .int b1] h nx) {h : Hp} {nx : Nat} (e : F_X7_readEither_44 G c_X7_readBoth c_X7_readEither c_X7_readPart h nx = some (v', h', n')) : Ok G mX7_readEither (d + 3) (Same (some (.int v')) h' n') 44 [none, none, none] [] h nx 0 0 := by
  unfold F_X7_readEither_44 at e
  refine Ok.iconstV (v := (nI 0)) dX7_readEither_44 (by decide +kernel) ?_
  exact X.zret dX7_readEither_45 rfl (Nat.le_of_ble_eq_true rfl) (Nat.le_of_ble_eq_true rfl) e
noncomputable def F_X7_readEither_12 (G : Gx) (c_X7_readBoth : Hp → Nat → Nat → Int32 → Rz Int32) (c_X7_readEither : Hp → Nat → Nat → Int32 → Rz Int32) (c_X7_readPart : Hp → Nat → Nat → Int32 → Rz Int32) : Nat → Hp → Nat → Nat → Int32 → Int32 → Rz Int32 := fun n => Nat.rec (motive := fun _ => Hp → Nat → Nat → Int32 → Int32 → Rz Int32) (fun _ _ _ _ _ => none) (fun _ k12 => fun h nx l0 l1 l2 =>
if (nI 120) ≤ l2 then
(F_X7_readEither_52 G c_X7_readBoth c_X7_readEither c_X7_readPart h nx)
else
ck h l0 [7] (fun _ =>
cl (F_X7_take G h nx l0 (nI 124)) (fun r1 h2 n3 =>
if r1 = 0 then
(F_X7_readEither_52 G c_X7_readBoth c_X7_readEither c_X7_readPart h2 n3)
else
ck h2 l0 [7] (fun _ =>
cl (c_X7_readBoth h2 n3 l0 l1) (fun r4 h5 n6 =>
if r4 = 0 then
(F_X7_readEither_44 G c_X7_readBoth c_X7_readEither c_X7_readPart h5 n6)
else
ck h5 l0 [7] (fun _ =>
cl (F_X7_put G h5 n6 l0 (-3 : Int32)) (fun r7 h8 n9 =>
if r7 = 0 then
(F_X7_readEither_44 G c_X7_readBoth c_X7_readEither c_X7_readPart h8 n9)
else
nm (l2 + (nI 1)) (fun v10 =>
(k12 h8 n9 l0 l1 v10))))))))) n
theorem F_X7_readEither_12_0 {G : Gx} (c_X7_readBoth : Hp → Nat → Nat → Int32 → Rz Int32) (c_X7_readEither : Hp → Nat → Nat → Int32 → Rz Int32) (c_X7_readPart : Hp → Nat → Nat → Int32 → Rz Int32) {h : Hp} {nx : Nat} {l0 : Nat} {l1 : Int32} {l2 : Int32} : F_X7_readEither_12 G c_X7_readBoth c_X7_readEither c_X7_readPart 0 h nx l0 l1 l2 = none := rfl
theorem F_X7_readEither_12_s {G : Gx} (c_X7_readBoth : Hp → Nat → Nat → Int32 → Rz Int32) (c_X7_readEither : Hp → Nat → Nat → Int32 → Rz Int32) (c_X7_readPart : Hp → Nat → Nat → Int32 → Rz Int32) {n : Nat} {h : Hp} {nx : Nat} {l0 : Nat} {l1 : Int32} {l2 : Int32} : F_X7_readEither_12 G c_X7_readBoth c_X7_readEither c_X7_readPart (n + 1) h nx l0 l1 l2 = (
if (nI 120) ≤ l2 then
(F_X7_readEither_52 G c_X7_readBoth c_X7_readEither c_X7_readPart h nx)
else
ck h l0 [7] (fun _ =>
cl (F_X7_take G h nx l0 (nI 124)) (fun r1 h2 n3 =>
if r1 = 0 then
(F_X7_readEither_52 G c_X7_readBoth c_X7_readEither c_X7_readPart h2 n3)
else
ck h2 l0 [7] (fun _ =>
cl (c_X7_readBoth h2 n3 l0 l1) (fun r4 h5 n6 =>
if r4 = 0 then
(F_X7_readEither_44 G c_X7_readBoth c_X7_readEither c_X7_readPart h5 n6)
else
ck h5 l0 [7] (fun _ =>
cl (F_X7_put G h5 n6 l0 (-3 : Int32)) (fun r7 h8 n9 =>
if r7 = 0 then
(F_X7_readEither_44 G c_X7_readBoth c_X7_readEither c_X7_readPart h8 n9)
else
nm (l2 + (nI 1)) (fun v10 =>
((F_X7_readEither_12 G c_X7_readBoth c_X7_readEither c_X7_readPart n) h8 n9 l0 l1 v10))))))))) := rfl
set_option maxRecDepth 100000 in
set_option maxHeartbeats 4000000 in
theorem k_X7_readEither_12 {G : Gx} {d : Nat} {v' : Int32} {h' : Hp} {n' : Nat} {c_X7_readBoth : Hp → Nat → Nat → Int32 → Rz Int32} (C_X7_readBoth : ∀ {h : Hp} {nx : Nat} {b0 : Nat} {b1 : Int32} {v : Int32} {h1 : Hp} {n1 : Nat}, c_X7_readBoth h nx b0 b1 = some (v, h1, n1) → Ct G mX7_readBoth (d + 2) (Same (some (.int v)) h1 n1) [.ref b0, .int b1] h nx) {c_X7_readEither : Hp → Nat → Nat → Int32 → Rz Int32} (C_X7_readEither : ∀ {h : Hp} {nx : Nat} {b0 : Nat} {b1 : Int32} {v : Int32} {h1 : Hp} {n1 : Nat}, c_X7_readEither h nx b0 b1 = some (v, h1, n1) → Ct G mX7_readEither (d + 2) (Same (some (.int v)) h1 n1) [.ref b0, .int b1] h nx) {c_X7_readPart : Hp → Nat → Nat → Int32 → Rz Int32} (C_X7_readPart : ∀ {h : Hp} {nx : Nat} {b0 : Nat} {b1 : Int32} {v : Int32} {h1 : Hp} {n1 : Nat}, c_X7_readPart h nx b0 b1 = some (v, h1, n1) → Ct G mX7_readPart (d + 2) (Same (some (.int v)) h1 n1) [.ref b0, .int b1] h nx) : ∀ (n : Nat) {h : Hp} {nx : Nat} {l0 : Nat} {l1 : Int32} {l2 : Int32}, F_X7_readEither_12 G c_X7_readBoth c_X7_readEither c_X7_readPart n h nx l0 l1 l2 = some (v', h', n') → Ok G mX7_readEither (d + 3) (Same (some (.int v')) h' n') 12 [some (.ref l0), some (.int l1), some (.int l2)] [] h nx 0 0 := by
  intro n
  induction n with
  | zero =>
    intro h nx l0 l1 l2 e
    rw [F_X7_readEither_12_0] at e
    cases e
  | succ n K12 =>
    intro h nx l0 l1 l2 e
    rw [F_X7_readEither_12_s] at e
    refine Ok.iload_n dX7_readEither_12 rfl ?_
    refine Ok.bipushV (v := (nI 120)) dX7_readEither_13 (by decide +kernel) ?_
    refine X.icmp_ge (tgt := 52) dX7_readEither_15 (by decide) e (fun e1 => ?_) (fun e1 => ?_)
    · clear e
      exact Ok.weakL (k_X7_readEither_52 (d := d) C_X7_readBoth C_X7_readEither C_X7_readPart e1) trivial
    · clear e
      refine Ok.aload_n dX7_readEither_18 rfl ?_
      refine Ok.bipushV (v := (nI 124)) dX7_readEither_19 (by decide +kernel) ?_
      refine X.rck e1 (fun c fs hb hc e2 => ?_)
      clear e1
      obtain rfl := List.mem_singleton.mp hc
      refine X.callV (My := mX7_take) (n := 1) (As := [.int (nI 124)]) (T := (fun v => (some (.int v)))) (stk' := (fun v => [.int v])) (rest := []) (kc' := 0) (ks' := 0) dX7_readEither_21 e2 (fun v h n e => k_X7_take (d := d + 2) e) hb rfl wd460 wd81 wd459 wd3 wd457 (by decide +kernel) rfl (by decide) rfl rfl (Nat.le_of_ble_eq_true rfl) (Nat.le_of_ble_eq_true rfl) (Nat.le_of_ble_eq_true rfl) rfl rfl (fun _ => rfl) (fun r1 h2 n3 e3 => ?_)
      clear e2
      refine X.if_eq (tgt := 52) dX7_readEither_24 (by decide) e3 (fun e4 => ?_) (fun e4 => ?_)
      · clear e3
        exact Ok.weakL (k_X7_readEither_52 (d := d) C_X7_readBoth C_X7_readEither C_X7_readPart e4) trivial
      · clear e3
        refine Ok.aload_n dX7_readEither_27 rfl ?_
        refine Ok.iload_n dX7_readEither_28 rfl ?_
        refine X.rck e4 (fun c fs hb hc e5 => ?_)
        clear e4
        obtain rfl := List.mem_singleton.mp hc
        refine X.callV (My := mX7_readBoth) (n := 1) (As := [.int l1]) (T := (fun v => (some (.int v)))) (stk' := (fun v => [.int v])) (rest := []) (kc' := 0) (ks' := 0) dX7_readEither_29 e5 (fun v h n e => C_X7_readBoth e) hb rfl wd472 wd81 wd471 wd6 wd469 (by decide +kernel) rfl (by decide) rfl rfl (Nat.le_of_ble_eq_true rfl) (Nat.le_of_ble_eq_true rfl) (Nat.le_of_ble_eq_true rfl) rfl rfl (fun _ => rfl) (fun r4 h5 n6 e6 => ?_)
        clear e5
        refine X.if_eq (tgt := 44) dX7_readEither_32 (by decide) e6 (fun e7 => ?_) (fun e7 => ?_)
        · clear e6
          exact Ok.weakL (k_X7_readEither_44 (d := d) C_X7_readBoth C_X7_readEither C_X7_readPart e7) trivial
        · clear e6
          refine Ok.aload_n dX7_readEither_35 rfl ?_
          refine Ok.bipushV (v := (-3 : Int32)) dX7_readEither_36 (by decide +kernel) ?_
          refine X.rck e7 (fun c fs hb hc e8 => ?_)
          clear e7
          obtain rfl := List.mem_singleton.mp hc
          refine X.callV (My := mX7_put) (n := 1) (As := [.int (-3 : Int32)]) (T := (fun v => (some (.int v)))) (stk' := (fun v => [.int v])) (rest := []) (kc' := 0) (ks' := 0) dX7_readEither_38 e8 (fun v h n e => k_X7_put (d := d + 2) e) hb rfl wd480 wd81 wd479 wd8 wd477 (by decide +kernel) rfl (by decide) rfl rfl (Nat.le_of_ble_eq_true rfl) (Nat.le_of_ble_eq_true rfl) (Nat.le_of_ble_eq_true rfl) rfl rfl (fun _ => rfl) (fun r7 h8 n9 e9 => ?_)
          clear e8
          refine X.if_ne (tgt := 46) dX7_readEither_41 (by decide) e9 (fun e10 => ?_) (fun e10 => ?_)
          · clear e9
            refine X.iinc dX7_readEither_46 rfl (by decide) (by decide +kernel) e10 (L := fun v10 => [some (.ref l0), some (.int l1), some (.int v10)]) (fun _ => rfl) (fun v10 e11 => ?_)
            clear e10
            refine Ok.goto (tgt := 12) dX7_readEither_49 (by decide) ?_
            exact Ok.weakL (K12 e11) ⟨rfl, ⟨rfl, ⟨rfl, trivial⟩⟩⟩
          · clear e9
            exact Ok.weakL (k_X7_readEither_44 (d := d) C_X7_readBoth C_X7_readEither C_X7_readPart e10) trivial
noncomputable def B_X7_readEither (G : Gx) (c_X7_readBoth : Hp → Nat → Nat → Int32 → Rz Int32) (c_X7_readEither : Hp → Nat → Nat → Int32 → Rz Int32) (c_X7_readPart : Hp → Nat → Nat → Int32 → Rz Int32) (h : Hp) (nx : Nat) (a0 : Nat) (a1 : Int32) : Rz Int32 :=
ck h a0 [7] (fun _ =>
cl (c_X7_readBoth h nx a0 a1) (fun r1 h2 n3 =>
if r1 = 0 then
zk (nI 0) (some ((nI 0), h2, n3))
else
(F_X7_readEither_12 G c_X7_readBoth c_X7_readEither c_X7_readPart fuelL h2 n3 a0 a1 (nI 0))))
set_option maxRecDepth 100000 in
set_option maxHeartbeats 4000000 in
theorem b_X7_readEither {G : Gx} {d : Nat} {c_X7_readBoth : Hp → Nat → Nat → Int32 → Rz Int32} (C_X7_readBoth : ∀ {h : Hp} {nx : Nat} {b0 : Nat} {b1 : Int32} {v : Int32} {h1 : Hp} {n1 : Nat}, c_X7_readBoth h nx b0 b1 = some (v, h1, n1) → Ct G mX7_readBoth (d + 2) (Same (some (.int v)) h1 n1) [.ref b0, .int b1] h nx) {c_X7_readEither : Hp → Nat → Nat → Int32 → Rz Int32} (C_X7_readEither : ∀ {h : Hp} {nx : Nat} {b0 : Nat} {b1 : Int32} {v : Int32} {h1 : Hp} {n1 : Nat}, c_X7_readEither h nx b0 b1 = some (v, h1, n1) → Ct G mX7_readEither (d + 2) (Same (some (.int v)) h1 n1) [.ref b0, .int b1] h nx) {c_X7_readPart : Hp → Nat → Nat → Int32 → Rz Int32} (C_X7_readPart : ∀ {h : Hp} {nx : Nat} {b0 : Nat} {b1 : Int32} {v : Int32} {h1 : Hp} {n1 : Nat}, c_X7_readPart h nx b0 b1 = some (v, h1, n1) → Ct G mX7_readPart (d + 2) (Same (some (.int v)) h1 n1) [.ref b0, .int b1] h nx) {h : Hp} {nx : Nat} {a0 : Nat} {a1 : Int32} {v' : Int32} {h' : Hp} {n' : Nat} (e : B_X7_readEither G c_X7_readBoth c_X7_readEither c_X7_readPart h nx a0 a1 = some (v', h', n')) : Ct G mX7_readEither (d + 3) (Same (some (.int v')) h' n') [.ref a0, .int a1] h nx := by
  unfold B_X7_readEither at e
  refine Ct.of (ls := [some (.ref a0), some (.int a1), none]) (by decide +kernel) rfl (Nat.le_of_ble_eq_true rfl) rfl ?_
  refine Ok.aload_n dX7_readEither_0 rfl ?_
  refine Ok.iload_n dX7_readEither_1 rfl ?_
  refine X.rck e (fun c fs hb hc e1 => ?_)
  clear e
  obtain rfl := List.mem_singleton.mp hc
  refine X.callV (My := mX7_readBoth) (n := 1) (As := [.int a1]) (T := (fun v => (some (.int v)))) (stk' := (fun v => [.int v])) (rest := []) (kc' := 0) (ks' := 0) dX7_readEither_2 e1 (fun v h n e => C_X7_readBoth e) hb rfl wd472 wd81 wd471 wd6 wd469 (by decide +kernel) rfl (by decide) rfl rfl (Nat.le_of_ble_eq_true rfl) (Nat.le_of_ble_eq_true rfl) (Nat.le_of_ble_eq_true rfl) rfl rfl (fun _ => rfl) (fun r1 h2 n3 e2 => ?_)
  clear e1
  refine X.if_ne (tgt := 10) dX7_readEither_5 (by decide) e2 (fun e3 => ?_) (fun e3 => ?_)
  · clear e2
    refine Ok.iconstV (v := (nI 0)) dX7_readEither_10 (by decide +kernel) ?_
    refine XL.istore_n dX7_readEither_11 (by decide) (L := [some (.ref a0), some (.int a1), some (.int (nI 0))]) rfl ?_
    exact Ok.weakL (k_X7_readEither_12 (d := d) C_X7_readBoth C_X7_readEither C_X7_readPart fuelL e3) ⟨rfl, ⟨rfl, ⟨rfl, trivial⟩⟩⟩
  · clear e2
    refine Ok.iconstV (v := (nI 0)) dX7_readEither_8 (by decide +kernel) ?_
    exact X.zret dX7_readEither_9 rfl (Nat.le_of_ble_eq_true rfl) (Nat.le_of_ble_eq_true rfl) e3
noncomputable def F_X7_readPart_77 (G : Gx) (c_X7_readBoth : Hp → Nat → Nat → Int32 → Rz Int32) (c_X7_readEither : Hp → Nat → Nat → Int32 → Rz Int32) (c_X7_readPart : Hp → Nat → Nat → Int32 → Rz Int32) (h : Hp) (nx : Nat) (l0 : Nat) : Rz Int32 :=
ck h l0 [7] (fun _ =>
cl (F_X7_readTest G h nx l0) (fun r1 h2 n3 =>
zk r1 (some (r1, h2, n3))))
set_option maxRecDepth 100000 in
set_option maxHeartbeats 4000000 in
theorem k_X7_readPart_77 {G : Gx} {d : Nat} {v' : Int32} {h' : Hp} {n' : Nat} {c_X7_readBoth : Hp → Nat → Nat → Int32 → Rz Int32} (C_X7_readBoth : ∀ {h : Hp} {nx : Nat} {b0 : Nat} {b1 : Int32} {v : Int32} {h1 : Hp} {n1 : Nat}, c_X7_readBoth h nx b0 b1 = some (v, h1, n1) → Ct G mX7_readBoth (d + 2) (Same (some (.int v)) h1 n1) [.ref b0, .int b1] h nx) {c_X7_readEither : Hp → Nat → Nat → Int32 → Rz Int32} (C_X7_readEither : ∀ {h : Hp} {nx : Nat} {b0 : Nat} {b1 : Int32} {v : Int32} {h1 : Hp} {n1 : Nat}, c_X7_readEither h nx b0 b1 = some (v, h1, n1) → Ct G mX7_readEither (d + 2) (Same (some (.int v)) h1 n1) [.ref b0, .int b1] h nx) {c_X7_readPart : Hp → Nat → Nat → Int32 → Rz Int32} (C_X7_readPart : ∀ {h : Hp} {nx : Nat} {b0 : Nat} {b1 : Int32} {v : Int32} {h1 : Hp} {n1 : Nat}, c_X7_readPart h nx b0 b1 = some (v, h1, n1) → Ct G mX7_readPart (d + 2) (Same (some (.int v)) h1 n1) [.ref b0, .int b1] h nx) {h : Hp} {nx : Nat} {l0 : Nat} (e : F_X7_readPart_77 G c_X7_readBoth c_X7_readEither c_X7_readPart h nx l0 = some (v', h', n')) : Ok G mX7_readPart (d + 3) (Same (some (.int v')) h' n') 77 [some (.ref l0), none] [] h nx 0 0 := by
  unfold F_X7_readPart_77 at e
  refine Ok.aload_n dX7_readPart_77 rfl ?_
  refine X.rck e (fun c fs hb hc e1 => ?_)
  clear e
  obtain rfl := List.mem_singleton.mp hc
  refine X.callV (My := mX7_readTest) (n := 0) (As := []) (T := (fun v => (some (.int v)))) (stk' := (fun v => [.int v])) (rest := []) (kc' := 0) (ks' := 0) dX7_readPart_78 e1 (fun v h n e => k_X7_readTest (d := d + 1) e) hb rfl wd484 wd81 wd483 wd9 wd481 (by decide +kernel) rfl (by decide) rfl rfl (Nat.le_of_ble_eq_true rfl) (Nat.le_of_ble_eq_true rfl) (Nat.le_of_ble_eq_true rfl) rfl rfl (fun _ => rfl) (fun r1 h2 n3 e2 => ?_)
  clear e1
  exact X.zret dX7_readPart_81 rfl (Nat.le_of_ble_eq_true rfl) (Nat.le_of_ble_eq_true rfl) e2
noncomputable def F_X7_readPart_76 (G : Gx) (c_X7_readBoth : Hp → Nat → Nat → Int32 → Rz Int32) (c_X7_readEither : Hp → Nat → Nat → Int32 → Rz Int32) (c_X7_readPart : Hp → Nat → Nat → Int32 → Rz Int32) (h : Hp) (nx : Nat) (s0 : Int32) : Rz Int32 :=
zk s0 (some (s0, h, nx))
set_option maxRecDepth 100000 in
set_option maxHeartbeats 4000000 in
theorem k_X7_readPart_76 {G : Gx} {d : Nat} {v' : Int32} {h' : Hp} {n' : Nat} {c_X7_readBoth : Hp → Nat → Nat → Int32 → Rz Int32} (C_X7_readBoth : ∀ {h : Hp} {nx : Nat} {b0 : Nat} {b1 : Int32} {v : Int32} {h1 : Hp} {n1 : Nat}, c_X7_readBoth h nx b0 b1 = some (v, h1, n1) → Ct G mX7_readBoth (d + 2) (Same (some (.int v)) h1 n1) [.ref b0, .int b1] h nx) {c_X7_readEither : Hp → Nat → Nat → Int32 → Rz Int32} (C_X7_readEither : ∀ {h : Hp} {nx : Nat} {b0 : Nat} {b1 : Int32} {v : Int32} {h1 : Hp} {n1 : Nat}, c_X7_readEither h nx b0 b1 = some (v, h1, n1) → Ct G mX7_readEither (d + 2) (Same (some (.int v)) h1 n1) [.ref b0, .int b1] h nx) {c_X7_readPart : Hp → Nat → Nat → Int32 → Rz Int32} (C_X7_readPart : ∀ {h : Hp} {nx : Nat} {b0 : Nat} {b1 : Int32} {v : Int32} {h1 : Hp} {n1 : Nat}, c_X7_readPart h nx b0 b1 = some (v, h1, n1) → Ct G mX7_readPart (d + 2) (Same (some (.int v)) h1 n1) [.ref b0, .int b1] h nx) {h : Hp} {nx : Nat} {s0 : Int32} (e : F_X7_readPart_76 G c_X7_readBoth c_X7_readEither c_X7_readPart h nx s0 = some (v', h', n')) : Ok G mX7_readPart (d + 3) (Same (some (.int v')) h' n') 76 [none, none] [.int s0] h nx 0 0 := by
  unfold F_X7_readPart_76 at e
  exact X.zret dX7_readPart_76 rfl (Nat.le_of_ble_eq_true rfl) (Nat.le_of_ble_eq_true rfl) e
noncomputable def F_X7_readPart_75 (G : Gx) (c_X7_readBoth : Hp → Nat → Nat → Int32 → Rz Int32) (c_X7_readEither : Hp → Nat → Nat → Int32 → Rz Int32) (c_X7_readPart : Hp → Nat → Nat → Int32 → Rz Int32) (h : Hp) (nx : Nat) : Rz Int32 :=
(F_X7_readPart_76 G c_X7_readBoth c_X7_readEither c_X7_readPart h nx (nI 0))
set_option maxRecDepth 100000 in
set_option maxHeartbeats 4000000 in
theorem k_X7_readPart_75 {G : Gx} {d : Nat} {v' : Int32} {h' : Hp} {n' : Nat} {c_X7_readBoth : Hp → Nat → Nat → Int32 → Rz Int32} (C_X7_readBoth : ∀ {h : Hp} {nx : Nat} {b0 : Nat} {b1 : Int32} {v : Int32} {h1 : Hp} {n1 : Nat}, c_X7_readBoth h nx b0 b1 = some (v, h1, n1) → Ct G mX7_readBoth (d + 2) (Same (some (.int v)) h1 n1) [.ref b0, .int b1] h nx) {c_X7_readEither : Hp → Nat → Nat → Int32 → Rz Int32} (C_X7_readEither : ∀ {h : Hp} {nx : Nat} {b0 : Nat} {b1 : Int32} {v : Int32} {h1 : Hp} {n1 : Nat}, c_X7_readEither h nx b0 b1 = some (v, h1, n1) → Ct G mX7_readEither (d + 2) (Same (some (.int v)) h1 n1) [.ref b0, .int b1] h nx) {c_X7_readPart : Hp → Nat → Nat → Int32 → Rz Int32} (C_X7_readPart : ∀ {h : Hp} {nx : Nat} {b0 : Nat} {b1 : Int32} {v : Int32} {h1 : Hp} {n1 : Nat}, c_X7_readPart h nx b0 b1 = some (v, h1, n1) → Ct G mX7_readPart (d + 2) (Same (some (.int v)) h1 n1) [.ref b0, .int b1] h nx) {h : Hp} {nx : Nat} (e : F_X7_readPart_75 G c_X7_readBoth c_X7_readEither c_X7_readPart h nx = some (v', h', n')) : Ok G mX7_readPart (d + 3) (Same (some (.int v')) h' n') 75 [none, none] [] h nx 0 0 := by
  unfold F_X7_readPart_75 at e
  refine Ok.iconstV (v := (nI 0)) dX7_readPart_75 (by decide +kernel) ?_
  exact Ok.weakL (k_X7_readPart_76 (d := d) C_X7_readBoth C_X7_readEither C_X7_readPart e) trivial
noncomputable def F_X7_readPart_38 (G : Gx) (c_X7_readBoth : Hp → Nat → Nat → Int32 → Rz Int32) (c_X7_readEither : Hp → Nat → Nat → Int32 → Rz Int32) (c_X7_readPart : Hp → Nat → Nat → Int32 → Rz Int32) (h : Hp) (nx : Nat) (l0 : Nat) (l1 : Int32) : Rz Int32 :=
if (nI 5) ≤ l1 then
(F_X7_readPart_77 G c_X7_readBoth c_X7_readEither c_X7_readPart h nx l0)
else
ck h l0 [7] (fun _ =>
cl (F_X7_take G h nx l0 (nI 40)) (fun r1 h2 n3 =>
if r1 = 0 then
(F_X7_readPart_77 G c_X7_readBoth c_X7_readEither c_X7_readPart h2 n3 l0)
else
ck h2 l0 [7] (fun _ =>
cl (c_X7_readEither h2 n3 l0 ((l1 + (nI 1)))) (fun r4 h5 n6 =>
if r4 = 0 then
(F_X7_readPart_75 G c_X7_readBoth c_X7_readEither c_X7_readPart h5 n6)
else
ck h5 l0 [7] (fun _ =>
cl (F_X7_take G h5 n6 l0 (nI 41)) (fun r7 h8 n9 =>
if r7 = 0 then
(F_X7_readPart_75 G c_X7_readBoth c_X7_readEither c_X7_readPart h8 n9)
else
(F_X7_readPart_76 G c_X7_readBoth c_X7_readEither c_X7_readPart h8 n9 (nI 1))))))))
set_option maxRecDepth 100000 in
set_option maxHeartbeats 4000000 in
theorem k_X7_readPart_38 {G : Gx} {d : Nat} {v' : Int32} {h' : Hp} {n' : Nat} {c_X7_readBoth : Hp → Nat → Nat → Int32 → Rz Int32} (C_X7_readBoth : ∀ {h : Hp} {nx : Nat} {b0 : Nat} {b1 : Int32} {v : Int32} {h1 : Hp} {n1 : Nat}, c_X7_readBoth h nx b0 b1 = some (v, h1, n1) → Ct G mX7_readBoth (d + 2) (Same (some (.int v)) h1 n1) [.ref b0, .int b1] h nx) {c_X7_readEither : Hp → Nat → Nat → Int32 → Rz Int32} (C_X7_readEither : ∀ {h : Hp} {nx : Nat} {b0 : Nat} {b1 : Int32} {v : Int32} {h1 : Hp} {n1 : Nat}, c_X7_readEither h nx b0 b1 = some (v, h1, n1) → Ct G mX7_readEither (d + 2) (Same (some (.int v)) h1 n1) [.ref b0, .int b1] h nx) {c_X7_readPart : Hp → Nat → Nat → Int32 → Rz Int32} (C_X7_readPart : ∀ {h : Hp} {nx : Nat} {b0 : Nat} {b1 : Int32} {v : Int32} {h1 : Hp} {n1 : Nat}, c_X7_readPart h nx b0 b1 = some (v, h1, n1) → Ct G mX7_readPart (d + 2) (Same (some (.int v)) h1 n1) [.ref b0, .int b1] h nx) {h : Hp} {nx : Nat} {l0 : Nat} {l1 : Int32} (e : F_X7_readPart_38 G c_X7_readBoth c_X7_readEither c_X7_readPart h nx l0 l1 = some (v', h', n')) : Ok G mX7_readPart (d + 3) (Same (some (.int v')) h' n') 38 [some (.ref l0), some (.int l1)] [] h nx 0 0 := by
  unfold F_X7_readPart_38 at e
  refine Ok.iload_n dX7_readPart_38 rfl ?_
  refine Ok.iconstV (v := (nI 5)) dX7_readPart_39 (by decide +kernel) ?_
  refine X.icmp_ge (tgt := 77) dX7_readPart_40 (by decide) e (fun e1 => ?_) (fun e1 => ?_)
  · clear e
    exact Ok.weakL (k_X7_readPart_77 (d := d) C_X7_readBoth C_X7_readEither C_X7_readPart e1) ⟨rfl, trivial⟩
  · clear e
    refine Ok.aload_n dX7_readPart_43 rfl ?_
    refine Ok.bipushV (v := (nI 40)) dX7_readPart_44 (by decide +kernel) ?_
    refine X.rck e1 (fun c fs hb hc e2 => ?_)
    clear e1
    obtain rfl := List.mem_singleton.mp hc
    refine X.callV (My := mX7_take) (n := 1) (As := [.int (nI 40)]) (T := (fun v => (some (.int v)))) (stk' := (fun v => [.int v])) (rest := []) (kc' := 0) (ks' := 0) dX7_readPart_46 e2 (fun v h n e => k_X7_take (d := d + 2) e) hb rfl wd460 wd81 wd459 wd3 wd457 (by decide +kernel) rfl (by decide) rfl rfl (Nat.le_of_ble_eq_true rfl) (Nat.le_of_ble_eq_true rfl) (Nat.le_of_ble_eq_true rfl) rfl rfl (fun _ => rfl) (fun r1 h2 n3 e3 => ?_)
    clear e2
    refine X.if_eq (tgt := 77) dX7_readPart_49 (by decide) e3 (fun e4 => ?_) (fun e4 => ?_)
    · clear e3
      exact Ok.weakL (k_X7_readPart_77 (d := d) C_X7_readBoth C_X7_readEither C_X7_readPart e4) ⟨rfl, trivial⟩
    · clear e3
      refine Ok.aload_n dX7_readPart_52 rfl ?_
      refine Ok.iload_n dX7_readPart_53 rfl ?_
      refine Ok.iconstV (v := (nI 1)) dX7_readPart_54 (by decide +kernel) ?_
      refine Ok.iadd dX7_readPart_55 ?_
      refine X.rck e4 (fun c fs hb hc e5 => ?_)
      clear e4
      obtain rfl := List.mem_singleton.mp hc
      refine X.callV (My := mX7_readEither) (n := 1) (As := [.int ((l1 + (nI 1)))]) (T := (fun v => (some (.int v)))) (stk' := (fun v => [.int v])) (rest := []) (kc' := 0) (ks' := 0) dX7_readPart_56 e5 (fun v h n e => C_X7_readEither e) hb rfl wd468 wd81 wd467 wd5 wd465 (by decide +kernel) rfl (by decide) rfl rfl (Nat.le_of_ble_eq_true rfl) (Nat.le_of_ble_eq_true rfl) (Nat.le_of_ble_eq_true rfl) rfl rfl (fun _ => rfl) (fun r4 h5 n6 e6 => ?_)
      clear e5
      refine X.if_eq (tgt := 75) dX7_readPart_59 (by decide) e6 (fun e7 => ?_) (fun e7 => ?_)
      · clear e6
        exact Ok.weakL (k_X7_readPart_75 (d := d) C_X7_readBoth C_X7_readEither C_X7_readPart e7) trivial
      · clear e6
        refine Ok.aload_n dX7_readPart_62 rfl ?_
        refine Ok.bipushV (v := (nI 41)) dX7_readPart_63 (by decide +kernel) ?_
        refine X.rck e7 (fun c fs hb hc e8 => ?_)
        clear e7
        obtain rfl := List.mem_singleton.mp hc
        refine X.callV (My := mX7_take) (n := 1) (As := [.int (nI 41)]) (T := (fun v => (some (.int v)))) (stk' := (fun v => [.int v])) (rest := []) (kc' := 0) (ks' := 0) dX7_readPart_65 e8 (fun v h n e => k_X7_take (d := d + 2) e) hb rfl wd460 wd81 wd459 wd3 wd457 (by decide +kernel) rfl (by decide) rfl rfl (Nat.le_of_ble_eq_true rfl) (Nat.le_of_ble_eq_true rfl) (Nat.le_of_ble_eq_true rfl) rfl rfl (fun _ => rfl) (fun r7 h8 n9 e9 => ?_)
        clear e8
        refine X.if_eq (tgt := 75) dX7_readPart_68 (by decide) e9 (fun e10 => ?_) (fun e10 => ?_)
        · clear e9
          exact Ok.weakL (k_X7_readPart_75 (d := d) C_X7_readBoth C_X7_readEither C_X7_readPart e10) trivial
        · clear e9
          refine Ok.iconstV (v := (nI 1)) dX7_readPart_71 (by decide +kernel) ?_
          refine Ok.goto (tgt := 76) dX7_readPart_72 (by decide) ?_
          exact Ok.weakL (k_X7_readPart_76 (d := d) C_X7_readBoth C_X7_readEither C_X7_readPart e10) trivial
noncomputable def F_X7_readPart_37 (G : Gx) (c_X7_readBoth : Hp → Nat → Nat → Int32 → Rz Int32) (c_X7_readEither : Hp → Nat → Nat → Int32 → Rz Int32) (c_X7_readPart : Hp → Nat → Nat → Int32 → Rz Int32) (h : Hp) (nx : Nat) (s0 : Int32) : Rz Int32 :=
zk s0 (some (s0, h, nx))
set_option maxRecDepth 100000 in
set_option maxHeartbeats 4000000 in
theorem k_X7_readPart_37 {G : Gx} {d : Nat} {v' : Int32} {h' : Hp} {n' : Nat} {c_X7_readBoth : Hp → Nat → Nat → Int32 → Rz Int32} (C_X7_readBoth : ∀ {h : Hp} {nx : Nat} {b0 : Nat} {b1 : Int32} {v : Int32} {h1 : Hp} {n1 : Nat}, c_X7_readBoth h nx b0 b1 = some (v, h1, n1) → Ct G mX7_readBoth (d + 2) (Same (some (.int v)) h1 n1) [.ref b0, .int b1] h nx) {c_X7_readEither : Hp → Nat → Nat → Int32 → Rz Int32} (C_X7_readEither : ∀ {h : Hp} {nx : Nat} {b0 : Nat} {b1 : Int32} {v : Int32} {h1 : Hp} {n1 : Nat}, c_X7_readEither h nx b0 b1 = some (v, h1, n1) → Ct G mX7_readEither (d + 2) (Same (some (.int v)) h1 n1) [.ref b0, .int b1] h nx) {c_X7_readPart : Hp → Nat → Nat → Int32 → Rz Int32} (C_X7_readPart : ∀ {h : Hp} {nx : Nat} {b0 : Nat} {b1 : Int32} {v : Int32} {h1 : Hp} {n1 : Nat}, c_X7_readPart h nx b0 b1 = some (v, h1, n1) → Ct G mX7_readPart (d + 2) (Same (some (.int v)) h1 n1) [.ref b0, .int b1] h nx) {h : Hp} {nx : Nat} {s0 : Int32} (e : F_X7_readPart_37 G c_X7_readBoth c_X7_readEither c_X7_readPart h nx s0 = some (v', h', n')) : Ok G mX7_readPart (d + 3) (Same (some (.int v')) h' n') 37 [none, none] [.int s0] h nx 0 0 := by
  unfold F_X7_readPart_37 at e
  exact X.zret dX7_readPart_37 rfl (Nat.le_of_ble_eq_true rfl) (Nat.le_of_ble_eq_true rfl) e
noncomputable def F_X7_readPart_36 (G : Gx) (c_X7_readBoth : Hp → Nat → Nat → Int32 → Rz Int32) (c_X7_readEither : Hp → Nat → Nat → Int32 → Rz Int32) (c_X7_readPart : Hp → Nat → Nat → Int32 → Rz Int32) (h : Hp) (nx : Nat) : Rz Int32 :=
(F_X7_readPart_37 G c_X7_readBoth c_X7_readEither c_X7_readPart h nx (nI 0))
set_option maxRecDepth 100000 in
set_option maxHeartbeats 4000000 in
theorem k_X7_readPart_36 {G : Gx} {d : Nat} {v' : Int32} {h' : Hp} {n' : Nat} {c_X7_readBoth : Hp → Nat → Nat → Int32 → Rz Int32} (C_X7_readBoth : ∀ {h : Hp} {nx : Nat} {b0 : Nat} {b1 : Int32} {v : Int32} {h1 : Hp} {n1 : Nat}, c_X7_readBoth h nx b0 b1 = some (v, h1, n1) → Ct G mX7_readBoth (d + 2) (Same (some (.int v)) h1 n1) [.ref b0, .int b1] h nx) {c_X7_readEither : Hp → Nat → Nat → Int32 → Rz Int32} (C_X7_readEither : ∀ {h : Hp} {nx : Nat} {b0 : Nat} {b1 : Int32} {v : Int32} {h1 : Hp} {n1 : Nat}, c_X7_readEither h nx b0 b1 = some (v, h1, n1) → Ct G mX7_readEither (d + 2) (Same (some (.int v)) h1 n1) [.ref b0, .int b1] h nx) {c_X7_readPart : Hp → Nat → Nat → Int32 → Rz Int32} (C_X7_readPart : ∀ {h : Hp} {nx : Nat} {b0 : Nat} {b1 : Int32} {v : Int32} {h1 : Hp} {n1 : Nat}, c_X7_readPart h nx b0 b1 = some (v, h1, n1) → Ct G mX7_readPart (d + 2) (Same (some (.int v)) h1 n1) [.ref b0, .int b1] h nx) {h : Hp} {nx : Nat} (e : F_X7_readPart_36 G c_X7_readBoth c_X7_readEither c_X7_readPart h nx = some (v', h', n')) : Ok G mX7_readPart (d + 3) (Same (some (.int v')) h' n') 36 [none, none] [] h nx 0 0 := by
  unfold F_X7_readPart_36 at e
  refine Ok.iconstV (v := (nI 0)) dX7_readPart_36 (by decide +kernel) ?_
  exact Ok.weakL (k_X7_readPart_37 (d := d) C_X7_readBoth C_X7_readEither C_X7_readPart e) trivial
noncomputable def B_X7_readPart (G : Gx) (c_X7_readBoth : Hp → Nat → Nat → Int32 → Rz Int32) (c_X7_readEither : Hp → Nat → Nat → Int32 → Rz Int32) (c_X7_readPart : Hp → Nat → Nat → Int32 → Rz Int32) (h : Hp) (nx : Nat) (a0 : Nat) (a1 : Int32) : Rz Int32 :=
if (nI 5) ≤ a1 then
(F_X7_readPart_38 G c_X7_readBoth c_X7_readEither c_X7_readPart h nx a0 a1)
else
ck h a0 [7] (fun _ =>
cl (F_X7_take G h nx a0 (nI 33)) (fun r1 h2 n3 =>
if r1 = 0 then
(F_X7_readPart_38 G c_X7_readBoth c_X7_readEither c_X7_readPart h2 n3 a0 a1)
else
ck h2 a0 [7] (fun _ =>
cl (c_X7_readPart h2 n3 a0 ((a1 + (nI 1)))) (fun r4 h5 n6 =>
if r4 = 0 then
(F_X7_readPart_36 G c_X7_readBoth c_X7_readEither c_X7_readPart h5 n6)
else
ck h5 a0 [7] (fun _ =>
cl (F_X7_put G h5 n6 a0 (-1 : Int32)) (fun r7 h8 n9 =>
if r7 = 0 then
(F_X7_readPart_36 G c_X7_readBoth c_X7_readEither c_X7_readPart h8 n9)
else
(F_X7_readPart_37 G c_X7_readBoth c_X7_readEither c_X7_readPart h8 n9 (nI 1))))))))
set_option maxRecDepth 100000 in
set_option maxHeartbeats 4000000 in
theorem b_X7_readPart {G : Gx} {d : Nat} {c_X7_readBoth : Hp → Nat → Nat → Int32 → Rz Int32} (C_X7_readBoth : ∀ {h : Hp} {nx : Nat} {b0 : Nat} {b1 : Int32} {v : Int32} {h1 : Hp} {n1 : Nat}, c_X7_readBoth h nx b0 b1 = some (v, h1, n1) → Ct G mX7_readBoth (d + 2) (Same (some (.int v)) h1 n1) [.ref b0, .int b1] h nx) {c_X7_readEither : Hp → Nat → Nat → Int32 → Rz Int32} (C_X7_readEither : ∀ {h : Hp} {nx : Nat} {b0 : Nat} {b1 : Int32} {v : Int32} {h1 : Hp} {n1 : Nat}, c_X7_readEither h nx b0 b1 = some (v, h1, n1) → Ct G mX7_readEither (d + 2) (Same (some (.int v)) h1 n1) [.ref b0, .int b1] h nx) {c_X7_readPart : Hp → Nat → Nat → Int32 → Rz Int32} (C_X7_readPart : ∀ {h : Hp} {nx : Nat} {b0 : Nat} {b1 : Int32} {v : Int32} {h1 : Hp} {n1 : Nat}, c_X7_readPart h nx b0 b1 = some (v, h1, n1) → Ct G mX7_readPart (d + 2) (Same (some (.int v)) h1 n1) [.ref b0, .int b1] h nx) {h : Hp} {nx : Nat} {a0 : Nat} {a1 : Int32} {v' : Int32} {h' : Hp} {n' : Nat} (e : B_X7_readPart G c_X7_readBoth c_X7_readEither c_X7_readPart h nx a0 a1 = some (v', h', n')) : Ct G mX7_readPart (d + 3) (Same (some (.int v')) h' n') [.ref a0, .int a1] h nx := by
  unfold B_X7_readPart at e
  refine Ct.of (ls := [some (.ref a0), some (.int a1)]) (by decide +kernel) rfl (Nat.le_of_ble_eq_true rfl) rfl ?_
  refine Ok.iload_n dX7_readPart_0 rfl ?_
  refine Ok.iconstV (v := (nI 5)) dX7_readPart_1 (by decide +kernel) ?_
  refine X.icmp_ge (tgt := 38) dX7_readPart_2 (by decide) e (fun e1 => ?_) (fun e1 => ?_)
  · clear e
    exact Ok.weakL (k_X7_readPart_38 (d := d) C_X7_readBoth C_X7_readEither C_X7_readPart e1) ⟨rfl, ⟨rfl, trivial⟩⟩
  · clear e
    refine Ok.aload_n dX7_readPart_5 rfl ?_
    refine Ok.bipushV (v := (nI 33)) dX7_readPart_6 (by decide +kernel) ?_
    refine X.rck e1 (fun c fs hb hc e2 => ?_)
    clear e1
    obtain rfl := List.mem_singleton.mp hc
    refine X.callV (My := mX7_take) (n := 1) (As := [.int (nI 33)]) (T := (fun v => (some (.int v)))) (stk' := (fun v => [.int v])) (rest := []) (kc' := 0) (ks' := 0) dX7_readPart_8 e2 (fun v h n e => k_X7_take (d := d + 2) e) hb rfl wd460 wd81 wd459 wd3 wd457 (by decide +kernel) rfl (by decide) rfl rfl (Nat.le_of_ble_eq_true rfl) (Nat.le_of_ble_eq_true rfl) (Nat.le_of_ble_eq_true rfl) rfl rfl (fun _ => rfl) (fun r1 h2 n3 e3 => ?_)
    clear e2
    refine X.if_eq (tgt := 38) dX7_readPart_11 (by decide) e3 (fun e4 => ?_) (fun e4 => ?_)
    · clear e3
      exact Ok.weakL (k_X7_readPart_38 (d := d) C_X7_readBoth C_X7_readEither C_X7_readPart e4) ⟨rfl, ⟨rfl, trivial⟩⟩
    · clear e3
      refine Ok.aload_n dX7_readPart_14 rfl ?_
      refine Ok.iload_n dX7_readPart_15 rfl ?_
      refine Ok.iconstV (v := (nI 1)) dX7_readPart_16 (by decide +kernel) ?_
      refine Ok.iadd dX7_readPart_17 ?_
      refine X.rck e4 (fun c fs hb hc e5 => ?_)
      clear e4
      obtain rfl := List.mem_singleton.mp hc
      refine X.callV (My := mX7_readPart) (n := 1) (As := [.int ((a1 + (nI 1)))]) (T := (fun v => (some (.int v)))) (stk' := (fun v => [.int v])) (rest := []) (kc' := 0) (ks' := 0) dX7_readPart_18 e5 (fun v h n e => C_X7_readPart e) hb rfl wd476 wd81 wd475 wd7 wd473 (by decide +kernel) rfl (by decide) rfl rfl (Nat.le_of_ble_eq_true rfl) (Nat.le_of_ble_eq_true rfl) (Nat.le_of_ble_eq_true rfl) rfl rfl (fun _ => rfl) (fun r4 h5 n6 e6 => ?_)
      clear e5
      refine X.if_eq (tgt := 36) dX7_readPart_21 (by decide) e6 (fun e7 => ?_) (fun e7 => ?_)
      · clear e6
        exact Ok.weakL (k_X7_readPart_36 (d := d) C_X7_readBoth C_X7_readEither C_X7_readPart e7) trivial
      · clear e6
        refine Ok.aload_n dX7_readPart_24 rfl ?_
        refine Ok.iconstV (v := (-1 : Int32)) dX7_readPart_25 (by decide +kernel) ?_
        refine X.rck e7 (fun c fs hb hc e8 => ?_)
        clear e7
        obtain rfl := List.mem_singleton.mp hc
        refine X.callV (My := mX7_put) (n := 1) (As := [.int (-1 : Int32)]) (T := (fun v => (some (.int v)))) (stk' := (fun v => [.int v])) (rest := []) (kc' := 0) (ks' := 0) dX7_readPart_26 e8 (fun v h n e => k_X7_put (d := d + 2) e) hb rfl wd480 wd81 wd479 wd8 wd477 (by decide +kernel) rfl (by decide) rfl rfl (Nat.le_of_ble_eq_true rfl) (Nat.le_of_ble_eq_true rfl) (Nat.le_of_ble_eq_true rfl) rfl rfl (fun _ => rfl) (fun r7 h8 n9 e9 => ?_)
        clear e8
        refine X.if_eq (tgt := 36) dX7_readPart_29 (by decide) e9 (fun e10 => ?_) (fun e10 => ?_)
        · clear e9
          exact Ok.weakL (k_X7_readPart_36 (d := d) C_X7_readBoth C_X7_readEither C_X7_readPart e10) trivial
        · clear e9
          refine Ok.iconstV (v := (nI 1)) dX7_readPart_32 (by decide +kernel) ?_
          refine Ok.goto (tgt := 37) dX7_readPart_33 (by decide) ?_
          exact Ok.weakL (k_X7_readPart_37 (d := d) C_X7_readBoth C_X7_readEither C_X7_readPart e10) trivial
noncomputable def R_X7_readBoth (G : Gx) : Nat → ((Hp → Nat → Nat → Int32 → Rz Int32) × (Hp → Nat → Nat → Int32 → Rz Int32) × (Hp → Nat → Nat → Int32 → Rz Int32)) := fun n => Nat.rec (motive := fun _ => ((Hp → Nat → Nat → Int32 → Rz Int32) × (Hp → Nat → Nat → Int32 → Rz Int32) × (Hp → Nat → Nat → Int32 → Rz Int32))) ((fun _ _ _ _ => none), (fun _ _ _ _ => none), (fun _ _ _ _ => none)) (fun _ p => (B_X7_readBoth G p.1 p.2.1 p.2.2, B_X7_readEither G p.1 p.2.1 p.2.2, B_X7_readPart G p.1 p.2.1 p.2.2)) n
noncomputable def F_X7_readBoth (G : Gx) (n : Nat) : Hp → Nat → Nat → Int32 → Rz Int32 := (R_X7_readBoth G n).1
noncomputable def F_X7_readEither (G : Gx) (n : Nat) : Hp → Nat → Nat → Int32 → Rz Int32 := (R_X7_readBoth G n).2.1
noncomputable def F_X7_readPart (G : Gx) (n : Nat) : Hp → Nat → Nat → Int32 → Rz Int32 := (R_X7_readBoth G n).2.2
set_option maxRecDepth 100000 in
theorem R_X7_readBoth_s {G : Gx} {n : Nat} : R_X7_readBoth G (n + 1) = (B_X7_readBoth G (F_X7_readBoth G n) (F_X7_readEither G n) (F_X7_readPart G n), B_X7_readEither G (F_X7_readBoth G n) (F_X7_readEither G n) (F_X7_readPart G n), B_X7_readPart G (F_X7_readBoth G n) (F_X7_readEither G n) (F_X7_readPart G n)) := rfl
set_option maxRecDepth 100000 in
theorem F_X7_readBoth_s {G : Gx} {n : Nat} : F_X7_readBoth G (n + 1) = B_X7_readBoth G (F_X7_readBoth G n) (F_X7_readEither G n) (F_X7_readPart G n) := congrArg (fun p => p.1) R_X7_readBoth_s
theorem F_X7_readBoth_0 {G : Gx} : F_X7_readBoth G 0 = (fun _ _ _ _ => none) := rfl
set_option maxRecDepth 100000 in
theorem F_X7_readEither_s {G : Gx} {n : Nat} : F_X7_readEither G (n + 1) = B_X7_readEither G (F_X7_readBoth G n) (F_X7_readEither G n) (F_X7_readPart G n) := congrArg (fun p => p.2.1) R_X7_readBoth_s
theorem F_X7_readEither_0 {G : Gx} : F_X7_readEither G 0 = (fun _ _ _ _ => none) := rfl
set_option maxRecDepth 100000 in
theorem F_X7_readPart_s {G : Gx} {n : Nat} : F_X7_readPart G (n + 1) = B_X7_readPart G (F_X7_readBoth G n) (F_X7_readEither G n) (F_X7_readPart G n) := congrArg (fun p => p.2.2) R_X7_readBoth_s
theorem F_X7_readPart_0 {G : Gx} : F_X7_readPart G 0 = (fun _ _ _ _ => none) := rfl
set_option maxRecDepth 100000 in
set_option maxHeartbeats 4000000 in
theorem kk_X7_readBoth {G : Gx} {d : Nat} : ∀ n : Nat, (∀ {h : Hp} {nx : Nat} {a0 : Nat} {a1 : Int32} {v : Int32} {h1 : Hp} {n1 : Nat}, F_X7_readBoth G n h nx a0 a1 = some (v, h1, n1) → Ct G mX7_readBoth (d + (n + 2)) (Same (some (.int v)) h1 n1) [.ref a0, .int a1] h nx) ∧ (∀ {h : Hp} {nx : Nat} {a0 : Nat} {a1 : Int32} {v : Int32} {h1 : Hp} {n1 : Nat}, F_X7_readEither G n h nx a0 a1 = some (v, h1, n1) → Ct G mX7_readEither (d + (n + 2)) (Same (some (.int v)) h1 n1) [.ref a0, .int a1] h nx) ∧ (∀ {h : Hp} {nx : Nat} {a0 : Nat} {a1 : Int32} {v : Int32} {h1 : Hp} {n1 : Nat}, F_X7_readPart G n h nx a0 a1 = some (v, h1, n1) → Ct G mX7_readPart (d + (n + 2)) (Same (some (.int v)) h1 n1) [.ref a0, .int a1] h nx) := by
  intro n
  induction n with
  | zero => exact ⟨(fun e => (by have e9 : (none : Rz Int32) = some _ := e; cases e9)), (fun e => (by have e9 : (none : Rz Int32) = some _ := e; cases e9)), (fun e => (by have e9 : (none : Rz Int32) = some _ := e; cases e9))⟩
  | succ n ih =>
    obtain ⟨i0, i1, i2⟩ := ih
    exact ⟨(by
      intro h nx a0 a1 v h1 n1 e
      rw [F_X7_readBoth_s] at e
      rw [show d + (n + 1 + 2) = (d + n) + 3 by omega]
      exact b_X7_readBoth (d := d + n) (fun e => by rw [show d + n + 2 = d + (n + 2) by omega]; exact i0 e) (fun e => by rw [show d + n + 2 = d + (n + 2) by omega]; exact i1 e) (fun e => by rw [show d + n + 2 = d + (n + 2) by omega]; exact i2 e) e), (by
      intro h nx a0 a1 v h1 n1 e
      rw [F_X7_readEither_s] at e
      rw [show d + (n + 1 + 2) = (d + n) + 3 by omega]
      exact b_X7_readEither (d := d + n) (fun e => by rw [show d + n + 2 = d + (n + 2) by omega]; exact i0 e) (fun e => by rw [show d + n + 2 = d + (n + 2) by omega]; exact i1 e) (fun e => by rw [show d + n + 2 = d + (n + 2) by omega]; exact i2 e) e), (by
      intro h nx a0 a1 v h1 n1 e
      rw [F_X7_readPart_s] at e
      rw [show d + (n + 1 + 2) = (d + n) + 3 by omega]
      exact b_X7_readPart (d := d + n) (fun e => by rw [show d + n + 2 = d + (n + 2) by omega]; exact i0 e) (fun e => by rw [show d + n + 2 = d + (n + 2) by omega]; exact i1 e) (fun e => by rw [show d + n + 2 = d + (n + 2) by omega]; exact i2 e) e)⟩
theorem k_X7_readBoth {G : Gx} {d : Nat} (n : Nat) : ∀ {h : Hp} {nx : Nat} {a0 : Nat} {a1 : Int32} {v : Int32} {h1 : Hp} {n1 : Nat}, F_X7_readBoth G n h nx a0 a1 = some (v, h1, n1) → Ct G mX7_readBoth (d + (n + 2)) (Same (some (.int v)) h1 n1) [.ref a0, .int a1] h nx := (@kk_X7_readBoth G d n).1
theorem k_X7_readEither {G : Gx} {d : Nat} (n : Nat) : ∀ {h : Hp} {nx : Nat} {a0 : Nat} {a1 : Int32} {v : Int32} {h1 : Hp} {n1 : Nat}, F_X7_readEither G n h nx a0 a1 = some (v, h1, n1) → Ct G mX7_readEither (d + (n + 2)) (Same (some (.int v)) h1 n1) [.ref a0, .int a1] h nx := (@kk_X7_readBoth G d n).2.1
theorem k_X7_readPart {G : Gx} {d : Nat} (n : Nat) : ∀ {h : Hp} {nx : Nat} {a0 : Nat} {a1 : Int32} {v : Int32} {h1 : Hp} {n1 : Nat}, F_X7_readPart G n h nx a0 a1 = some (v, h1, n1) → Ct G mX7_readPart (d + (n + 2)) (Same (some (.int v)) h1 n1) [.ref a0, .int a1] h nx := (@kk_X7_readBoth G d n).2.2
noncomputable def F_X7_alikeWith_49 (G : Gx) (h : Hp) (nx : Nat) (l2 : Int32) : Rz Int32 :=
some (l2, h, nx)
set_option maxRecDepth 100000 in
set_option maxHeartbeats 4000000 in
theorem k_X7_alikeWith_49 {G : Gx} {d : Nat} {v' : Int32} {h' : Hp} {n' : Nat} {h : Hp} {nx : Nat} {l2 : Int32} (e : F_X7_alikeWith_49 G h nx l2 = some (v', h', n')) : Ok G mX7_alikeWith (d + 5) (Same (some (.int v')) h' n') 49 [none, none, some (.int l2)] [] h nx 0 0 := by
  unfold F_X7_alikeWith_49 at e
  refine Ok.iload_n dX7_alikeWith_49 rfl ?_
  exact X.iret dX7_alikeWith_50 rfl (Nat.le_of_ble_eq_true rfl) (Nat.le_of_ble_eq_true rfl) e
noncomputable def F_X7_alikeWith_2 (G : Gx) : Nat → Hp → Nat → Nat → Nat → Int32 → Rz Int32 := fun n => Nat.rec (motive := fun _ => Hp → Nat → Nat → Nat → Int32 → Rz Int32) (fun _ _ _ _ _ => none) (fun _ k2 => fun h nx l0 l1 l2 =>
stL l1 (fun v1 =>
if v1 ≤ l2 then
(F_X7_alikeWith_49 G h nx l2)
else
gfI h l0 [7] 2 (fun v2 =>
gfR h l0 [7] 1 (fun v3 =>
nn v3 (fun p4 =>
lnI (g_c G 2) h p4 (fun v5 =>
if v5 ≤ ((v2 + l2)) then
(F_X7_alikeWith_49 G h nx l2)
else
gfR h l0 [7] 1 (fun v6 =>
gfI h l0 [7] 2 (fun v7 =>
nn v6 (fun p8 =>
alI (g_c G 2) h p8 ((v7 + l2)) (fun v9 =>
stC l1 l2 (fun v10 =>
if v9 = v10 then
nm (l2 + (nI 1)) (fun v11 =>
(k2 h nx l0 l1 v11))
else
(F_X7_alikeWith_49 G h nx l2)))))))))))) n
theorem F_X7_alikeWith_2_0 {G : Gx} {h : Hp} {nx : Nat} {l0 : Nat} {l1 : Nat} {l2 : Int32} : F_X7_alikeWith_2 G 0 h nx l0 l1 l2 = none := rfl
theorem F_X7_alikeWith_2_s {G : Gx} {n : Nat} {h : Hp} {nx : Nat} {l0 : Nat} {l1 : Nat} {l2 : Int32} : F_X7_alikeWith_2 G (n + 1) h nx l0 l1 l2 = (
stL l1 (fun v1 =>
if v1 ≤ l2 then
(F_X7_alikeWith_49 G h nx l2)
else
gfI h l0 [7] 2 (fun v2 =>
gfR h l0 [7] 1 (fun v3 =>
nn v3 (fun p4 =>
lnI (g_c G 2) h p4 (fun v5 =>
if v5 ≤ ((v2 + l2)) then
(F_X7_alikeWith_49 G h nx l2)
else
gfR h l0 [7] 1 (fun v6 =>
gfI h l0 [7] 2 (fun v7 =>
nn v6 (fun p8 =>
alI (g_c G 2) h p8 ((v7 + l2)) (fun v9 =>
stC l1 l2 (fun v10 =>
if v9 = v10 then
nm (l2 + (nI 1)) (fun v11 =>
((F_X7_alikeWith_2 G n) h nx l0 l1 v11))
else
(F_X7_alikeWith_49 G h nx l2)))))))))))) := rfl
set_option maxRecDepth 100000 in
set_option maxHeartbeats 4000000 in
theorem k_X7_alikeWith_2 {G : Gx} {d : Nat} {v' : Int32} {h' : Hp} {n' : Nat} : ∀ (n : Nat) {h : Hp} {nx : Nat} {l0 : Nat} {l1 : Nat} {l2 : Int32}, F_X7_alikeWith_2 G n h nx l0 l1 l2 = some (v', h', n') → Ok G mX7_alikeWith (d + 5) (Same (some (.int v')) h' n') 2 [some (.ref l0), some (.ref (g_sK G l1)), some (.int l2)] [] h nx 0 0 := by
  intro n
  induction n with
  | zero =>
    intro h nx l0 l1 l2 e
    rw [F_X7_alikeWith_2_0] at e
    cases e
  | succ n K2 =>
    intro h nx l0 l1 l2 e
    rw [F_X7_alikeWith_2_s] at e
    refine Ok.iload_n dX7_alikeWith_2 rfl ?_
    refine Ok.aload_n dX7_alikeWith_3 rfl ?_
    refine X.rstL dX7_alikeWith_4 wd406 ⟨(Nat.le_of_ble_eq_true rfl), (Nat.le_of_ble_eq_true rfl)⟩ (Nat.le_of_ble_eq_true rfl) e (fun v1 e1 => ?_)
    clear e
    refine X.icmp_ge (tgt := 49) dX7_alikeWith_7 (by decide) e1 (fun e2 => ?_) (fun e2 => ?_)
    · clear e1
      exact Ok.weakL (k_X7_alikeWith_49 (d := d) e2) ⟨rfl, trivial⟩
    · clear e1
      refine Ok.aload_n dX7_alikeWith_10 rfl ?_
      refine X.rgfI fl_RX7_15 dX7_alikeWith_11 e2 (fun v2 e3 => ?_)
      clear e2
      refine Ok.iload_n dX7_alikeWith_14 rfl ?_
      refine Ok.iadd dX7_alikeWith_15 ?_
      refine Ok.aload_n dX7_alikeWith_16 rfl ?_
      refine X.rgfR fl_RX7_46 dX7_alikeWith_17 e3 (fun v3 e4 => ?_)
      clear e3
      refine X.rnn e4 (fun p4 q e5 => ?_)
      clear e4
      subst q
      refine X.lnB dX7_alikeWith_20 e5 (fun v5 e6 => ?_)
      clear e5
      refine X.icmp_ge (tgt := 49) dX7_alikeWith_21 (by decide) e6 (fun e7 => ?_) (fun e7 => ?_)
      · clear e6
        exact Ok.weakL (k_X7_alikeWith_49 (d := d) e7) ⟨rfl, trivial⟩
      · clear e6
        refine Ok.aload_n dX7_alikeWith_24 rfl ?_
        refine X.rgfR fl_RX7_46 dX7_alikeWith_25 e7 (fun v6 e8 => ?_)
        clear e7
        refine Ok.aload_n dX7_alikeWith_28 rfl ?_
        refine X.rgfI fl_RX7_15 dX7_alikeWith_29 e8 (fun v7 e9 => ?_)
        clear e8
        refine Ok.iload_n dX7_alikeWith_32 rfl ?_
        refine Ok.iadd dX7_alikeWith_33 ?_
        refine X.rnn e9 (fun p8 q e10 => ?_)
        clear e9
        subst q
        refine X.bald dX7_alikeWith_34 e10 (fun v9 e11 => ?_)
        clear e10
        refine Ok.aload_n dX7_alikeWith_35 rfl ?_
        refine Ok.iload_n dX7_alikeWith_36 rfl ?_
        refine X.rstC dX7_alikeWith_37 wd416 ⟨(Nat.le_of_ble_eq_true rfl), (Nat.le_of_ble_eq_true rfl)⟩ (Nat.le_of_ble_eq_true rfl) e11 (fun v10 e12 => ?_)
        clear e11
        refine X.icmp_ne (tgt := 49) dX7_alikeWith_40 (by decide) e12 (fun e13 => ?_) (fun e13 => ?_)
        · clear e12
          exact Ok.weakL (k_X7_alikeWith_49 (d := d) e13) ⟨rfl, trivial⟩
        · clear e12
          refine X.iinc dX7_alikeWith_43 rfl (by decide) (by decide +kernel) e13 (L := fun v11 => [some (.ref l0), some (.ref (g_sK G l1)), some (.int v11)]) (fun _ => rfl) (fun v11 e14 => ?_)
          clear e13
          refine Ok.goto (tgt := 2) dX7_alikeWith_46 (by decide) ?_
          exact Ok.weakL (K2 e14) ⟨rfl, ⟨rfl, ⟨rfl, trivial⟩⟩⟩
noncomputable def F_X7_alikeWith (G : Gx) (h : Hp) (nx : Nat) (a0 : Nat) (a1 : Nat) : Rz Int32 :=
(F_X7_alikeWith_2 G fuelL h nx a0 a1 (nI 0))
set_option maxRecDepth 100000 in
set_option maxHeartbeats 4000000 in
theorem k_X7_alikeWith {G : Gx} {d : Nat} {h : Hp} {nx : Nat} {a0 : Nat} {a1 : Nat} {v' : Int32} {h' : Hp} {n' : Nat} (e : F_X7_alikeWith G h nx a0 a1 = some (v', h', n')) : Ct G mX7_alikeWith (d + 5) (Same (some (.int v')) h' n') [.ref a0, .ref (g_sK G a1)] h nx := by
  unfold F_X7_alikeWith at e
  refine Ct.of (ls := [some (.ref a0), some (.ref (g_sK G a1)), none]) (by decide +kernel) rfl (Nat.le_of_ble_eq_true rfl) rfl ?_
  refine Ok.iconstV (v := (nI 0)) dX7_alikeWith_0 (by decide +kernel) ?_
  refine XL.istore_n dX7_alikeWith_1 (by decide) (L := [some (.ref a0), some (.ref (g_sK G a1)), some (.int (nI 0))]) rfl ?_
  exact Ok.weakL (k_X7_alikeWith_2 (d := d) fuelL e) ⟨rfl, ⟨rfl, ⟨rfl, trivial⟩⟩⟩
noncomputable def F_X7_wordFor (G : Gx) (h : Hp) (nx : Nat) (a0 : Int32) : Rz Nat :=
if a0 = (nI 0) then
some (0, h, nx)
else
if a0 = (nI 1) then
some (1, h, nx)
else
if a0 = (nI 2) then
some (2, h, nx)
else
if a0 = (nI 3) then
some (3, h, nx)
else
if a0 = (nI 4) then
some (4, h, nx)
else
some (5, h, nx)
set_option maxRecDepth 100000 in
set_option maxHeartbeats 4000000 in
theorem k_X7_wordFor {G : Gx} {d : Nat} {h : Hp} {nx : Nat} {a0 : Int32} {v' : Nat} {h' : Hp} {n' : Nat} (e : F_X7_wordFor G h nx a0 = some (v', h', n')) : Ct G mX7_wordFor (d + 0) (Same (some (.ref (g_sK G v'))) h' n') [.int a0] h nx := by
  unfold F_X7_wordFor at e
  refine Ct.of (ls := [some (.int a0)]) (by decide +kernel) rfl (Nat.le_of_ble_eq_true rfl) rfl ?_
  refine Ok.iload_n dX7_wordFor_0 rfl ?_
  refine X.sw e (fun c0 e1 => ?_) (fun c0 e1 => ?_)
  · clear e
    rw [c0]
    refine Ok.tableIn (off := 35) (tgt := 36) dX7_wordFor_1 (by decide) (by decide) (by decide +kernel) (by decide) ?_
    refine Ok.ldcS (k := 0) dX7_wordFor_36 (by decide) rfl rfl ?_
    exact X.sret dX7_wordFor_38 rfl (Or.inl ⟨_, rfl⟩) (Nat.le_of_ble_eq_true rfl) (Nat.le_of_ble_eq_true rfl) e1
  refine X.sw e1 (fun c1 e2 => ?_) (fun c1 e2 => ?_)
  · clear e1
    rw [c1]
    refine Ok.tableIn (off := 38) (tgt := 39) dX7_wordFor_1 (by decide) (by decide) (by decide +kernel) (by decide) ?_
    refine Ok.ldcS (k := 1) dX7_wordFor_39 (by decide) rfl rfl ?_
    exact X.sret dX7_wordFor_41 rfl (Or.inl ⟨_, rfl⟩) (Nat.le_of_ble_eq_true rfl) (Nat.le_of_ble_eq_true rfl) e2
  refine X.sw e2 (fun c2 e3 => ?_) (fun c2 e3 => ?_)
  · clear e2
    rw [c2]
    refine Ok.tableIn (off := 41) (tgt := 42) dX7_wordFor_1 (by decide) (by decide) (by decide +kernel) (by decide) ?_
    refine Ok.ldcS (k := 2) dX7_wordFor_42 (by decide) rfl rfl ?_
    exact X.sret dX7_wordFor_44 rfl (Or.inl ⟨_, rfl⟩) (Nat.le_of_ble_eq_true rfl) (Nat.le_of_ble_eq_true rfl) e3
  refine X.sw e3 (fun c3 e4 => ?_) (fun c3 e4 => ?_)
  · clear e3
    rw [c3]
    refine Ok.tableIn (off := 44) (tgt := 45) dX7_wordFor_1 (by decide) (by decide) (by decide +kernel) (by decide) ?_
    refine Ok.ldcS (k := 3) dX7_wordFor_45 (by decide) rfl rfl ?_
    exact X.sret dX7_wordFor_47 rfl (Or.inl ⟨_, rfl⟩) (Nat.le_of_ble_eq_true rfl) (Nat.le_of_ble_eq_true rfl) e4
  refine X.sw e4 (fun c4 e5 => ?_) (fun c4 e5 => ?_)
  · clear e4
    rw [c4]
    refine Ok.tableIn (off := 47) (tgt := 48) dX7_wordFor_1 (by decide) (by decide) (by decide +kernel) (by decide) ?_
    refine Ok.ldcS (k := 4) dX7_wordFor_48 (by decide) rfl rfl ?_
    exact X.sret dX7_wordFor_50 rfl (Or.inl ⟨_, rfl⟩) (Nat.le_of_ble_eq_true rfl) (Nat.le_of_ble_eq_true rfl) e5
  refine Ok.tableOut (tgt := 51) dX7_wordFor_1 (sw_out 0 5 (fun i hi => match i, hi with | 0, _ => c0 | 1, _ => c1 | 2, _ => c2 | 3, _ => c3 | 4, _ => c4 | _ + 5, q => absurd q (by omega))) (by decide) ?_
  refine Ok.ldcS (k := 5) dX7_wordFor_51 (by decide) rfl rfl ?_
  exact X.sret dX7_wordFor_53 rfl (Or.inl ⟨_, rfl⟩) (Nat.le_of_ble_eq_true rfl) (Nat.le_of_ble_eq_true rfl) e5
noncomputable def F_X7_readWord_4 (G : Gx) : Nat → Hp → Nat → Nat → Int32 → Int32 → Rz Int32 := fun n => Nat.rec (motive := fun _ => Hp → Nat → Nat → Int32 → Int32 → Rz Int32) (fun _ _ _ _ _ => none) (fun _ k4 => fun h nx l0 l1 l2 =>
if (nI 5) < l2 then
gfI h l0 [7] 2 (fun v1 =>
pfV h l0 [7] 2 (.int ((v1 + l1))) (fun h2 =>
some ((-1 : Int32), h2, nx)))
else
cl (F_X7_wordFor G h nx l2) (fun r3 h4 n5 =>
ck h4 l0 [7] (fun _ =>
cl (F_X7_alikeWith G h4 n5 l0 r3) (fun r6 h7 n8 =>
stL r3 (fun v9 =>
if r6 = v9 then
gfI h7 l0 [7] 2 (fun v12 =>
pfV h7 l0 [7] 2 (.int ((v12 + r6))) (fun h13 =>
some (l2, h13, n8)))
else
nm (mxI l1 r6) (fun v10 =>
nm (l2 + (nI 1)) (fun v11 =>
(k4 h7 n8 l0 v10 v11)))))))) n
theorem F_X7_readWord_4_0 {G : Gx} {h : Hp} {nx : Nat} {l0 : Nat} {l1 : Int32} {l2 : Int32} : F_X7_readWord_4 G 0 h nx l0 l1 l2 = none := rfl
theorem F_X7_readWord_4_s {G : Gx} {n : Nat} {h : Hp} {nx : Nat} {l0 : Nat} {l1 : Int32} {l2 : Int32} : F_X7_readWord_4 G (n + 1) h nx l0 l1 l2 = (
if (nI 5) < l2 then
gfI h l0 [7] 2 (fun v1 =>
pfV h l0 [7] 2 (.int ((v1 + l1))) (fun h2 =>
some ((-1 : Int32), h2, nx)))
else
cl (F_X7_wordFor G h nx l2) (fun r3 h4 n5 =>
ck h4 l0 [7] (fun _ =>
cl (F_X7_alikeWith G h4 n5 l0 r3) (fun r6 h7 n8 =>
stL r3 (fun v9 =>
if r6 = v9 then
gfI h7 l0 [7] 2 (fun v12 =>
pfV h7 l0 [7] 2 (.int ((v12 + r6))) (fun h13 =>
some (l2, h13, n8)))
else
nm (mxI l1 r6) (fun v10 =>
nm (l2 + (nI 1)) (fun v11 =>
((F_X7_readWord_4 G n) h7 n8 l0 v10 v11)))))))) := rfl
set_option maxRecDepth 100000 in
set_option maxHeartbeats 4000000 in
theorem k_X7_readWord_4 {G : Gx} {d : Nat} {v' : Int32} {h' : Hp} {n' : Nat} : ∀ (n : Nat) {h : Hp} {nx : Nat} {l0 : Nat} {l1 : Int32} {l2 : Int32}, F_X7_readWord_4 G n h nx l0 l1 l2 = some (v', h', n') → Ok G mX7_readWord (d + 6) (Same (some (.int v')) h' n') 4 [some (.ref l0), some (.int l1), some (.int l2), none, none] [] h nx 0 0 := by
  intro n
  induction n with
  | zero =>
    intro h nx l0 l1 l2 e
    rw [F_X7_readWord_4_0] at e
    cases e
  | succ n K4 =>
    intro h nx l0 l1 l2 e
    rw [F_X7_readWord_4_s] at e
    refine Ok.iload_n dX7_readWord_4 rfl ?_
    refine Ok.iconstV (v := (nI 5)) dX7_readWord_5 (by decide +kernel) ?_
    refine X.icmp_gt (tgt := 56) dX7_readWord_6 (by decide) e (fun e1 => ?_) (fun e1 => ?_)
    · clear e
      refine Ok.aload_n dX7_readWord_56 rfl ?_
      refine Ok.dup dX7_readWord_57 rfl ?_
      refine X.rgfI fl_RX7_15 dX7_readWord_58 e1 (fun v1 e2 => ?_)
      clear e1
      refine Ok.iload_n dX7_readWord_61 rfl ?_
      refine Ok.iadd dX7_readWord_62 ?_
      refine X.rpfV (v := (.int ((v1 + l1)))) fp_RX7_15 rfl rfl dX7_readWord_63 e2 (fun h2 e3 => ?_)
      clear e2
      refine Ok.iconstV (v := (-1 : Int32)) dX7_readWord_66 (by decide +kernel) ?_
      exact X.iret dX7_readWord_67 rfl (Nat.le_of_ble_eq_true rfl) (Nat.le_of_ble_eq_true rfl) e3
    · clear e
      refine Ok.iload_n dX7_readWord_9 rfl ?_
      refine X.callS (My := mX7_wordFor) (n := 1) (As := [.int l2]) (T := (fun v => (some (.ref (g_sK G v))))) (stk' := (fun v => [.ref (g_sK G v)])) (rest := []) (kc' := 0) (ks' := 0) dX7_readWord_10 e1 (fun v h n e => k_X7_wordFor (d := d + 5) e) wd395 wd81 wd394 wd393 (by decide +kernel) rfl (by decide) rfl rfl (Nat.le_of_ble_eq_true rfl) (Nat.le_of_ble_eq_true rfl) (Nat.le_of_ble_eq_true rfl) rfl rfl (fun _ => rfl) (fun r3 h4 n5 e2 => ?_)
      clear e1
      refine XL.astore_n dX7_readWord_13 (by decide) (L := [some (.ref l0), some (.int l1), some (.int l2), some (.ref (g_sK G r3)), none]) rfl ?_
      refine Ok.aload_n dX7_readWord_14 rfl ?_
      refine Ok.aload_n dX7_readWord_15 rfl ?_
      refine X.rck e2 (fun c fs hb hc e3 => ?_)
      clear e2
      obtain rfl := List.mem_singleton.mp hc
      refine X.callV (My := mX7_alikeWith) (n := 1) (As := [.ref (g_sK G r3)]) (T := (fun v => (some (.int v)))) (stk' := (fun v => [.int v])) (rest := []) (kc' := 0) (ks' := 0) dX7_readWord_16 e3 (fun v h n e => k_X7_alikeWith (d := d + 0) e) hb rfl wd405 wd81 wd404 wd2 wd402 (by decide +kernel) rfl (by decide) rfl rfl (Nat.le_of_ble_eq_true rfl) (Nat.le_of_ble_eq_true rfl) (Nat.le_of_ble_eq_true rfl) rfl rfl (fun _ => rfl) (fun r6 h7 n8 e4 => ?_)
      clear e3
      refine XL.istore dX7_readWord_19 (by decide) (L := [some (.ref l0), some (.int l1), some (.int l2), some (.ref (g_sK G r3)), some (.int r6)]) rfl ?_
      refine Ok.iload dX7_readWord_21 rfl ?_
      refine Ok.aload_n dX7_readWord_23 rfl ?_
      refine X.rstL dX7_readWord_24 wd406 ⟨(Nat.le_of_ble_eq_true rfl), (Nat.le_of_ble_eq_true rfl)⟩ (Nat.le_of_ble_eq_true rfl) e4 (fun v9 e5 => ?_)
      clear e4
      refine X.icmp_ne (tgt := 43) dX7_readWord_27 (by decide) e5 (fun e6 => ?_) (fun e6 => ?_)
      · clear e5
        refine Ok.iload_n dX7_readWord_43 rfl ?_
        refine Ok.iload dX7_readWord_44 rfl ?_
        refine Ok.mmaxI dX7_readWord_46 wd454 wd455 wd83 wd456 (Nat.le_of_ble_eq_true rfl) (Nat.le_of_ble_eq_true rfl) (Nat.le_of_ble_eq_true rfl) ?_
        refine X.istore_n dX7_readWord_49 (by decide) e6 (L := fun v10 => [some (.ref l0), some (.int v10), some (.int l2), some (.ref (g_sK G r3)), some (.int r6)]) (fun _ => rfl) (fun v10 e7 => ?_)
        clear e6
        refine X.iinc dX7_readWord_50 rfl (by decide) (by decide +kernel) e7 (L := fun v11 => [some (.ref l0), some (.int v10), some (.int v11), some (.ref (g_sK G r3)), some (.int r6)]) (fun _ => rfl) (fun v11 e8 => ?_)
        clear e7
        refine Ok.goto (tgt := 4) dX7_readWord_53 (by decide) ?_
        exact Ok.weakL (K4 e8) ⟨rfl, ⟨rfl, ⟨rfl, trivial⟩⟩⟩
      · clear e5
        refine Ok.aload_n dX7_readWord_30 rfl ?_
        refine Ok.dup dX7_readWord_31 rfl ?_
        refine X.rgfI fl_RX7_15 dX7_readWord_32 e6 (fun v12 e7 => ?_)
        clear e6
        refine Ok.iload dX7_readWord_35 rfl ?_
        refine Ok.iadd dX7_readWord_37 ?_
        refine X.rpfV (v := (.int ((v12 + r6)))) fp_RX7_15 rfl rfl dX7_readWord_38 e7 (fun h13 e8 => ?_)
        clear e7
        refine Ok.iload_n dX7_readWord_41 rfl ?_
        exact X.iret dX7_readWord_42 rfl (Nat.le_of_ble_eq_true rfl) (Nat.le_of_ble_eq_true rfl) e8
noncomputable def F_X7_readWord (G : Gx) (h : Hp) (nx : Nat) (a0 : Nat) : Rz Int32 :=
(F_X7_readWord_4 G fuelL h nx a0 (nI 0) (nI 0))
set_option maxRecDepth 100000 in
set_option maxHeartbeats 4000000 in
theorem k_X7_readWord {G : Gx} {d : Nat} {h : Hp} {nx : Nat} {a0 : Nat} {v' : Int32} {h' : Hp} {n' : Nat} (e : F_X7_readWord G h nx a0 = some (v', h', n')) : Ct G mX7_readWord (d + 6) (Same (some (.int v')) h' n') [.ref a0] h nx := by
  unfold F_X7_readWord at e
  refine Ct.of (ls := [some (.ref a0), none, none, none, none]) (by decide +kernel) rfl (Nat.le_of_ble_eq_true rfl) rfl ?_
  refine Ok.iconstV (v := (nI 0)) dX7_readWord_0 (by decide +kernel) ?_
  refine XL.istore_n dX7_readWord_1 (by decide) (L := [some (.ref a0), some (.int (nI 0)), none, none, none]) rfl ?_
  refine Ok.iconstV (v := (nI 0)) dX7_readWord_2 (by decide +kernel) ?_
  refine XL.istore_n dX7_readWord_3 (by decide) (L := [some (.ref a0), some (.int (nI 0)), some (.int (nI 0)), none, none]) rfl ?_
  exact Ok.weakL (k_X7_readWord_4 (d := d) fuelL e) ⟨rfl, ⟨rfl, ⟨rfl, trivial⟩⟩⟩
noncomputable def F_X7_readClause_25 (G : Gx) (h : Hp) (nx : Nat) : Rz Int32 :=
zk (nI 0) (some ((nI 0), h, nx))
set_option maxRecDepth 100000 in
set_option maxHeartbeats 4000000 in
theorem k_X7_readClause_25 {G : Gx} {d : Nat} {v' : Int32} {h' : Hp} {n' : Nat} {h : Hp} {nx : Nat} (e : F_X7_readClause_25 G h nx = some (v', h', n')) : Ok G mX7_readClause (d + 67) (Same (some (.int v')) h' n') 25 [none, none, none] [] h nx 0 0 := by
  unfold F_X7_readClause_25 at e
  refine Ok.iconstV (v := (nI 0)) dX7_readClause_25 (by decide +kernel) ?_
  exact X.zret dX7_readClause_26 rfl (Nat.le_of_ble_eq_true rfl) (Nat.le_of_ble_eq_true rfl) e
noncomputable def F_X7_readClause_84 (G : Gx) (h : Hp) (nx : Nat) (s0 : Int32) : Rz Int32 :=
zk s0 (some (s0, h, nx))
set_option maxRecDepth 100000 in
set_option maxHeartbeats 4000000 in
theorem k_X7_readClause_84 {G : Gx} {d : Nat} {v' : Int32} {h' : Hp} {n' : Nat} {h : Hp} {nx : Nat} {s0 : Int32} (e : F_X7_readClause_84 G h nx s0 = some (v', h', n')) : Ok G mX7_readClause (d + 67) (Same (some (.int v')) h' n') 84 [none, none, none] [.int s0] h nx 0 0 := by
  unfold F_X7_readClause_84 at e
  exact X.zret dX7_readClause_84 rfl (Nat.le_of_ble_eq_true rfl) (Nat.le_of_ble_eq_true rfl) e
noncomputable def F_X7_readClause_83 (G : Gx) (h : Hp) (nx : Nat) : Rz Int32 :=
(F_X7_readClause_84 G h nx (nI 0))
set_option maxRecDepth 100000 in
set_option maxHeartbeats 4000000 in
theorem k_X7_readClause_83 {G : Gx} {d : Nat} {v' : Int32} {h' : Hp} {n' : Nat} {h : Hp} {nx : Nat} (e : F_X7_readClause_83 G h nx = some (v', h', n')) : Ok G mX7_readClause (d + 67) (Same (some (.int v')) h' n') 83 [none, none, none] [] h nx 0 0 := by
  unfold F_X7_readClause_83 at e
  refine Ok.iconstV (v := (nI 0)) dX7_readClause_83 (by decide +kernel) ?_
  exact Ok.weakL (k_X7_readClause_84 (d := d) e) trivial
noncomputable def F_X7_readClause_48 (G : Gx) (h : Hp) (nx : Nat) (l0 : Nat) (l1 : Int32) : Rz Int32 :=
gfI h l0 [7] 3 (fun v1 =>
ck h l0 [7] (fun _ =>
cl (F_X7_take G h nx l0 (nI 32)) (fun r2 h3 n4 =>
if r2 = 0 then
(F_X7_readClause_83 G h3 n4)
else
ck h3 l0 [7] (fun _ =>
cl (F_X7_readEither G 64 h3 n4 l0 (nI 0)) (fun r5 h6 n7 =>
if r5 = 0 then
(F_X7_readClause_83 G h6 n7)
else
ck h6 l0 [7] (fun _ =>
cl (F_X7_addClause G h6 n7 l0 l1 v1) (fun r8 h9 n10 =>
if r8 = 0 then
(F_X7_readClause_83 G h9 n10)
else
(F_X7_readClause_84 G h9 n10 (nI 1)))))))))
set_option maxRecDepth 100000 in
set_option maxHeartbeats 4000000 in
theorem k_X7_readClause_48 {G : Gx} {d : Nat} {v' : Int32} {h' : Hp} {n' : Nat} {h : Hp} {nx : Nat} {l0 : Nat} {l1 : Int32} (e : F_X7_readClause_48 G h nx l0 l1 = some (v', h', n')) : Ok G mX7_readClause (d + 67) (Same (some (.int v')) h' n') 48 [some (.ref l0), some (.int l1), none] [] h nx 0 0 := by
  unfold F_X7_readClause_48 at e
  refine Ok.aload_n dX7_readClause_48 rfl ?_
  refine X.rgfI fl_RX7_19 dX7_readClause_49 e (fun v1 e1 => ?_)
  clear e
  refine XL.istore_n dX7_readClause_52 (by decide) (L := [some (.ref l0), some (.int l1), some (.int v1)]) rfl ?_
  refine Ok.aload_n dX7_readClause_53 rfl ?_
  refine Ok.bipushV (v := (nI 32)) dX7_readClause_54 (by decide +kernel) ?_
  refine X.rck e1 (fun c fs hb hc e2 => ?_)
  clear e1
  obtain rfl := List.mem_singleton.mp hc
  refine X.callV (My := mX7_take) (n := 1) (As := [.int (nI 32)]) (T := (fun v => (some (.int v)))) (stk' := (fun v => [.int v])) (rest := []) (kc' := 0) (ks' := 0) dX7_readClause_56 e2 (fun v h n e => k_X7_take (d := d + 66) e) hb rfl wd460 wd81 wd459 wd3 wd457 (by decide +kernel) rfl (by decide) rfl rfl (Nat.le_of_ble_eq_true rfl) (Nat.le_of_ble_eq_true rfl) (Nat.le_of_ble_eq_true rfl) rfl rfl (fun _ => rfl) (fun r2 h3 n4 e3 => ?_)
  clear e2
  refine X.if_eq (tgt := 83) dX7_readClause_59 (by decide) e3 (fun e4 => ?_) (fun e4 => ?_)
  · clear e3
    exact Ok.weakL (k_X7_readClause_83 (d := d) e4) trivial
  · clear e3
    refine Ok.aload_n dX7_readClause_62 rfl ?_
    refine Ok.iconstV (v := (nI 0)) dX7_readClause_63 (by decide +kernel) ?_
    refine X.rck e4 (fun c fs hb hc e5 => ?_)
    clear e4
    obtain rfl := List.mem_singleton.mp hc
    refine X.callV (My := mX7_readEither) (n := 1) (As := [.int (nI 0)]) (T := (fun v => (some (.int v)))) (stk' := (fun v => [.int v])) (rest := []) (kc' := 0) (ks' := 0) dX7_readClause_64 e5 (fun v h n e => k_X7_readEither 64 (d := d + 0) e) hb rfl wd468 wd81 wd467 wd5 wd465 (by decide +kernel) rfl (by decide) rfl rfl (Nat.le_of_ble_eq_true rfl) (Nat.le_of_ble_eq_true rfl) (Nat.le_of_ble_eq_true rfl) rfl rfl (fun _ => rfl) (fun r5 h6 n7 e6 => ?_)
    clear e5
    refine X.if_eq (tgt := 83) dX7_readClause_67 (by decide) e6 (fun e7 => ?_) (fun e7 => ?_)
    · clear e6
      exact Ok.weakL (k_X7_readClause_83 (d := d) e7) trivial
    · clear e6
      refine Ok.aload_n dX7_readClause_70 rfl ?_
      refine Ok.iload_n dX7_readClause_71 rfl ?_
      refine Ok.iload_n dX7_readClause_72 rfl ?_
      refine X.rck e7 (fun c fs hb hc e8 => ?_)
      clear e7
      obtain rfl := List.mem_singleton.mp hc
      refine X.callV (My := mX7_addClause) (n := 2) (As := [.int l1, .int v1]) (T := (fun v => (some (.int v)))) (stk' := (fun v => [.int v])) (rest := []) (kc' := 0) (ks' := 0) dX7_readClause_73 e8 (fun v h n e => k_X7_addClause (d := d + 66) e) hb rfl wd488 wd81 wd487 wd10 wd485 (by decide +kernel) rfl (by decide) rfl rfl (Nat.le_of_ble_eq_true rfl) (Nat.le_of_ble_eq_true rfl) (Nat.le_of_ble_eq_true rfl) rfl rfl (fun _ => rfl) (fun r8 h9 n10 e9 => ?_)
      clear e8
      refine X.if_eq (tgt := 83) dX7_readClause_76 (by decide) e9 (fun e10 => ?_) (fun e10 => ?_)
      · clear e9
        exact Ok.weakL (k_X7_readClause_83 (d := d) e10) trivial
      · clear e9
        refine Ok.iconstV (v := (nI 1)) dX7_readClause_79 (by decide +kernel) ?_
        refine Ok.goto (tgt := 84) dX7_readClause_80 (by decide) ?_
        exact Ok.weakL (k_X7_readClause_84 (d := d) e10) trivial
noncomputable def F_X7_readClause (G : Gx) (h : Hp) (nx : Nat) (a0 : Nat) : Rz Int32 :=
ck h a0 [7] (fun _ =>
cl (F_X7_readWord G h nx a0) (fun r1 h2 n3 =>
if r1 < 0 then
(F_X7_readClause_25 G h2 n3)
else
ck h2 a0 [7] (fun _ =>
cl (F_X7_take G h2 n3 a0 (nI 32)) (fun r4 h5 n6 =>
if r4 = 0 then
(F_X7_readClause_25 G h5 n6)
else
ck h5 a0 [7] (fun _ =>
cl (F_X7_readNumber G h5 n6 a0) (fun r7 h8 n9 =>
if r7 = 0 then
(F_X7_readClause_25 G h8 n9)
else
if r1 = 0 then
(F_X7_readClause_48 G h8 n9 a0 r1)
else
if r1 = (nI 1) then
(F_X7_readClause_48 G h8 n9 a0 r1)
else
gfR h8 a0 [7] 0 (fun v10 =>
gfI h8 a0 [7] 3 (fun v11 =>
nn v10 (fun p12 =>
asI (g_c G 0) id h8 p12 r1 v11 (fun h13 =>
zk (nI 1) (some ((nI 1), h13, n9))))))))))))
set_option maxRecDepth 100000 in
set_option maxHeartbeats 4000000 in
theorem k_X7_readClause {G : Gx} {d : Nat} {h : Hp} {nx : Nat} {a0 : Nat} {v' : Int32} {h' : Hp} {n' : Nat} (e : F_X7_readClause G h nx a0 = some (v', h', n')) : Ct G mX7_readClause (d + 67) (Same (some (.int v')) h' n') [.ref a0] h nx := by
  unfold F_X7_readClause at e
  refine Ct.of (ls := [some (.ref a0), none, none]) (by decide +kernel) rfl (Nat.le_of_ble_eq_true rfl) rfl ?_
  refine Ok.aload_n dX7_readClause_0 rfl ?_
  refine X.rck e (fun c fs hb hc e1 => ?_)
  clear e
  obtain rfl := List.mem_singleton.mp hc
  refine X.callV (My := mX7_readWord) (n := 0) (As := []) (T := (fun v => (some (.int v)))) (stk' := (fun v => [.int v])) (rest := []) (kc' := 0) (ks' := 0) dX7_readClause_1 e1 (fun v h n e => k_X7_readWord (d := d + 60) e) hb rfl wd392 wd81 wd391 wd1 wd389 (by decide +kernel) rfl (by decide) rfl rfl (Nat.le_of_ble_eq_true rfl) (Nat.le_of_ble_eq_true rfl) (Nat.le_of_ble_eq_true rfl) rfl rfl (fun _ => rfl) (fun r1 h2 n3 e2 => ?_)
  clear e1
  refine XL.istore_n dX7_readClause_4 (by decide) (L := [some (.ref a0), some (.int r1), none]) rfl ?_
  refine Ok.iload_n dX7_readClause_5 rfl ?_
  refine X.if_lt (tgt := 25) dX7_readClause_6 (by decide) e2 (fun e3 => ?_) (fun e3 => ?_)
  · clear e2
    exact Ok.weakL (k_X7_readClause_25 (d := d) e3) trivial
  · clear e2
    refine Ok.aload_n dX7_readClause_9 rfl ?_
    refine Ok.bipushV (v := (nI 32)) dX7_readClause_10 (by decide +kernel) ?_
    refine X.rck e3 (fun c fs hb hc e4 => ?_)
    clear e3
    obtain rfl := List.mem_singleton.mp hc
    refine X.callV (My := mX7_take) (n := 1) (As := [.int (nI 32)]) (T := (fun v => (some (.int v)))) (stk' := (fun v => [.int v])) (rest := []) (kc' := 0) (ks' := 0) dX7_readClause_12 e4 (fun v h n e => k_X7_take (d := d + 66) e) hb rfl wd460 wd81 wd459 wd3 wd457 (by decide +kernel) rfl (by decide) rfl rfl (Nat.le_of_ble_eq_true rfl) (Nat.le_of_ble_eq_true rfl) (Nat.le_of_ble_eq_true rfl) rfl rfl (fun _ => rfl) (fun r4 h5 n6 e5 => ?_)
    clear e4
    refine X.if_eq (tgt := 25) dX7_readClause_15 (by decide) e5 (fun e6 => ?_) (fun e6 => ?_)
    · clear e5
      exact Ok.weakL (k_X7_readClause_25 (d := d) e6) trivial
    · clear e5
      refine Ok.aload_n dX7_readClause_18 rfl ?_
      refine X.rck e6 (fun c fs hb hc e7 => ?_)
      clear e6
      obtain rfl := List.mem_singleton.mp hc
      refine X.callV (My := mX7_readNumber) (n := 0) (As := []) (T := (fun v => (some (.int v)))) (stk' := (fun v => [.int v])) (rest := []) (kc' := 0) (ks' := 0) dX7_readClause_19 e7 (fun v h n e => k_X7_readNumber (d := d + 66) e) hb rfl wd464 wd81 wd463 wd4 wd461 (by decide +kernel) rfl (by decide) rfl rfl (Nat.le_of_ble_eq_true rfl) (Nat.le_of_ble_eq_true rfl) (Nat.le_of_ble_eq_true rfl) rfl rfl (fun _ => rfl) (fun r7 h8 n9 e8 => ?_)
      clear e7
      refine X.if_ne (tgt := 27) dX7_readClause_22 (by decide) e8 (fun e9 => ?_) (fun e9 => ?_)
      · clear e8
        refine Ok.iload_n dX7_readClause_27 rfl ?_
        refine X.if_eq (tgt := 48) dX7_readClause_28 (by decide) e9 (fun e10 => ?_) (fun e10 => ?_)
        · clear e9
          exact Ok.weakL (k_X7_readClause_48 (d := d) e10) ⟨rfl, ⟨rfl, trivial⟩⟩
        · clear e9
          refine Ok.iload_n dX7_readClause_31 rfl ?_
          refine Ok.iconstV (v := (nI 1)) dX7_readClause_32 (by decide +kernel) ?_
          refine X.icmp_eq (tgt := 48) dX7_readClause_33 (by decide) e10 (fun e11 => ?_) (fun e11 => ?_)
          · clear e10
            exact Ok.weakL (k_X7_readClause_48 (d := d) e11) ⟨rfl, ⟨rfl, trivial⟩⟩
          · clear e10
            refine Ok.aload_n dX7_readClause_36 rfl ?_
            refine X.rgfR fl_RX7_9 dX7_readClause_37 e11 (fun v10 e12 => ?_)
            clear e11
            refine Ok.iload_n dX7_readClause_40 rfl ?_
            refine Ok.aload_n dX7_readClause_41 rfl ?_
            refine X.rgfI fl_RX7_19 dX7_readClause_42 e12 (fun v11 e13 => ?_)
            clear e12
            refine X.rnn e13 (fun p12 q e14 => ?_)
            clear e13
            subst q
            refine X.iast dX7_readClause_45 e14 (fun h13 e15 => ?_)
            clear e14
            refine Ok.iconstV (v := (nI 1)) dX7_readClause_46 (by decide +kernel) ?_
            exact X.zret dX7_readClause_47 rfl (Nat.le_of_ble_eq_true rfl) (Nat.le_of_ble_eq_true rfl) e15
      · clear e8
        exact Ok.weakL (k_X7_readClause_25 (d := d) e9) trivial
noncomputable def F_X7_readText_49 (G : Gx) (h : Hp) (nx : Nat) (l0 : Nat) : Rz Int32 :=
gfI h l0 [7] 2 (fun v1 =>
some (v1, h, nx))
set_option maxRecDepth 100000 in
set_option maxHeartbeats 4000000 in
theorem k_X7_readText_49 {G : Gx} {d : Nat} {v' : Int32} {h' : Hp} {n' : Nat} {h : Hp} {nx : Nat} {l0 : Nat} (e : F_X7_readText_49 G h nx l0 = some (v', h', n')) : Ok G mX7_readText (d + 68) (Same (some (.int v')) h' n') 49 [some (.ref l0), none] [] h nx 0 0 := by
  unfold F_X7_readText_49 at e
  refine Ok.aload_n dX7_readText_49 rfl ?_
  refine X.rgfI fl_RX7_15 dX7_readText_50 e (fun v1 e1 => ?_)
  clear e
  exact X.iret dX7_readText_53 rfl (Nat.le_of_ble_eq_true rfl) (Nat.le_of_ble_eq_true rfl) e1
noncomputable def F_X7_readText_2 (G : Gx) : Nat → Hp → Nat → Nat → Int32 → Rz Int32 := fun n => Nat.rec (motive := fun _ => Hp → Nat → Nat → Int32 → Rz Int32) (fun _ _ _ _ => none) (fun _ k2 => fun h nx l0 l1 =>
if (nI 10) < l1 then
gfI h l0 [7] 2 (fun v1 =>
some (v1, h, nx))
else
ck h l0 [7] (fun _ =>
cl (F_X7_readClause G h nx l0) (fun r2 h3 n4 =>
if r2 = 0 then
gfI h3 l0 [7] 2 (fun v13 =>
some (v13, h3, n4))
else
gfI h3 l0 [7] 2 (fun v5 =>
gfR h3 l0 [7] 1 (fun v6 =>
nn v6 (fun p7 =>
lnI (g_c G 2) h3 p7 (fun v8 =>
if v5 = v8 then
some ((-1 : Int32), h3, n4)
else
if l1 = (nI 10) then
(F_X7_readText_49 G h3 n4 l0)
else
ck h3 l0 [7] (fun _ =>
cl (F_X7_take G h3 n4 l0 (nI 59)) (fun r9 h10 n11 =>
if r9 = 0 then
(F_X7_readText_49 G h10 n11 l0)
else
nm (l1 + (nI 1)) (fun v12 =>
(k2 h10 n11 l0 v12))))))))))) n
theorem F_X7_readText_2_0 {G : Gx} {h : Hp} {nx : Nat} {l0 : Nat} {l1 : Int32} : F_X7_readText_2 G 0 h nx l0 l1 = none := rfl
theorem F_X7_readText_2_s {G : Gx} {n : Nat} {h : Hp} {nx : Nat} {l0 : Nat} {l1 : Int32} : F_X7_readText_2 G (n + 1) h nx l0 l1 = (
if (nI 10) < l1 then
gfI h l0 [7] 2 (fun v1 =>
some (v1, h, nx))
else
ck h l0 [7] (fun _ =>
cl (F_X7_readClause G h nx l0) (fun r2 h3 n4 =>
if r2 = 0 then
gfI h3 l0 [7] 2 (fun v13 =>
some (v13, h3, n4))
else
gfI h3 l0 [7] 2 (fun v5 =>
gfR h3 l0 [7] 1 (fun v6 =>
nn v6 (fun p7 =>
lnI (g_c G 2) h3 p7 (fun v8 =>
if v5 = v8 then
some ((-1 : Int32), h3, n4)
else
if l1 = (nI 10) then
(F_X7_readText_49 G h3 n4 l0)
else
ck h3 l0 [7] (fun _ =>
cl (F_X7_take G h3 n4 l0 (nI 59)) (fun r9 h10 n11 =>
if r9 = 0 then
(F_X7_readText_49 G h10 n11 l0)
else
nm (l1 + (nI 1)) (fun v12 =>
((F_X7_readText_2 G n) h10 n11 l0 v12))))))))))) := rfl
set_option maxRecDepth 100000 in
set_option maxHeartbeats 4000000 in
theorem k_X7_readText_2 {G : Gx} {d : Nat} {v' : Int32} {h' : Hp} {n' : Nat} : ∀ (n : Nat) {h : Hp} {nx : Nat} {l0 : Nat} {l1 : Int32}, F_X7_readText_2 G n h nx l0 l1 = some (v', h', n') → Ok G mX7_readText (d + 68) (Same (some (.int v')) h' n') 2 [some (.ref l0), some (.int l1)] [] h nx 0 0 := by
  intro n
  induction n with
  | zero =>
    intro h nx l0 l1 e
    rw [F_X7_readText_2_0] at e
    cases e
  | succ n K2 =>
    intro h nx l0 l1 e
    rw [F_X7_readText_2_s] at e
    refine Ok.iload_n dX7_readText_2 rfl ?_
    refine Ok.bipushV (v := (nI 10)) dX7_readText_3 (by decide +kernel) ?_
    refine X.icmp_gt (tgt := 60) dX7_readText_5 (by decide) e (fun e1 => ?_) (fun e1 => ?_)
    · clear e
      refine Ok.aload_n dX7_readText_60 rfl ?_
      refine X.rgfI fl_RX7_15 dX7_readText_61 e1 (fun v1 e2 => ?_)
      clear e1
      exact X.iret dX7_readText_64 rfl (Nat.le_of_ble_eq_true rfl) (Nat.le_of_ble_eq_true rfl) e2
    · clear e
      refine Ok.aload_n dX7_readText_8 rfl ?_
      refine X.rck e1 (fun c fs hb hc e2 => ?_)
      clear e1
      obtain rfl := List.mem_singleton.mp hc
      refine X.callV (My := mX7_readClause) (n := 0) (As := []) (T := (fun v => (some (.int v)))) (stk' := (fun v => [.int v])) (rest := []) (kc' := 0) (ks' := 0) dX7_readText_9 e2 (fun v h n e => k_X7_readClause (d := d + 0) e) hb rfl wd388 wd81 wd387 wd0 wd385 (by decide +kernel) rfl (by decide) rfl rfl (Nat.le_of_ble_eq_true rfl) (Nat.le_of_ble_eq_true rfl) (Nat.le_of_ble_eq_true rfl) rfl rfl (fun _ => rfl) (fun r2 h3 n4 e3 => ?_)
      clear e2
      refine X.if_ne (tgt := 20) dX7_readText_12 (by decide) e3 (fun e4 => ?_) (fun e4 => ?_)
      · clear e3
        refine Ok.aload_n dX7_readText_20 rfl ?_
        refine X.rgfI fl_RX7_15 dX7_readText_21 e4 (fun v5 e5 => ?_)
        clear e4
        refine Ok.aload_n dX7_readText_24 rfl ?_
        refine X.rgfR fl_RX7_46 dX7_readText_25 e5 (fun v6 e6 => ?_)
        clear e5
        refine X.rnn e6 (fun p7 q e7 => ?_)
        clear e6
        subst q
        refine X.lnB dX7_readText_28 e7 (fun v8 e8 => ?_)
        clear e7
        refine X.icmp_ne (tgt := 34) dX7_readText_29 (by decide) e8 (fun e9 => ?_) (fun e9 => ?_)
        · clear e8
          refine Ok.iload_n dX7_readText_34 rfl ?_
          refine Ok.bipushV (v := (nI 10)) dX7_readText_35 (by decide +kernel) ?_
          refine X.icmp_eq (tgt := 49) dX7_readText_37 (by decide) e9 (fun e10 => ?_) (fun e10 => ?_)
          · clear e9
            exact Ok.weakL (k_X7_readText_49 (d := d) e10) ⟨rfl, trivial⟩
          · clear e9
            refine Ok.aload_n dX7_readText_40 rfl ?_
            refine Ok.bipushV (v := (nI 59)) dX7_readText_41 (by decide +kernel) ?_
            refine X.rck e10 (fun c fs hb hc e11 => ?_)
            clear e10
            obtain rfl := List.mem_singleton.mp hc
            refine X.callV (My := mX7_take) (n := 1) (As := [.int (nI 59)]) (T := (fun v => (some (.int v)))) (stk' := (fun v => [.int v])) (rest := []) (kc' := 0) (ks' := 0) dX7_readText_43 e11 (fun v h n e => k_X7_take (d := d + 67) e) hb rfl wd460 wd81 wd459 wd3 wd457 (by decide +kernel) rfl (by decide) rfl rfl (Nat.le_of_ble_eq_true rfl) (Nat.le_of_ble_eq_true rfl) (Nat.le_of_ble_eq_true rfl) rfl rfl (fun _ => rfl) (fun r9 h10 n11 e12 => ?_)
            clear e11
            refine X.if_ne (tgt := 54) dX7_readText_46 (by decide) e12 (fun e13 => ?_) (fun e13 => ?_)
            · clear e12
              refine X.iinc dX7_readText_54 rfl (by decide) (by decide +kernel) e13 (L := fun v12 => [some (.ref l0), some (.int v12)]) (fun _ => rfl) (fun v12 e14 => ?_)
              clear e13
              refine Ok.goto (tgt := 2) dX7_readText_57 (by decide) ?_
              exact Ok.weakL (K2 e14) ⟨rfl, ⟨rfl, trivial⟩⟩
            · clear e12
              exact Ok.weakL (k_X7_readText_49 (d := d) e13) ⟨rfl, trivial⟩
        · clear e8
          refine Ok.iconstV (v := (-1 : Int32)) dX7_readText_32 (by decide +kernel) ?_
          exact X.iret dX7_readText_33 rfl (Nat.le_of_ble_eq_true rfl) (Nat.le_of_ble_eq_true rfl) e9
      · clear e3
        refine Ok.aload_n dX7_readText_15 rfl ?_
        refine X.rgfI fl_RX7_15 dX7_readText_16 e4 (fun v13 e5 => ?_)
        clear e4
        exact X.iret dX7_readText_19 rfl (Nat.le_of_ble_eq_true rfl) (Nat.le_of_ble_eq_true rfl) e5
noncomputable def F_X7_readText (G : Gx) (h : Hp) (nx : Nat) (a0 : Nat) : Rz Int32 :=
(F_X7_readText_2 G fuelL h nx a0 (nI 1))
set_option maxRecDepth 100000 in
set_option maxHeartbeats 4000000 in
theorem k_X7_readText {G : Gx} {d : Nat} {h : Hp} {nx : Nat} {a0 : Nat} {v' : Int32} {h' : Hp} {n' : Nat} (e : F_X7_readText G h nx a0 = some (v', h', n')) : Ct G mX7_readText (d + 68) (Same (some (.int v')) h' n') [.ref a0] h nx := by
  unfold F_X7_readText at e
  refine Ct.of (ls := [some (.ref a0), none]) (by decide +kernel) rfl (Nat.le_of_ble_eq_true rfl) rfl ?_
  refine Ok.iconstV (v := (nI 1)) dX7_readText_0 (by decide +kernel) ?_
  refine XL.istore_n dX7_readText_1 (by decide) (L := [some (.ref a0), some (.int (nI 1))]) rfl ?_
  exact Ok.weakL (k_X7_readText_2 (d := d) fuelL e) ⟨rfl, ⟨rfl, trivial⟩⟩
noncomputable def F_X8_init (G : Gx) (h : Hp) (nx : Nat) (a0 : Nat) (a1 : Int32) (a2 : Int32) : Rz Unit :=
cl (F_X6_init G h nx a0 a1 a2) (fun _ h2 n3 =>
some ((), h2, n3))
set_option maxRecDepth 100000 in
set_option maxHeartbeats 4000000 in
theorem k_X8_init {G : Gx} {d : Nat} {h : Hp} {nx : Nat} {a0 : Nat} {a1 : Int32} {a2 : Int32} {v' : Unit} {h' : Hp} {n' : Nat} (e : F_X8_init G h nx a0 a1 a2 = some (v', h', n')) : Ct G mX8_init (d + 1) (Same none h' n') [.ref a0, .int a1, .int a2] h nx := by
  unfold F_X8_init at e
  refine Ct.of (ls := [some (.ref a0), some (.int a1), some (.int a2)]) (by decide +kernel) rfl (Nat.le_of_ble_eq_true rfl) rfl ?_
  refine Ok.aload_n dX8_init_0 rfl ?_
  refine Ok.iload_n dX8_init_1 rfl ?_
  refine Ok.iload_n dX8_init_2 rfl ?_
  refine X.callI (My := mX6_init) (n := 2) (As := [.int a1, .int a2]) (T := (fun v => none)) (stk' := (fun _ => [])) (rest := []) (kc' := 0) (ks' := 0) dX8_init_3 e (fun v h n e => k_X6_init (d := d + 0) e) rfl wd631 wd89 wd630 rfl wd694 (by decide +kernel) rfl (by decide) rfl rfl (Nat.le_of_ble_eq_true rfl) (Nat.le_of_ble_eq_true rfl) (Nat.le_of_ble_eq_true rfl) rfl rfl (fun _ => rfl) (fun _ h2 n3 e1 => ?_)
  clear e
  exact X.vret dX8_init_6 rfl (Nat.le_of_ble_eq_true rfl) (Nat.le_of_ble_eq_true rfl) e1
noncomputable def F_X8_chosen_55 (G : Gx) : Nat → Hp → Nat → Int32 → Int32 → Rz Int32 := fun n => Nat.rec (motive := fun _ => Hp → Nat → Int32 → Int32 → Rz Int32) (fun _ _ _ _ => none) (fun _ k55 => fun h nx l6 l7 =>
if l7 ≤ 0 then
some (l6, h, nx)
else
cl (F_J6_highestOneBit_0f7a4 G h nx l6) (fun r1 h2 n3 =>
nm ((l6 &&& ((r1 ^^^ (-1 : Int32))))) (fun v4 =>
nm (l7 + (-1 : Int32)) (fun v5 =>
(k55 h2 n3 v4 v5))))) n
theorem F_X8_chosen_55_0 {G : Gx} {h : Hp} {nx : Nat} {l6 : Int32} {l7 : Int32} : F_X8_chosen_55 G 0 h nx l6 l7 = none := rfl
theorem F_X8_chosen_55_s {G : Gx} {n : Nat} {h : Hp} {nx : Nat} {l6 : Int32} {l7 : Int32} : F_X8_chosen_55 G (n + 1) h nx l6 l7 = (
if l7 ≤ 0 then
some (l6, h, nx)
else
cl (F_J6_highestOneBit_0f7a4 G h nx l6) (fun r1 h2 n3 =>
nm ((l6 &&& ((r1 ^^^ (-1 : Int32))))) (fun v4 =>
nm (l7 + (-1 : Int32)) (fun v5 =>
((F_X8_chosen_55 G n) h2 n3 v4 v5))))) := rfl
set_option maxRecDepth 100000 in
set_option maxHeartbeats 4000000 in
theorem k_X8_chosen_55 {G : Gx} {d : Nat} {v' : Int32} {h' : Hp} {n' : Nat} : ∀ (n : Nat) {h : Hp} {nx : Nat} {l6 : Int32} {l7 : Int32}, F_X8_chosen_55 G n h nx l6 l7 = some (v', h', n') → Ok G mX8_chosen (d + 2) (Same (some (.int v')) h' n') 55 [none, none, none, none, none, none, some (.int l6), some (.int l7)] [] h nx 0 0 := by
  intro n
  induction n with
  | zero =>
    intro h nx l6 l7 e
    rw [F_X8_chosen_55_0] at e
    cases e
  | succ n K55 =>
    intro h nx l6 l7 e
    rw [F_X8_chosen_55_s] at e
    refine Ok.iload dX8_chosen_55 rfl ?_
    refine X.if_le (tgt := 78) dX8_chosen_57 (by decide) e (fun e1 => ?_) (fun e1 => ?_)
    · clear e
      refine Ok.iload dX8_chosen_78 rfl ?_
      exact X.iret dX8_chosen_80 rfl (Nat.le_of_ble_eq_true rfl) (Nat.le_of_ble_eq_true rfl) e1
    · clear e
      refine Ok.iload dX8_chosen_60 rfl ?_
      refine Ok.iload dX8_chosen_62 rfl ?_
      refine X.callS (My := mJ6_highestOneBit_0f7a4) (n := 1) (As := [.int l6]) (T := (fun v => (some (.int v)))) (stk' := (fun v => [.int v, .int l6])) (rest := [.int l6]) (kc' := 0) (ks' := 0) dX8_chosen_64 e1 (fun v h n e => k_J6_highestOneBit_0f7a4 (d := d + 0) e) wd775 wd97 wd774 wd773 (by decide +kernel) rfl (by decide) rfl rfl (Nat.le_of_ble_eq_true rfl) (Nat.le_of_ble_eq_true rfl) (Nat.le_of_ble_eq_true rfl) rfl rfl (fun _ => rfl) (fun r1 h2 n3 e2 => ?_)
      clear e1
      refine Ok.iconstV (v := (-1 : Int32)) dX8_chosen_67 (by decide +kernel) ?_
      refine Ok.ixor dX8_chosen_68 ?_
      refine Ok.iand dX8_chosen_69 ?_
      refine X.istore dX8_chosen_70 (by decide) e2 (L := fun v4 => [none, none, none, none, none, none, some (.int v4), some (.int l7)]) (fun _ => rfl) (fun v4 e3 => ?_)
      clear e2
      refine X.iinc dX8_chosen_72 rfl (by decide) (by decide +kernel) e3 (L := fun v5 => [none, none, none, none, none, none, some (.int v4), some (.int v5)]) (fun _ => rfl) (fun v5 e4 => ?_)
      clear e3
      refine Ok.goto (tgt := 55) dX8_chosen_75 (by decide) ?_
      exact Ok.weakL (K55 e4) ⟨rfl, ⟨rfl, trivial⟩⟩
noncomputable def F_X8_chosen (G : Gx) (h : Hp) (nx : Nat) (a0 : Nat) (a1 : Nat) (a2 : Nat) (a3 : Int32) : Rz Int32 :=
gfR h a1 [5] 0 (fun v1 =>
nn v1 (fun p2 =>
gfR h p2 [0] 13 (fun v3 =>
gfI h a0 [8] 0 (fun v4 =>
nn v3 (fun p5 =>
alI (g_c G 0) h p5 v4 (fun v6 =>
if v6 = 0 then
some ((nI 0), h, nx)
else
gfR h p2 [0] 14 (fun v7 =>
gfI h a0 [8] 0 (fun v8 =>
nn v7 (fun p9 =>
alR (g_c G 6) h p9 v8 (fun v10 =>
dzI v6 (
nn v10 (fun p11 =>
alI (g_c G 0) h p11 ((a3 - a3 / v6 * v6)) (fun v12 =>
cl (F_J6_bitCount_0f7a4 G h nx v12) (fun r13 h14 n15 =>
gfI h14 p2 [0] 17 (fun v16 =>
nm ((r13 - v16)) (fun v17 =>
(F_X8_chosen_55 G fuelL h14 n15 v12 v17)))))))))))))))))
set_option maxRecDepth 100000 in
set_option maxHeartbeats 4000000 in
theorem k_X8_chosen {G : Gx} {d : Nat} {h : Hp} {nx : Nat} {a0 : Nat} {a1 : Nat} {a2 : Nat} {a3 : Int32} {v' : Int32} {h' : Hp} {n' : Nat} (e : F_X8_chosen G h nx a0 a1 a2 a3 = some (v', h', n')) : Ct G mX8_chosen (d + 2) (Same (some (.int v')) h' n') [.ref a0, .ref a1, .ref a2, .int a3] h nx := by
  unfold F_X8_chosen at e
  refine Ct.of (ls := [some (.ref a0), some (.ref a1), some (.ref a2), some (.int a3), none, none, none, none]) (by decide +kernel) rfl (Nat.le_of_ble_eq_true rfl) rfl ?_
  refine Ok.aload_n dX8_chosen_0 rfl ?_
  refine X.rgfR fl_RX8_7 dX8_chosen_1 e (fun v1 e1 => ?_)
  clear e
  refine XL.astoreQ (r := v1) dX8_chosen_4 (by decide) (L := [some (.ref a0), some (.ref a1), some (.ref a2), some (.int a3), some (va_rf v1), none, none, none]) rfl ?_
  refine Ok.aloadQ dX8_chosen_6 rfl ?_
  refine X.rnn e1 (fun p2 q e2 => ?_)
  clear e1
  subst q
  refine X.rgfR fl_RX8_13 dX8_chosen_8 e2 (fun v3 e3 => ?_)
  clear e2
  refine Ok.aload_n dX8_chosen_11 rfl ?_
  refine X.rgfI fl_RX8_19 dX8_chosen_12 e3 (fun v4 e4 => ?_)
  clear e3
  refine X.rnn e4 (fun p5 q e5 => ?_)
  clear e4
  subst q
  refine X.iald dX8_chosen_15 e5 (fun v6 e6 => ?_)
  clear e5
  refine XL.istore dX8_chosen_16 (by decide) (L := [some (.ref a0), some (.ref a1), some (.ref a2), some (.int a3), some (.ref p2), some (.int v6), none, none]) rfl ?_
  refine Ok.iload dX8_chosen_18 rfl ?_
  refine X.if_ne (tgt := 25) dX8_chosen_20 (by decide) e6 (fun e7 => ?_) (fun e7 => ?_)
  · clear e6
    refine Ok.aload dX8_chosen_25 rfl ?_
    refine X.rgfR fl_RX8_25 dX8_chosen_27 e7 (fun v7 e8 => ?_)
    clear e7
    refine Ok.aload_n dX8_chosen_30 rfl ?_
    refine X.rgfI fl_RX8_19 dX8_chosen_31 e8 (fun v8 e9 => ?_)
    clear e8
    refine X.rnn e9 (fun p9 q e10 => ?_)
    clear e9
    subst q
    refine X.gald dX8_chosen_34 e10 (fun v10 e11 => ?_)
    clear e10
    refine Ok.iload_n dX8_chosen_35 rfl ?_
    refine Ok.iload dX8_chosen_36 rfl ?_
    refine X.rdzI e11 (fun z e12 => ?_)
    clear e11
    refine Ok.irem dX8_chosen_38 z ?_
    refine X.rnn e12 (fun p11 q e13 => ?_)
    clear e12
    subst q
    refine X.iald dX8_chosen_39 e13 (fun v12 e14 => ?_)
    clear e13
    refine XL.istore dX8_chosen_40 (by decide) (L := [some (.ref a0), some (.ref a1), some (.ref a2), some (.int a3), some (.ref p2), some (.int v6), some (.int v12), none]) rfl ?_
    refine Ok.iload dX8_chosen_42 rfl ?_
    refine X.callS (My := mJ6_bitCount_0f7a4) (n := 1) (As := [.int v12]) (T := (fun v => (some (.int v)))) (stk' := (fun v => [.int v])) (rest := []) (kc' := 0) (ks' := 0) dX8_chosen_44 e14 (fun v h n e => k_J6_bitCount_0f7a4 (d := d + 1) e) wd769 wd97 wd768 wd767 (by decide +kernel) rfl (by decide) rfl rfl (Nat.le_of_ble_eq_true rfl) (Nat.le_of_ble_eq_true rfl) (Nat.le_of_ble_eq_true rfl) rfl rfl (fun _ => rfl) (fun r13 h14 n15 e15 => ?_)
    clear e14
    refine Ok.aload dX8_chosen_47 rfl ?_
    refine X.rgfI fl_RX8_35 dX8_chosen_49 e15 (fun v16 e16 => ?_)
    clear e15
    refine Ok.isub dX8_chosen_52 ?_
    refine X.istore dX8_chosen_53 (by decide) e16 (L := fun v17 => [some (.ref a0), some (.ref a1), some (.ref a2), some (.int a3), some (.ref p2), some (.int v6), some (.int v12), some (.int v17)]) (fun _ => rfl) (fun v17 e17 => ?_)
    clear e16
    exact Ok.weakL (k_X8_chosen_55 (d := d) fuelL e17) ⟨rfl, ⟨rfl, trivial⟩⟩
  · clear e6
    refine Ok.iconstV (v := (nI 0)) dX8_chosen_23 (by decide +kernel) ?_
    exact X.iret dX8_chosen_24 rfl (Nat.le_of_ble_eq_true rfl) (Nat.le_of_ble_eq_true rfl) e7
noncomputable def F_X9_init (G : Gx) (h : Hp) (nx : Nat) (a0 : Nat) (a1 : Nat) : Rz Unit :=
nwG G h nx 11 8 (fun p1 h2 n3 =>
pfV h2 a0 [9] 2 (va_rf (some p1)) (fun h4 =>
pfV h4 a0 [9] 3 (va_rf none) (fun h5 =>
nwI G (g_c G 0) h5 n3 (nI 3) 3 (fun p6 h7 n8 =>
pfV h7 a0 [9] 4 (va_rf (some p6)) (fun h9 =>
pfV h9 a0 [9] 5 (.int (nI 0)) (fun h10 =>
nwI G (g_c G 0) h10 n8 (nI 56) 56 (fun p11 h12 n13 =>
pfV h12 a0 [9] 6 (va_rf (some p11)) (fun h14 =>
pfV h14 a0 [9] 7 (.int (nI 0)) (fun h15 =>
pfV h15 a0 [9] 8 (.int (nI 0)) (fun h16 =>
pfV h16 a0 [9] 9 (.int (nI 0)) (fun h17 =>
nwI G (g_c G 0) h17 n13 (nI 3) 3 (fun p18 h19 n20 =>
pfV h19 a0 [9] 10 (va_rf (some p18)) (fun h21 =>
pfV h21 a0 [9] 0 (va_rf (some a1)) (fun h22 =>
gfR h22 a1 [5] 0 (fun v23 =>
pfV h22 a0 [9] 1 (va_rf v23) (fun h24 =>
some ((), h24, n20)))))))))))))))))
set_option maxRecDepth 100000 in
set_option maxHeartbeats 4000000 in
theorem k_X9_init {G : Gx} {d : Nat} {h : Hp} {nx : Nat} {a0 : Nat} {a1 : Nat} {v' : Unit} {h' : Hp} {n' : Nat} (e : F_X9_init G h nx a0 a1 = some (v', h', n')) : Ct G mX9_init (d + 0) (Same none h' n') [.ref a0, .ref a1] h nx := by
  unfold F_X9_init at e
  refine Ct.of (ls := [some (.ref a0), some (.ref a1)]) (by decide +kernel) rfl (Nat.le_of_ble_eq_true rfl) rfl ?_
  refine Ok.aload_n dX9_init_0 rfl ?_
  refine Ok.objInit dX9_init_1 wd258 wo_1 wo_2 (Nat.le_of_ble_eq_true rfl) ?_
  refine Ok.aload_n dX9_init_4 rfl ?_
  refine Ok.bipushV (v := (nI 11)) dX9_init_5 (by decide +kernel) ?_
  refine Ok.bipushV (v := (nI 8)) dX9_init_7 (by decide +kernel) ?_
  refine X.rnwG dX9_init_9 wd259 wd203 ⟨by decide +kernel, by decide +kernel, by decide⟩ ⟨by decide +kernel, by decide +kernel, by decide⟩ (Nat.le_of_ble_eq_true rfl) (Nat.le_of_ble_eq_true rfl) e (fun p1 h2 n3 e1 => ?_)
  clear e
  refine Ok.mono (kc' := 12) (ks' := 99) ?_ (by decide) (by decide)
  refine X.pfF (v := (va_rf (some p1))) fp_RX9_11 rfl (nar_q (Or.inr ⟨_, rfl⟩) (some p1)) (fits_q (Or.inr ⟨_, rfl⟩) (some p1)) dX9_init_13 e1 (fun h4 e2 => ?_)
  clear e1
  refine Ok.aload_n dX9_init_16 rfl ?_
  refine XL.aconst_null dX9_init_17 ?_
  refine X.rpfV (v := (va_rf none)) fp_RX9_16 (nar_q (Or.inl ⟨_, rfl⟩) none) (fits_q (Or.inl ⟨_, rfl⟩) none) dX9_init_18 e2 (fun h5 e3 => ?_)
  clear e2
  refine Ok.aload_n dX9_init_21 rfl ?_
  refine Ok.iconstV (v := (nI 3)) dX9_init_22 (by decide +kernel) ?_
  refine X.rnwI dX9_init_23 wd203 (by decide +kernel) (Nat.le_of_ble_eq_true rfl) (Nat.le_of_ble_eq_true rfl) e3 (fun p6 h7 n8 e4 => ?_)
  clear e3
  refine Ok.mono (kc' := 13) (ks' := 102) ?_ (by decide) (by decide)
  refine X.pfF (v := (va_rf (some p6))) fp_RX9_20 rfl (nar_q (Or.inr ⟨_, rfl⟩) (some p6)) (fits_q (Or.inr ⟨_, rfl⟩) (some p6)) dX9_init_25 e4 (fun h9 e5 => ?_)
  clear e4
  refine Ok.aload_n dX9_init_28 rfl ?_
  refine Ok.iconstV (v := (nI 0)) dX9_init_29 (by decide +kernel) ?_
  refine X.rpfV (v := (.int (nI 0))) fp_RX9_24 rfl rfl dX9_init_30 e5 (fun h10 e6 => ?_)
  clear e5
  refine Ok.aload_n dX9_init_33 rfl ?_
  refine Ok.bipushV (v := (nI 56)) dX9_init_34 (by decide +kernel) ?_
  refine X.rnwI dX9_init_36 wd203 (by decide +kernel) (Nat.le_of_ble_eq_true rfl) (Nat.le_of_ble_eq_true rfl) e6 (fun p11 h12 n13 e7 => ?_)
  clear e6
  refine Ok.mono (kc' := 14) (ks' := 158) ?_ (by decide) (by decide)
  refine X.pfF (v := (va_rf (some p11))) fp_RX9_28 rfl (nar_q (Or.inr ⟨_, rfl⟩) (some p11)) (fits_q (Or.inr ⟨_, rfl⟩) (some p11)) dX9_init_38 e7 (fun h14 e8 => ?_)
  clear e7
  refine Ok.aload_n dX9_init_41 rfl ?_
  refine Ok.iconstV (v := (nI 0)) dX9_init_42 (by decide +kernel) ?_
  refine X.rpfV (v := (.int (nI 0))) fp_RX9_31 rfl rfl dX9_init_43 e8 (fun h15 e9 => ?_)
  clear e8
  refine Ok.aload_n dX9_init_46 rfl ?_
  refine Ok.iconstV (v := (nI 0)) dX9_init_47 (by decide +kernel) ?_
  refine X.rpfV (v := (.int (nI 0))) fp_RX9_34 rfl rfl dX9_init_48 e9 (fun h16 e10 => ?_)
  clear e9
  refine Ok.aload_n dX9_init_51 rfl ?_
  refine Ok.iconstV (v := (nI 0)) dX9_init_52 (by decide +kernel) ?_
  refine X.rpfV (v := (.int (nI 0))) fp_RX9_37 rfl rfl dX9_init_53 e10 (fun h17 e11 => ?_)
  clear e10
  refine Ok.aload_n dX9_init_56 rfl ?_
  refine Ok.iconstV (v := (nI 3)) dX9_init_57 (by decide +kernel) ?_
  refine X.rnwI dX9_init_58 wd203 (by decide +kernel) (Nat.le_of_ble_eq_true rfl) (Nat.le_of_ble_eq_true rfl) e11 (fun p18 h19 n20 e12 => ?_)
  clear e11
  refine Ok.mono (kc' := 15) (ks' := 161) ?_ (by decide) (by decide)
  refine X.pfF (v := (va_rf (some p18))) fp_RX9_40 rfl (nar_q (Or.inr ⟨_, rfl⟩) (some p18)) (fits_q (Or.inr ⟨_, rfl⟩) (some p18)) dX9_init_60 e12 (fun h21 e13 => ?_)
  clear e12
  refine Ok.aload_n dX9_init_63 rfl ?_
  refine Ok.aload_n dX9_init_64 rfl ?_
  refine X.pfF (v := (va_rf (some a1))) fp_RX9_43 rfl (nar_q (Or.inl ⟨_, rfl⟩) (some a1)) (fits_q (Or.inl ⟨_, rfl⟩) (some a1)) dX9_init_65 e13 (fun h22 e14 => ?_)
  clear e13
  refine Ok.aload_n dX9_init_68 rfl ?_
  refine Ok.aload_n dX9_init_69 rfl ?_
  refine X.rgfR fl_RX9_47 dX9_init_70 e14 (fun v23 e15 => ?_)
  clear e14
  refine X.pfF (v := (va_rf v23)) fp_RX9_53 rfl (nar_q (Or.inl ⟨_, rfl⟩) v23) (fits_q (Or.inl ⟨_, rfl⟩) v23) dX9_init_73 e15 (fun h24 e16 => ?_)
  clear e15
  exact X.vret dX9_init_76 rfl (Nat.le_of_ble_eq_true rfl) (Nat.le_of_ble_eq_true rfl) e16
noncomputable def F_X9_begin (G : Gx) (h : Hp) (nx : Nat) (a0 : Nat) (a1 : Int32) : Rz Unit :=
gfR h a0 [9] 2 (fun v1 =>
nn v1 (fun p2 =>
alR (g_c G 6) h p2 (nI 0) (fun v3 =>
nn v3 (fun p4 =>
cl (F_J7_fill_53178 G h nx p4 (nI 0)) (fun _ h6 n7 =>
pfV h6 a0 [9] 8 (.int (mnI a1 (nI 3))) (fun h8 =>
some ((), h8, n7)))))))
set_option maxRecDepth 100000 in
set_option maxHeartbeats 4000000 in
theorem k_X9_begin {G : Gx} {d : Nat} {h : Hp} {nx : Nat} {a0 : Nat} {a1 : Int32} {v' : Unit} {h' : Hp} {n' : Nat} (e : F_X9_begin G h nx a0 a1 = some (v', h', n')) : Ct G mX9_begin (d + 1) (Same none h' n') [.ref a0, .int a1] h nx := by
  unfold F_X9_begin at e
  refine Ct.of (ls := [some (.ref a0), some (.int a1)]) (by decide +kernel) rfl (Nat.le_of_ble_eq_true rfl) rfl ?_
  refine Ok.aload_n dX9_begin_0 rfl ?_
  refine X.rgfR fl_RX9_11 dX9_begin_1 e (fun v1 e1 => ?_)
  clear e
  refine Ok.iconstV (v := (nI 0)) dX9_begin_4 (by decide +kernel) ?_
  refine X.rnn e1 (fun p2 q e2 => ?_)
  clear e1
  subst q
  refine X.gald dX9_begin_5 e2 (fun v3 e3 => ?_)
  clear e2
  refine Ok.iconstV (v := (nI 0)) dX9_begin_6 (by decide +kernel) ?_
  refine X.rnn e3 (fun p4 q e4 => ?_)
  clear e3
  subst q
  refine X.callS (My := mJ7_fill_53178) (n := 2) (As := [.ref p4, .int (nI 0)]) (T := (fun v => none)) (stk' := (fun _ => [])) (rest := []) (kc' := 0) (ks' := 0) dX9_begin_7 e4 (fun v h n e => k_J7_fill_53178 (d := d + 0) e) wd557 wd82 wd556 wd820 (by decide +kernel) rfl (by decide) rfl rfl (Nat.le_of_ble_eq_true rfl) (Nat.le_of_ble_eq_true rfl) (Nat.le_of_ble_eq_true rfl) rfl rfl (fun _ => rfl) (fun _ h6 n7 e5 => ?_)
  clear e4
  refine Ok.aload_n dX9_begin_10 rfl ?_
  refine Ok.iload_n dX9_begin_11 rfl ?_
  refine Ok.iconstV (v := (nI 3)) dX9_begin_12 (by decide +kernel) ?_
  refine Ok.mminI dX9_begin_13 wd821 wd343 wd83 wd344 (Nat.le_of_ble_eq_true rfl) (Nat.le_of_ble_eq_true rfl) (Nat.le_of_ble_eq_true rfl) ?_
  refine X.rpfV (v := (.int (mnI a1 (nI 3)))) fp_RX9_34 rfl rfl dX9_begin_16 e5 (fun h8 e6 => ?_)
  clear e5
  exact X.vret dX9_begin_19 rfl (Nat.le_of_ble_eq_true rfl) (Nat.le_of_ble_eq_true rfl) e6
