noncomputable def F_J7_fill_d0a16_6 (G : Gx) : Nat → Hp → Nat → Nat → Int64 → Int32 → Int32 → Rz Unit := fun n => Nat.rec (motive := fun _ => Hp → Nat → Nat → Int64 → Int32 → Int32 → Rz Unit) (fun _ _ _ _ _ _ => none) (fun _ k6 => fun h nx l0 l1 l3 l4 =>
if l4 ≤ l3 then
some ((), h, nx)
else
asJ (g_c G 1) h l0 l3 l1 (fun h1 =>
nm (l3 + (nI 1)) (fun v2 =>
(k6 h1 nx l0 l1 v2 l4)))) n
theorem F_J7_fill_d0a16_6_0 {G : Gx} {h : Hp} {nx : Nat} {l0 : Nat} {l1 : Int64} {l3 : Int32} {l4 : Int32} : F_J7_fill_d0a16_6 G 0 h nx l0 l1 l3 l4 = none := rfl
theorem F_J7_fill_d0a16_6_s {G : Gx} {n : Nat} {h : Hp} {nx : Nat} {l0 : Nat} {l1 : Int64} {l3 : Int32} {l4 : Int32} : F_J7_fill_d0a16_6 G (n + 1) h nx l0 l1 l3 l4 = (
if l4 ≤ l3 then
some ((), h, nx)
else
asJ (g_c G 1) h l0 l3 l1 (fun h1 =>
nm (l3 + (nI 1)) (fun v2 =>
((F_J7_fill_d0a16_6 G n) h1 nx l0 l1 v2 l4)))) := rfl
set_option maxRecDepth 100000 in
set_option maxHeartbeats 4000000 in
theorem k_J7_fill_d0a16_6 {G : Gx} {d : Nat} {v' : Unit} {h' : Hp} {n' : Nat} : ∀ (n : Nat) {h : Hp} {nx : Nat} {l0 : Nat} {l1 : Int64} {l3 : Int32} {l4 : Int32}, F_J7_fill_d0a16_6 G n h nx l0 l1 l3 l4 = some (v', h', n') → Ok G mJ7_fill_d0a16 (d + 0) (Same none h' n') 6 [some (.ref l0), some (.long l1), none, some (.int l3), some (.int l4)] [] h nx 0 0 := by
  intro n
  induction n with
  | zero =>
    intro h nx l0 l1 l3 l4 e
    rw [F_J7_fill_d0a16_6_0] at e
    cases e
  | succ n K6 =>
    intro h nx l0 l1 l3 l4 e
    rw [F_J7_fill_d0a16_6_s] at e
    refine Ok.iload_n dJ7_fill_d0a16_6 rfl ?_
    refine Ok.iload dJ7_fill_d0a16_7 rfl ?_
    refine X.icmp_ge (tgt := 22) dJ7_fill_d0a16_9 (by decide) e (fun e1 => ?_) (fun e1 => ?_)
    · clear e
      exact X.vret dJ7_fill_d0a16_22 rfl (Nat.le_of_ble_eq_true rfl) (Nat.le_of_ble_eq_true rfl) e1
    · clear e
      refine Ok.aload_n dJ7_fill_d0a16_12 rfl ?_
      refine Ok.iload_n dJ7_fill_d0a16_13 rfl ?_
      refine Ok.lload_n dJ7_fill_d0a16_14 rfl ?_
      refine X.last dJ7_fill_d0a16_15 e1 (fun h1 e2 => ?_)
      clear e1
      refine X.iinc dJ7_fill_d0a16_16 rfl (by decide) (by decide +kernel) e2 (L := fun v2 => [some (.ref l0), some (.long l1), none, some (.int v2), some (.int l4)]) (fun _ => rfl) (fun v2 e3 => ?_)
      clear e2
      refine Ok.goto (tgt := 6) dJ7_fill_d0a16_19 (by decide) ?_
      exact Ok.weakL (K6 e3) ⟨rfl, ⟨rfl, ⟨rfl, ⟨rfl, trivial⟩⟩⟩⟩
noncomputable def F_J7_fill_d0a16 (G : Gx) (h : Hp) (nx : Nat) (a0 : Nat) (a1 : Int64) : Rz Unit :=
lnJ (g_c G 1) h a0 (fun v1 =>
(F_J7_fill_d0a16_6 G fuelL h nx a0 a1 (nI 0) v1))
set_option maxRecDepth 100000 in
set_option maxHeartbeats 4000000 in
theorem k_J7_fill_d0a16 {G : Gx} {d : Nat} {h : Hp} {nx : Nat} {a0 : Nat} {a1 : Int64} {v' : Unit} {h' : Hp} {n' : Nat} (e : F_J7_fill_d0a16 G h nx a0 a1 = some (v', h', n')) : Ct G mJ7_fill_d0a16 (d + 0) (Same none h' n') [.ref a0, .long a1] h nx := by
  unfold F_J7_fill_d0a16 at e
  refine Ct.of (ls := [some (.ref a0), some (.long a1), none, none, none]) (by decide +kernel) rfl (Nat.le_of_ble_eq_true rfl) rfl ?_
  refine Ok.iconstV (v := (nI 0)) dJ7_fill_d0a16_0 (by decide +kernel) ?_
  refine XL.istore_n dJ7_fill_d0a16_1 (by decide) (L := [some (.ref a0), some (.long a1), none, some (.int (nI 0)), none]) rfl ?_
  refine Ok.aload_n dJ7_fill_d0a16_2 rfl ?_
  refine X.rlnJ dJ7_fill_d0a16_3 e (fun v1 e1 => ?_)
  clear e
  refine XL.istore dJ7_fill_d0a16_4 (by decide) (L := [some (.ref a0), some (.long a1), none, some (.int (nI 0)), some (.int v1)]) rfl ?_
  exact Ok.weakL (k_J7_fill_d0a16_6 (d := d) fuelL e1) ⟨rfl, ⟨rfl, ⟨rfl, ⟨rfl, trivial⟩⟩⟩⟩
noncomputable def F_J7_fill_53178_5 (G : Gx) : Nat → Hp → Nat → Nat → Int32 → Int32 → Int32 → Rz Unit := fun n => Nat.rec (motive := fun _ => Hp → Nat → Nat → Int32 → Int32 → Int32 → Rz Unit) (fun _ _ _ _ _ _ => none) (fun _ k5 => fun h nx l0 l1 l2 l3 =>
if l3 ≤ l2 then
some ((), h, nx)
else
asI (g_c G 0) id h l0 l2 l1 (fun h1 =>
nm (l2 + (nI 1)) (fun v2 =>
(k5 h1 nx l0 l1 v2 l3)))) n
theorem F_J7_fill_53178_5_0 {G : Gx} {h : Hp} {nx : Nat} {l0 : Nat} {l1 : Int32} {l2 : Int32} {l3 : Int32} : F_J7_fill_53178_5 G 0 h nx l0 l1 l2 l3 = none := rfl
theorem F_J7_fill_53178_5_s {G : Gx} {n : Nat} {h : Hp} {nx : Nat} {l0 : Nat} {l1 : Int32} {l2 : Int32} {l3 : Int32} : F_J7_fill_53178_5 G (n + 1) h nx l0 l1 l2 l3 = (
if l3 ≤ l2 then
some ((), h, nx)
else
asI (g_c G 0) id h l0 l2 l1 (fun h1 =>
nm (l2 + (nI 1)) (fun v2 =>
((F_J7_fill_53178_5 G n) h1 nx l0 l1 v2 l3)))) := rfl
set_option maxRecDepth 100000 in
set_option maxHeartbeats 4000000 in
theorem k_J7_fill_53178_5 {G : Gx} {d : Nat} {v' : Unit} {h' : Hp} {n' : Nat} : ∀ (n : Nat) {h : Hp} {nx : Nat} {l0 : Nat} {l1 : Int32} {l2 : Int32} {l3 : Int32}, F_J7_fill_53178_5 G n h nx l0 l1 l2 l3 = some (v', h', n') → Ok G mJ7_fill_53178 (d + 0) (Same none h' n') 5 [some (.ref l0), some (.int l1), some (.int l2), some (.int l3)] [] h nx 0 0 := by
  intro n
  induction n with
  | zero =>
    intro h nx l0 l1 l2 l3 e
    rw [F_J7_fill_53178_5_0] at e
    cases e
  | succ n K5 =>
    intro h nx l0 l1 l2 l3 e
    rw [F_J7_fill_53178_5_s] at e
    refine Ok.iload_n dJ7_fill_53178_5 rfl ?_
    refine Ok.iload_n dJ7_fill_53178_6 rfl ?_
    refine X.icmp_ge (tgt := 20) dJ7_fill_53178_7 (by decide) e (fun e1 => ?_) (fun e1 => ?_)
    · clear e
      exact X.vret dJ7_fill_53178_20 rfl (Nat.le_of_ble_eq_true rfl) (Nat.le_of_ble_eq_true rfl) e1
    · clear e
      refine Ok.aload_n dJ7_fill_53178_10 rfl ?_
      refine Ok.iload_n dJ7_fill_53178_11 rfl ?_
      refine Ok.iload_n dJ7_fill_53178_12 rfl ?_
      refine X.iast dJ7_fill_53178_13 e1 (fun h1 e2 => ?_)
      clear e1
      refine X.iinc dJ7_fill_53178_14 rfl (by decide) (by decide +kernel) e2 (L := fun v2 => [some (.ref l0), some (.int l1), some (.int v2), some (.int l3)]) (fun _ => rfl) (fun v2 e3 => ?_)
      clear e2
      refine Ok.goto (tgt := 5) dJ7_fill_53178_17 (by decide) ?_
      exact Ok.weakL (K5 e3) ⟨rfl, ⟨rfl, ⟨rfl, ⟨rfl, trivial⟩⟩⟩⟩
noncomputable def F_J7_fill_53178 (G : Gx) (h : Hp) (nx : Nat) (a0 : Nat) (a1 : Int32) : Rz Unit :=
lnI (g_c G 0) h a0 (fun v1 =>
(F_J7_fill_53178_5 G fuelL h nx a0 a1 (nI 0) v1))
set_option maxRecDepth 100000 in
set_option maxHeartbeats 4000000 in
theorem k_J7_fill_53178 {G : Gx} {d : Nat} {h : Hp} {nx : Nat} {a0 : Nat} {a1 : Int32} {v' : Unit} {h' : Hp} {n' : Nat} (e : F_J7_fill_53178 G h nx a0 a1 = some (v', h', n')) : Ct G mJ7_fill_53178 (d + 0) (Same none h' n') [.ref a0, .int a1] h nx := by
  unfold F_J7_fill_53178 at e
  refine Ct.of (ls := [some (.ref a0), some (.int a1), none, none]) (by decide +kernel) rfl (Nat.le_of_ble_eq_true rfl) rfl ?_
  refine Ok.iconstV (v := (nI 0)) dJ7_fill_53178_0 (by decide +kernel) ?_
  refine XL.istore_n dJ7_fill_53178_1 (by decide) (L := [some (.ref a0), some (.int a1), some (.int (nI 0)), none]) rfl ?_
  refine Ok.aload_n dJ7_fill_53178_2 rfl ?_
  refine X.rlnI dJ7_fill_53178_3 e (fun v1 e1 => ?_)
  clear e
  refine XL.istore_n dJ7_fill_53178_4 (by decide) (L := [some (.ref a0), some (.int a1), some (.int (nI 0)), some (.int v1)]) rfl ?_
  exact Ok.weakL (k_J7_fill_53178_5 (d := d) fuelL e1) ⟨rfl, ⟨rfl, ⟨rfl, ⟨rfl, trivial⟩⟩⟩⟩
noncomputable def F_J7_copyOf_9075b (G : Gx) (h : Hp) (nx : Nat) (a0 : Nat) (a1 : Int32) : Rz (Option Nat) :=
lnI (g_c G 2) h a0 (fun v1 =>
if a1 = v1 then
clB G h nx a0 120 (fun p7 h8 n9 =>
some ((some p7), h8, n9))
else
nwI G (g_c G 2) h nx a1 120 (fun p2 h3 n4 =>
lnI (g_c G 2) h3 a0 (fun v5 =>
acI (g_c G 2) .byte h3 a0 (nI 0) p2 (nI 0) (mnI v5 a1) (fun h6 =>
some ((some p2), h6, n4)))))
set_option maxRecDepth 100000 in
set_option maxHeartbeats 4000000 in
theorem k_J7_copyOf_9075b {G : Gx} {d : Nat} {h : Hp} {nx : Nat} {a0 : Nat} {a1 : Int32} {v' : Option Nat} {h' : Hp} {n' : Nat} (e : F_J7_copyOf_9075b G h nx a0 a1 = some (v', h', n')) : Ct G mJ7_copyOf_9075b (d + 0) (Same (some (va_rf v')) h' n') [.ref a0, .int a1] h nx := by
  unfold F_J7_copyOf_9075b at e
  refine Ct.of (ls := [some (.ref a0), some (.int a1), none]) (by decide +kernel) rfl (Nat.le_of_ble_eq_true rfl) rfl ?_
  refine Ok.iload_n dJ7_copyOf_9075b_0 rfl ?_
  refine Ok.aload_n dJ7_copyOf_9075b_1 rfl ?_
  refine X.lnB dJ7_copyOf_9075b_2 e (fun v1 e1 => ?_)
  clear e
  refine X.icmp_ne (tgt := 14) dJ7_copyOf_9075b_3 (by decide) e1 (fun e2 => ?_) (fun e2 => ?_)
  · clear e1
    refine Ok.iload_n dJ7_copyOf_9075b_14 rfl ?_
    refine X.nwB dJ7_copyOf_9075b_15 wd202 (by decide +kernel) (Nat.le_of_ble_eq_true rfl) (Nat.le_of_ble_eq_true rfl) e2 (fun p2 h3 n4 e3 => ?_)
    clear e2
    refine Ok.mono (kc' := 1) (ks' := 120) ?_ (by decide) (by decide)
    refine XL.astore_n dJ7_copyOf_9075b_17 (by decide) (L := [some (.ref a0), some (.int a1), some (.ref p2)]) rfl ?_
    refine Ok.aload_n dJ7_copyOf_9075b_18 rfl ?_
    refine Ok.iconstV (v := (nI 0)) dJ7_copyOf_9075b_19 (by decide +kernel) ?_
    refine Ok.aload_n dJ7_copyOf_9075b_20 rfl ?_
    refine Ok.iconstV (v := (nI 0)) dJ7_copyOf_9075b_21 (by decide +kernel) ?_
    refine Ok.aload_n dJ7_copyOf_9075b_22 rfl ?_
    refine X.lnB dJ7_copyOf_9075b_23 e3 (fun v5 e4 => ?_)
    clear e3
    refine Ok.iload_n dJ7_copyOf_9075b_24 rfl ?_
    refine Ok.mminI dJ7_copyOf_9075b_25 wd342 wd343 wd83 wd344 (Nat.le_of_ble_eq_true rfl) (Nat.le_of_ble_eq_true rfl) (Nat.le_of_ble_eq_true rfl) ?_
    refine X.acB dJ7_copyOf_9075b_28 wd345 wa_st wa_na wd84 (Nat.le_of_ble_eq_true rfl) e4 (fun h6 e5 => ?_)
    clear e4
    refine Ok.aload_n dJ7_copyOf_9075b_31 rfl ?_
    exact X.aret (v := (some p2)) dJ7_copyOf_9075b_32 rfl (Or.inr ⟨_, rfl⟩) (Nat.le_of_ble_eq_true rfl) (Nat.le_of_ble_eq_true rfl) e5
  · clear e1
    refine Ok.aload_n dJ7_copyOf_9075b_6 rfl ?_
    refine X.rclB (lim := 120) dJ7_copyOf_9075b_7 wc_1 wc_2 wc_3 wc_4 wc_5 dJ7_copyOf_9075b_10 wd341 (Nat.le_of_ble_eq_true rfl) (Nat.le_of_ble_eq_true rfl) (Nat.le_of_ble_eq_true rfl) e2 (fun p7 h8 n9 e3 => ?_)
    clear e2
    refine Ok.mono (kc' := 1) (ks' := 120) ?_ (by decide) (by decide)
    exact X.aret (v := (some p7)) dJ7_copyOf_9075b_13 rfl (Or.inr ⟨_, rfl⟩) (Nat.le_of_ble_eq_true rfl) (Nat.le_of_ble_eq_true rfl) e3
noncomputable def F_J6_bitCount_0f7a4 (G : Gx) (h : Hp) (nx : Nat) (a0 : Int32) : Rz Int32 :=
nm ((a0 - ((((a0.toUInt32 >>> ((nI 1).toUInt32 &&& Int32.toUInt32 31)).toInt32) &&& (nI 1431655765))))) (fun v1 =>
nm ((((v1 &&& (nI 858993459))) + ((((v1.toUInt32 >>> ((nI 2).toUInt32 &&& Int32.toUInt32 31)).toInt32) &&& (nI 858993459))))) (fun v2 =>
nm ((((v2 + ((v2.toUInt32 >>> ((nI 4).toUInt32 &&& Int32.toUInt32 31)).toInt32))) &&& (nI 252645135))) (fun v3 =>
nm ((v3 + ((v3.toUInt32 >>> ((nI 8).toUInt32 &&& Int32.toUInt32 31)).toInt32))) (fun v4 =>
nm ((v4 + ((v4.toUInt32 >>> ((nI 16).toUInt32 &&& Int32.toUInt32 31)).toInt32))) (fun v5 =>
some (((v5 &&& (nI 63))), h, nx))))))
set_option maxRecDepth 100000 in
set_option maxHeartbeats 4000000 in
theorem k_J6_bitCount_0f7a4 {G : Gx} {d : Nat} {h : Hp} {nx : Nat} {a0 : Int32} {v' : Int32} {h' : Hp} {n' : Nat} (e : F_J6_bitCount_0f7a4 G h nx a0 = some (v', h', n')) : Ct G mJ6_bitCount_0f7a4 (d + 0) (Same (some (.int v')) h' n') [.int a0] h nx := by
  unfold F_J6_bitCount_0f7a4 at e
  refine Ct.of (ls := [some (.int a0)]) (by decide +kernel) rfl (Nat.le_of_ble_eq_true rfl) rfl ?_
  refine Ok.iload_n dJ6_bitCount_0f7a4_0 rfl ?_
  refine Ok.iload_n dJ6_bitCount_0f7a4_1 rfl ?_
  refine Ok.iconstV (v := (nI 1)) dJ6_bitCount_0f7a4_2 (by decide +kernel) ?_
  refine Ok.iushr dJ6_bitCount_0f7a4_3 ?_
  refine Ok.ldc_w (v := (nI 1431655765)) dJ6_bitCount_0f7a4_4 wd770 ?_
  refine Ok.iand dJ6_bitCount_0f7a4_7 ?_
  refine Ok.isub dJ6_bitCount_0f7a4_8 ?_
  refine X.istore_n dJ6_bitCount_0f7a4_9 (by decide) e (L := fun v1 => [some (.int v1)]) (fun _ => rfl) (fun v1 e1 => ?_)
  clear e
  refine Ok.iload_n dJ6_bitCount_0f7a4_10 rfl ?_
  refine Ok.ldc_w (v := (nI 858993459)) dJ6_bitCount_0f7a4_11 wd771 ?_
  refine Ok.iand dJ6_bitCount_0f7a4_14 ?_
  refine Ok.iload_n dJ6_bitCount_0f7a4_15 rfl ?_
  refine Ok.iconstV (v := (nI 2)) dJ6_bitCount_0f7a4_16 (by decide +kernel) ?_
  refine Ok.iushr dJ6_bitCount_0f7a4_17 ?_
  refine Ok.ldc_w (v := (nI 858993459)) dJ6_bitCount_0f7a4_18 wd771 ?_
  refine Ok.iand dJ6_bitCount_0f7a4_21 ?_
  refine Ok.iadd dJ6_bitCount_0f7a4_22 ?_
  refine X.istore_n dJ6_bitCount_0f7a4_23 (by decide) e1 (L := fun v2 => [some (.int v2)]) (fun _ => rfl) (fun v2 e2 => ?_)
  clear e1
  refine Ok.iload_n dJ6_bitCount_0f7a4_24 rfl ?_
  refine Ok.iload_n dJ6_bitCount_0f7a4_25 rfl ?_
  refine Ok.iconstV (v := (nI 4)) dJ6_bitCount_0f7a4_26 (by decide +kernel) ?_
  refine Ok.iushr dJ6_bitCount_0f7a4_27 ?_
  refine Ok.iadd dJ6_bitCount_0f7a4_28 ?_
  refine Ok.ldc_w (v := (nI 252645135)) dJ6_bitCount_0f7a4_29 wd772 ?_
  refine Ok.iand dJ6_bitCount_0f7a4_32 ?_
  refine X.istore_n dJ6_bitCount_0f7a4_33 (by decide) e2 (L := fun v3 => [some (.int v3)]) (fun _ => rfl) (fun v3 e3 => ?_)
  clear e2
  refine Ok.iload_n dJ6_bitCount_0f7a4_34 rfl ?_
  refine Ok.iload_n dJ6_bitCount_0f7a4_35 rfl ?_
  refine Ok.bipushV (v := (nI 8)) dJ6_bitCount_0f7a4_36 (by decide +kernel) ?_
  refine Ok.iushr dJ6_bitCount_0f7a4_38 ?_
  refine Ok.iadd dJ6_bitCount_0f7a4_39 ?_
  refine X.istore_n dJ6_bitCount_0f7a4_40 (by decide) e3 (L := fun v4 => [some (.int v4)]) (fun _ => rfl) (fun v4 e4 => ?_)
  clear e3
  refine Ok.iload_n dJ6_bitCount_0f7a4_41 rfl ?_
  refine Ok.iload_n dJ6_bitCount_0f7a4_42 rfl ?_
  refine Ok.bipushV (v := (nI 16)) dJ6_bitCount_0f7a4_43 (by decide +kernel) ?_
  refine Ok.iushr dJ6_bitCount_0f7a4_45 ?_
  refine Ok.iadd dJ6_bitCount_0f7a4_46 ?_
  refine X.istore_n dJ6_bitCount_0f7a4_47 (by decide) e4 (L := fun v5 => [some (.int v5)]) (fun _ => rfl) (fun v5 e5 => ?_)
  clear e4
  refine Ok.iload_n dJ6_bitCount_0f7a4_48 rfl ?_
  refine Ok.bipushV (v := (nI 63)) dJ6_bitCount_0f7a4_49 (by decide +kernel) ?_
  refine Ok.iand dJ6_bitCount_0f7a4_51 ?_
  exact X.iret dJ6_bitCount_0f7a4_52 rfl (Nat.le_of_ble_eq_true rfl) (Nat.le_of_ble_eq_true rfl) e5
noncomputable def F_J6_numberOfLeadingZeros_0f7a4_73 (G : Gx) (h : Hp) (nx : Nat) (l0 : Int32) (l1 : Int32) : Rz Int32 :=
some (((l1 - ((l0.toUInt32 >>> ((nI 1).toUInt32 &&& Int32.toUInt32 31)).toInt32))), h, nx)
set_option maxRecDepth 100000 in
set_option maxHeartbeats 4000000 in
theorem k_J6_numberOfLeadingZeros_0f7a4_73 {G : Gx} {d : Nat} {v' : Int32} {h' : Hp} {n' : Nat} {h : Hp} {nx : Nat} {l0 : Int32} {l1 : Int32} (e : F_J6_numberOfLeadingZeros_0f7a4_73 G h nx l0 l1 = some (v', h', n')) : Ok G mJ6_numberOfLeadingZeros_0f7a4 (d + 0) (Same (some (.int v')) h' n') 73 [some (.int l0), some (.int l1)] [] h nx 0 0 := by
  unfold F_J6_numberOfLeadingZeros_0f7a4_73 at e
  refine Ok.iload_n dJ6_numberOfLeadingZeros_0f7a4_73 rfl ?_
  refine Ok.iload_n dJ6_numberOfLeadingZeros_0f7a4_74 rfl ?_
  refine Ok.iconstV (v := (nI 1)) dJ6_numberOfLeadingZeros_0f7a4_75 (by decide +kernel) ?_
  refine Ok.iushr dJ6_numberOfLeadingZeros_0f7a4_76 ?_
  refine Ok.isub dJ6_numberOfLeadingZeros_0f7a4_77 ?_
  exact X.iret dJ6_numberOfLeadingZeros_0f7a4_78 rfl (Nat.le_of_ble_eq_true rfl) (Nat.le_of_ble_eq_true rfl) e
noncomputable def F_J6_numberOfLeadingZeros_0f7a4_61 (G : Gx) (h : Hp) (nx : Nat) (l0 : Int32) (l1 : Int32) : Rz Int32 :=
if l0 < (nI 4) then
(F_J6_numberOfLeadingZeros_0f7a4_73 G h nx l0 l1)
else
nm (l1 + (-2 : Int32)) (fun v1 =>
nm ((l0.toUInt32 >>> ((nI 2).toUInt32 &&& Int32.toUInt32 31)).toInt32) (fun v2 =>
(F_J6_numberOfLeadingZeros_0f7a4_73 G h nx v2 v1)))
set_option maxRecDepth 100000 in
set_option maxHeartbeats 4000000 in
theorem k_J6_numberOfLeadingZeros_0f7a4_61 {G : Gx} {d : Nat} {v' : Int32} {h' : Hp} {n' : Nat} {h : Hp} {nx : Nat} {l0 : Int32} {l1 : Int32} (e : F_J6_numberOfLeadingZeros_0f7a4_61 G h nx l0 l1 = some (v', h', n')) : Ok G mJ6_numberOfLeadingZeros_0f7a4 (d + 0) (Same (some (.int v')) h' n') 61 [some (.int l0), some (.int l1)] [] h nx 0 0 := by
  unfold F_J6_numberOfLeadingZeros_0f7a4_61 at e
  refine Ok.iload_n dJ6_numberOfLeadingZeros_0f7a4_61 rfl ?_
  refine Ok.iconstV (v := (nI 4)) dJ6_numberOfLeadingZeros_0f7a4_62 (by decide +kernel) ?_
  refine X.icmp_lt (tgt := 73) dJ6_numberOfLeadingZeros_0f7a4_63 (by decide) e (fun e1 => ?_) (fun e1 => ?_)
  · clear e
    exact Ok.weakL (k_J6_numberOfLeadingZeros_0f7a4_73 (d := d) e1) ⟨rfl, ⟨rfl, trivial⟩⟩
  · clear e
    refine X.iinc dJ6_numberOfLeadingZeros_0f7a4_66 rfl (by decide) (by decide +kernel) e1 (L := fun v1 => [some (.int l0), some (.int v1)]) (fun _ => rfl) (fun v1 e2 => ?_)
    clear e1
    refine Ok.iload_n dJ6_numberOfLeadingZeros_0f7a4_69 rfl ?_
    refine Ok.iconstV (v := (nI 2)) dJ6_numberOfLeadingZeros_0f7a4_70 (by decide +kernel) ?_
    refine Ok.iushr dJ6_numberOfLeadingZeros_0f7a4_71 ?_
    refine X.istore_n dJ6_numberOfLeadingZeros_0f7a4_72 (by decide) e2 (L := fun v2 => [some (.int v2), some (.int v1)]) (fun _ => rfl) (fun v2 e3 => ?_)
    clear e2
    exact Ok.weakL (k_J6_numberOfLeadingZeros_0f7a4_73 (d := d) e3) ⟨rfl, ⟨rfl, trivial⟩⟩
noncomputable def F_J6_numberOfLeadingZeros_0f7a4_48 (G : Gx) (h : Hp) (nx : Nat) (l0 : Int32) (l1 : Int32) : Rz Int32 :=
if l0 < (nI 16) then
(F_J6_numberOfLeadingZeros_0f7a4_61 G h nx l0 l1)
else
nm (l1 + (-4 : Int32)) (fun v1 =>
nm ((l0.toUInt32 >>> ((nI 4).toUInt32 &&& Int32.toUInt32 31)).toInt32) (fun v2 =>
(F_J6_numberOfLeadingZeros_0f7a4_61 G h nx v2 v1)))
set_option maxRecDepth 100000 in
set_option maxHeartbeats 4000000 in
theorem k_J6_numberOfLeadingZeros_0f7a4_48 {G : Gx} {d : Nat} {v' : Int32} {h' : Hp} {n' : Nat} {h : Hp} {nx : Nat} {l0 : Int32} {l1 : Int32} (e : F_J6_numberOfLeadingZeros_0f7a4_48 G h nx l0 l1 = some (v', h', n')) : Ok G mJ6_numberOfLeadingZeros_0f7a4 (d + 0) (Same (some (.int v')) h' n') 48 [some (.int l0), some (.int l1)] [] h nx 0 0 := by
  unfold F_J6_numberOfLeadingZeros_0f7a4_48 at e
  refine Ok.iload_n dJ6_numberOfLeadingZeros_0f7a4_48 rfl ?_
  refine Ok.bipushV (v := (nI 16)) dJ6_numberOfLeadingZeros_0f7a4_49 (by decide +kernel) ?_
  refine X.icmp_lt (tgt := 61) dJ6_numberOfLeadingZeros_0f7a4_51 (by decide) e (fun e1 => ?_) (fun e1 => ?_)
  · clear e
    exact Ok.weakL (k_J6_numberOfLeadingZeros_0f7a4_61 (d := d) e1) ⟨rfl, ⟨rfl, trivial⟩⟩
  · clear e
    refine X.iinc dJ6_numberOfLeadingZeros_0f7a4_54 rfl (by decide) (by decide +kernel) e1 (L := fun v1 => [some (.int l0), some (.int v1)]) (fun _ => rfl) (fun v1 e2 => ?_)
    clear e1
    refine Ok.iload_n dJ6_numberOfLeadingZeros_0f7a4_57 rfl ?_
    refine Ok.iconstV (v := (nI 4)) dJ6_numberOfLeadingZeros_0f7a4_58 (by decide +kernel) ?_
    refine Ok.iushr dJ6_numberOfLeadingZeros_0f7a4_59 ?_
    refine X.istore_n dJ6_numberOfLeadingZeros_0f7a4_60 (by decide) e2 (L := fun v2 => [some (.int v2), some (.int v1)]) (fun _ => rfl) (fun v2 e3 => ?_)
    clear e2
    exact Ok.weakL (k_J6_numberOfLeadingZeros_0f7a4_61 (d := d) e3) ⟨rfl, ⟨rfl, trivial⟩⟩
noncomputable def F_J6_numberOfLeadingZeros_0f7a4_33 (G : Gx) (h : Hp) (nx : Nat) (l0 : Int32) (l1 : Int32) : Rz Int32 :=
if l0 < (nI 256) then
(F_J6_numberOfLeadingZeros_0f7a4_48 G h nx l0 l1)
else
nm (l1 + (-8 : Int32)) (fun v1 =>
nm ((l0.toUInt32 >>> ((nI 8).toUInt32 &&& Int32.toUInt32 31)).toInt32) (fun v2 =>
(F_J6_numberOfLeadingZeros_0f7a4_48 G h nx v2 v1)))
set_option maxRecDepth 100000 in
set_option maxHeartbeats 4000000 in
theorem k_J6_numberOfLeadingZeros_0f7a4_33 {G : Gx} {d : Nat} {v' : Int32} {h' : Hp} {n' : Nat} {h : Hp} {nx : Nat} {l0 : Int32} {l1 : Int32} (e : F_J6_numberOfLeadingZeros_0f7a4_33 G h nx l0 l1 = some (v', h', n')) : Ok G mJ6_numberOfLeadingZeros_0f7a4 (d + 0) (Same (some (.int v')) h' n') 33 [some (.int l0), some (.int l1)] [] h nx 0 0 := by
  unfold F_J6_numberOfLeadingZeros_0f7a4_33 at e
  refine Ok.iload_n dJ6_numberOfLeadingZeros_0f7a4_33 rfl ?_
  refine Ok.sipushV (v := (nI 256)) dJ6_numberOfLeadingZeros_0f7a4_34 (by decide +kernel) ?_
  refine X.icmp_lt (tgt := 48) dJ6_numberOfLeadingZeros_0f7a4_37 (by decide) e (fun e1 => ?_) (fun e1 => ?_)
  · clear e
    exact Ok.weakL (k_J6_numberOfLeadingZeros_0f7a4_48 (d := d) e1) ⟨rfl, ⟨rfl, trivial⟩⟩
  · clear e
    refine X.iinc dJ6_numberOfLeadingZeros_0f7a4_40 rfl (by decide) (by decide +kernel) e1 (L := fun v1 => [some (.int l0), some (.int v1)]) (fun _ => rfl) (fun v1 e2 => ?_)
    clear e1
    refine Ok.iload_n dJ6_numberOfLeadingZeros_0f7a4_43 rfl ?_
    refine Ok.bipushV (v := (nI 8)) dJ6_numberOfLeadingZeros_0f7a4_44 (by decide +kernel) ?_
    refine Ok.iushr dJ6_numberOfLeadingZeros_0f7a4_46 ?_
    refine X.istore_n dJ6_numberOfLeadingZeros_0f7a4_47 (by decide) e2 (L := fun v2 => [some (.int v2), some (.int v1)]) (fun _ => rfl) (fun v2 e3 => ?_)
    clear e2
    exact Ok.weakL (k_J6_numberOfLeadingZeros_0f7a4_48 (d := d) e3) ⟨rfl, ⟨rfl, trivial⟩⟩
noncomputable def F_J6_numberOfLeadingZeros_0f7a4_14 (G : Gx) (h : Hp) (nx : Nat) (s0 : Int32) : Rz Int32 :=
some (s0, h, nx)
set_option maxRecDepth 100000 in
set_option maxHeartbeats 4000000 in
theorem k_J6_numberOfLeadingZeros_0f7a4_14 {G : Gx} {d : Nat} {v' : Int32} {h' : Hp} {n' : Nat} {h : Hp} {nx : Nat} {s0 : Int32} (e : F_J6_numberOfLeadingZeros_0f7a4_14 G h nx s0 = some (v', h', n')) : Ok G mJ6_numberOfLeadingZeros_0f7a4 (d + 0) (Same (some (.int v')) h' n') 14 [none, none] [.int s0] h nx 0 0 := by
  unfold F_J6_numberOfLeadingZeros_0f7a4_14 at e
  exact X.iret dJ6_numberOfLeadingZeros_0f7a4_14 rfl (Nat.le_of_ble_eq_true rfl) (Nat.le_of_ble_eq_true rfl) e
noncomputable def F_J6_numberOfLeadingZeros_0f7a4 (G : Gx) (h : Hp) (nx : Nat) (a0 : Int32) : Rz Int32 :=
if 0 < a0 then
if a0 < (nI 65536) then
(F_J6_numberOfLeadingZeros_0f7a4_33 G h nx a0 (nI 31))
else
nm ((nI 31) + (-16 : Int32)) (fun v1 =>
nm ((a0.toUInt32 >>> ((nI 16).toUInt32 &&& Int32.toUInt32 31)).toInt32) (fun v2 =>
(F_J6_numberOfLeadingZeros_0f7a4_33 G h nx v2 v1)))
else
if a0 = 0 then
(F_J6_numberOfLeadingZeros_0f7a4_14 G h nx (nI 32))
else
(F_J6_numberOfLeadingZeros_0f7a4_14 G h nx (nI 0))
set_option maxRecDepth 100000 in
set_option maxHeartbeats 4000000 in
theorem k_J6_numberOfLeadingZeros_0f7a4 {G : Gx} {d : Nat} {h : Hp} {nx : Nat} {a0 : Int32} {v' : Int32} {h' : Hp} {n' : Nat} (e : F_J6_numberOfLeadingZeros_0f7a4 G h nx a0 = some (v', h', n')) : Ct G mJ6_numberOfLeadingZeros_0f7a4 (d + 0) (Same (some (.int v')) h' n') [.int a0] h nx := by
  unfold F_J6_numberOfLeadingZeros_0f7a4 at e
  refine Ct.of (ls := [some (.int a0), none]) (by decide +kernel) rfl (Nat.le_of_ble_eq_true rfl) rfl ?_
  refine Ok.iload_n dJ6_numberOfLeadingZeros_0f7a4_0 rfl ?_
  refine X.if_gt (tgt := 15) dJ6_numberOfLeadingZeros_0f7a4_1 (by decide) e (fun e1 => ?_) (fun e1 => ?_)
  · clear e
    refine Ok.bipushV (v := (nI 31)) dJ6_numberOfLeadingZeros_0f7a4_15 (by decide +kernel) ?_
    refine XL.istore_n dJ6_numberOfLeadingZeros_0f7a4_17 (by decide) (L := [some (.int a0), some (.int (nI 31))]) rfl ?_
    refine Ok.iload_n dJ6_numberOfLeadingZeros_0f7a4_18 rfl ?_
    refine Ok.ldc_w (v := (nI 65536)) dJ6_numberOfLeadingZeros_0f7a4_19 wd780 ?_
    refine X.icmp_lt (tgt := 33) dJ6_numberOfLeadingZeros_0f7a4_22 (by decide) e1 (fun e2 => ?_) (fun e2 => ?_)
    · clear e1
      exact Ok.weakL (k_J6_numberOfLeadingZeros_0f7a4_33 (d := d) e2) ⟨rfl, ⟨rfl, trivial⟩⟩
    · clear e1
      refine X.iinc dJ6_numberOfLeadingZeros_0f7a4_25 rfl (by decide) (by decide +kernel) e2 (L := fun v1 => [some (.int a0), some (.int v1)]) (fun _ => rfl) (fun v1 e3 => ?_)
      clear e2
      refine Ok.iload_n dJ6_numberOfLeadingZeros_0f7a4_28 rfl ?_
      refine Ok.bipushV (v := (nI 16)) dJ6_numberOfLeadingZeros_0f7a4_29 (by decide +kernel) ?_
      refine Ok.iushr dJ6_numberOfLeadingZeros_0f7a4_31 ?_
      refine X.istore_n dJ6_numberOfLeadingZeros_0f7a4_32 (by decide) e3 (L := fun v2 => [some (.int v2), some (.int v1)]) (fun _ => rfl) (fun v2 e4 => ?_)
      clear e3
      exact Ok.weakL (k_J6_numberOfLeadingZeros_0f7a4_33 (d := d) e4) ⟨rfl, ⟨rfl, trivial⟩⟩
  · clear e
    refine Ok.iload_n dJ6_numberOfLeadingZeros_0f7a4_4 rfl ?_
    refine X.if_ne (tgt := 13) dJ6_numberOfLeadingZeros_0f7a4_5 (by decide) e1 (fun e2 => ?_) (fun e2 => ?_)
    · clear e1
      refine Ok.iconstV (v := (nI 0)) dJ6_numberOfLeadingZeros_0f7a4_13 (by decide +kernel) ?_
      exact Ok.weakL (k_J6_numberOfLeadingZeros_0f7a4_14 (d := d) e2) trivial
    · clear e1
      refine Ok.bipushV (v := (nI 32)) dJ6_numberOfLeadingZeros_0f7a4_8 (by decide +kernel) ?_
      refine Ok.goto (tgt := 14) dJ6_numberOfLeadingZeros_0f7a4_10 (by decide) ?_
      exact Ok.weakL (k_J6_numberOfLeadingZeros_0f7a4_14 (d := d) e2) trivial
noncomputable def F_J6_highestOneBit_0f7a4 (G : Gx) (h : Hp) (nx : Nat) (a0 : Int32) : Rz Int32 :=
cl (F_J6_numberOfLeadingZeros_0f7a4 G h nx a0) (fun r1 h2 n3 =>
some (((a0 &&& (((-2147483648 : Int32).toUInt32 >>> (r1.toUInt32 &&& Int32.toUInt32 31)).toInt32))), h2, n3))
set_option maxRecDepth 100000 in
set_option maxHeartbeats 4000000 in
theorem k_J6_highestOneBit_0f7a4 {G : Gx} {d : Nat} {h : Hp} {nx : Nat} {a0 : Int32} {v' : Int32} {h' : Hp} {n' : Nat} (e : F_J6_highestOneBit_0f7a4 G h nx a0 = some (v', h', n')) : Ct G mJ6_highestOneBit_0f7a4 (d + 1) (Same (some (.int v')) h' n') [.int a0] h nx := by
  unfold F_J6_highestOneBit_0f7a4 at e
  refine Ct.of (ls := [some (.int a0)]) (by decide +kernel) rfl (Nat.le_of_ble_eq_true rfl) rfl ?_
  refine Ok.iload_n dJ6_highestOneBit_0f7a4_0 rfl ?_
  refine Ok.ldc (v := (-2147483648 : Int32)) dJ6_highestOneBit_0f7a4_1 wd776 ?_
  refine Ok.iload_n dJ6_highestOneBit_0f7a4_3 rfl ?_
  refine X.callS (My := mJ6_numberOfLeadingZeros_0f7a4) (n := 1) (As := [.int a0]) (T := (fun v => (some (.int v)))) (stk' := (fun v => [.int v, .int (-2147483648 : Int32), .int a0])) (rest := [.int (-2147483648 : Int32), .int a0]) (kc' := 0) (ks' := 0) dJ6_highestOneBit_0f7a4_4 e (fun v h n e => k_J6_numberOfLeadingZeros_0f7a4 (d := d + 0) e) wd779 wd97 wd778 wd777 (by decide +kernel) rfl (by decide) rfl rfl (Nat.le_of_ble_eq_true rfl) (Nat.le_of_ble_eq_true rfl) (Nat.le_of_ble_eq_true rfl) rfl rfl (fun _ => rfl) (fun r1 h2 n3 e1 => ?_)
  clear e
  refine Ok.iushr dJ6_highestOneBit_0f7a4_7 ?_
  refine Ok.iand dJ6_highestOneBit_0f7a4_8 ?_
  exact X.iret dJ6_highestOneBit_0f7a4_9 rfl (Nat.le_of_ble_eq_true rfl) (Nat.le_of_ble_eq_true rfl) e1
noncomputable def F_J6_numberOfTrailingZeros_0f7a4_74 (G : Gx) (h : Hp) (nx : Nat) (l0 : Int32) (l1 : Int32) : Rz Int32 :=
some (((l1 + ((l0.toUInt32 >>> ((nI 1).toUInt32 &&& Int32.toUInt32 31)).toInt32))), h, nx)
set_option maxRecDepth 100000 in
set_option maxHeartbeats 4000000 in
theorem k_J6_numberOfTrailingZeros_0f7a4_74 {G : Gx} {d : Nat} {v' : Int32} {h' : Hp} {n' : Nat} {h : Hp} {nx : Nat} {l0 : Int32} {l1 : Int32} (e : F_J6_numberOfTrailingZeros_0f7a4_74 G h nx l0 l1 = some (v', h', n')) : Ok G mJ6_numberOfTrailingZeros_0f7a4 (d + 0) (Same (some (.int v')) h' n') 74 [some (.int l0), some (.int l1)] [] h nx 0 0 := by
  unfold F_J6_numberOfTrailingZeros_0f7a4_74 at e
  refine Ok.iload_n dJ6_numberOfTrailingZeros_0f7a4_74 rfl ?_
  refine Ok.iload_n dJ6_numberOfTrailingZeros_0f7a4_75 rfl ?_
  refine Ok.iconstV (v := (nI 1)) dJ6_numberOfTrailingZeros_0f7a4_76 (by decide +kernel) ?_
  refine Ok.iushr dJ6_numberOfTrailingZeros_0f7a4_77 ?_
  refine Ok.iadd dJ6_numberOfTrailingZeros_0f7a4_78 ?_
  exact X.iret dJ6_numberOfTrailingZeros_0f7a4_79 rfl (Nat.le_of_ble_eq_true rfl) (Nat.le_of_ble_eq_true rfl) e
noncomputable def F_J6_numberOfTrailingZeros_0f7a4_62 (G : Gx) (h : Hp) (nx : Nat) (l0 : Int32) (l1 : Int32) : Rz Int32 :=
if l0 ≤ (nI 4) then
(F_J6_numberOfTrailingZeros_0f7a4_74 G h nx l0 l1)
else
nm (l1 + (nI 2)) (fun v1 =>
nm ((l0.toUInt32 >>> ((nI 2).toUInt32 &&& Int32.toUInt32 31)).toInt32) (fun v2 =>
(F_J6_numberOfTrailingZeros_0f7a4_74 G h nx v2 v1)))
set_option maxRecDepth 100000 in
set_option maxHeartbeats 4000000 in
theorem k_J6_numberOfTrailingZeros_0f7a4_62 {G : Gx} {d : Nat} {v' : Int32} {h' : Hp} {n' : Nat} {h : Hp} {nx : Nat} {l0 : Int32} {l1 : Int32} (e : F_J6_numberOfTrailingZeros_0f7a4_62 G h nx l0 l1 = some (v', h', n')) : Ok G mJ6_numberOfTrailingZeros_0f7a4 (d + 0) (Same (some (.int v')) h' n') 62 [some (.int l0), some (.int l1)] [] h nx 0 0 := by
  unfold F_J6_numberOfTrailingZeros_0f7a4_62 at e
  refine Ok.iload_n dJ6_numberOfTrailingZeros_0f7a4_62 rfl ?_
  refine Ok.iconstV (v := (nI 4)) dJ6_numberOfTrailingZeros_0f7a4_63 (by decide +kernel) ?_
  refine X.icmp_le (tgt := 74) dJ6_numberOfTrailingZeros_0f7a4_64 (by decide) e (fun e1 => ?_) (fun e1 => ?_)
  · clear e
    exact Ok.weakL (k_J6_numberOfTrailingZeros_0f7a4_74 (d := d) e1) ⟨rfl, ⟨rfl, trivial⟩⟩
  · clear e
    refine X.iinc dJ6_numberOfTrailingZeros_0f7a4_67 rfl (by decide) (by decide +kernel) e1 (L := fun v1 => [some (.int l0), some (.int v1)]) (fun _ => rfl) (fun v1 e2 => ?_)
    clear e1
    refine Ok.iload_n dJ6_numberOfTrailingZeros_0f7a4_70 rfl ?_
    refine Ok.iconstV (v := (nI 2)) dJ6_numberOfTrailingZeros_0f7a4_71 (by decide +kernel) ?_
    refine Ok.iushr dJ6_numberOfTrailingZeros_0f7a4_72 ?_
    refine X.istore_n dJ6_numberOfTrailingZeros_0f7a4_73 (by decide) e2 (L := fun v2 => [some (.int v2), some (.int v1)]) (fun _ => rfl) (fun v2 e3 => ?_)
    clear e2
    exact Ok.weakL (k_J6_numberOfTrailingZeros_0f7a4_74 (d := d) e3) ⟨rfl, ⟨rfl, trivial⟩⟩
noncomputable def F_J6_numberOfTrailingZeros_0f7a4_49 (G : Gx) (h : Hp) (nx : Nat) (l0 : Int32) (l1 : Int32) : Rz Int32 :=
if l0 ≤ (nI 16) then
(F_J6_numberOfTrailingZeros_0f7a4_62 G h nx l0 l1)
else
nm (l1 + (nI 4)) (fun v1 =>
nm ((l0.toUInt32 >>> ((nI 4).toUInt32 &&& Int32.toUInt32 31)).toInt32) (fun v2 =>
(F_J6_numberOfTrailingZeros_0f7a4_62 G h nx v2 v1)))
set_option maxRecDepth 100000 in
set_option maxHeartbeats 4000000 in
theorem k_J6_numberOfTrailingZeros_0f7a4_49 {G : Gx} {d : Nat} {v' : Int32} {h' : Hp} {n' : Nat} {h : Hp} {nx : Nat} {l0 : Int32} {l1 : Int32} (e : F_J6_numberOfTrailingZeros_0f7a4_49 G h nx l0 l1 = some (v', h', n')) : Ok G mJ6_numberOfTrailingZeros_0f7a4 (d + 0) (Same (some (.int v')) h' n') 49 [some (.int l0), some (.int l1)] [] h nx 0 0 := by
  unfold F_J6_numberOfTrailingZeros_0f7a4_49 at e
  refine Ok.iload_n dJ6_numberOfTrailingZeros_0f7a4_49 rfl ?_
  refine Ok.bipushV (v := (nI 16)) dJ6_numberOfTrailingZeros_0f7a4_50 (by decide +kernel) ?_
  refine X.icmp_le (tgt := 62) dJ6_numberOfTrailingZeros_0f7a4_52 (by decide) e (fun e1 => ?_) (fun e1 => ?_)
  · clear e
    exact Ok.weakL (k_J6_numberOfTrailingZeros_0f7a4_62 (d := d) e1) ⟨rfl, ⟨rfl, trivial⟩⟩
  · clear e
    refine X.iinc dJ6_numberOfTrailingZeros_0f7a4_55 rfl (by decide) (by decide +kernel) e1 (L := fun v1 => [some (.int l0), some (.int v1)]) (fun _ => rfl) (fun v1 e2 => ?_)
    clear e1
    refine Ok.iload_n dJ6_numberOfTrailingZeros_0f7a4_58 rfl ?_
    refine Ok.iconstV (v := (nI 4)) dJ6_numberOfTrailingZeros_0f7a4_59 (by decide +kernel) ?_
    refine Ok.iushr dJ6_numberOfTrailingZeros_0f7a4_60 ?_
    refine X.istore_n dJ6_numberOfTrailingZeros_0f7a4_61 (by decide) e2 (L := fun v2 => [some (.int v2), some (.int v1)]) (fun _ => rfl) (fun v2 e3 => ?_)
    clear e2
    exact Ok.weakL (k_J6_numberOfTrailingZeros_0f7a4_62 (d := d) e3) ⟨rfl, ⟨rfl, trivial⟩⟩
noncomputable def F_J6_numberOfTrailingZeros_0f7a4_34 (G : Gx) (h : Hp) (nx : Nat) (l0 : Int32) (l1 : Int32) : Rz Int32 :=
if l0 ≤ (nI 256) then
(F_J6_numberOfTrailingZeros_0f7a4_49 G h nx l0 l1)
else
nm (l1 + (nI 8)) (fun v1 =>
nm ((l0.toUInt32 >>> ((nI 8).toUInt32 &&& Int32.toUInt32 31)).toInt32) (fun v2 =>
(F_J6_numberOfTrailingZeros_0f7a4_49 G h nx v2 v1)))
set_option maxRecDepth 100000 in
set_option maxHeartbeats 4000000 in
theorem k_J6_numberOfTrailingZeros_0f7a4_34 {G : Gx} {d : Nat} {v' : Int32} {h' : Hp} {n' : Nat} {h : Hp} {nx : Nat} {l0 : Int32} {l1 : Int32} (e : F_J6_numberOfTrailingZeros_0f7a4_34 G h nx l0 l1 = some (v', h', n')) : Ok G mJ6_numberOfTrailingZeros_0f7a4 (d + 0) (Same (some (.int v')) h' n') 34 [some (.int l0), some (.int l1)] [] h nx 0 0 := by
  unfold F_J6_numberOfTrailingZeros_0f7a4_34 at e
  refine Ok.iload_n dJ6_numberOfTrailingZeros_0f7a4_34 rfl ?_
  refine Ok.sipushV (v := (nI 256)) dJ6_numberOfTrailingZeros_0f7a4_35 (by decide +kernel) ?_
  refine X.icmp_le (tgt := 49) dJ6_numberOfTrailingZeros_0f7a4_38 (by decide) e (fun e1 => ?_) (fun e1 => ?_)
  · clear e
    exact Ok.weakL (k_J6_numberOfTrailingZeros_0f7a4_49 (d := d) e1) ⟨rfl, ⟨rfl, trivial⟩⟩
  · clear e
    refine X.iinc dJ6_numberOfTrailingZeros_0f7a4_41 rfl (by decide) (by decide +kernel) e1 (L := fun v1 => [some (.int l0), some (.int v1)]) (fun _ => rfl) (fun v1 e2 => ?_)
    clear e1
    refine Ok.iload_n dJ6_numberOfTrailingZeros_0f7a4_44 rfl ?_
    refine Ok.bipushV (v := (nI 8)) dJ6_numberOfTrailingZeros_0f7a4_45 (by decide +kernel) ?_
    refine Ok.iushr dJ6_numberOfTrailingZeros_0f7a4_47 ?_
    refine X.istore_n dJ6_numberOfTrailingZeros_0f7a4_48 (by decide) e2 (L := fun v2 => [some (.int v2), some (.int v1)]) (fun _ => rfl) (fun v2 e3 => ?_)
    clear e2
    exact Ok.weakL (k_J6_numberOfTrailingZeros_0f7a4_49 (d := d) e3) ⟨rfl, ⟨rfl, trivial⟩⟩
noncomputable def F_J6_numberOfTrailingZeros_0f7a4 (G : Gx) (h : Hp) (nx : Nat) (a0 : Int32) : Rz Int32 :=
nm ((((a0 ^^^ (-1 : Int32))) &&& ((a0 - (nI 1))))) (fun v1 =>
if 0 < v1 then
if v1 ≤ (nI 65536) then
(F_J6_numberOfTrailingZeros_0f7a4_34 G h nx v1 (nI 1))
else
nm ((nI 1) + (nI 16)) (fun v2 =>
nm ((v1.toUInt32 >>> ((nI 16).toUInt32 &&& Int32.toUInt32 31)).toInt32) (fun v3 =>
(F_J6_numberOfTrailingZeros_0f7a4_34 G h nx v3 v2)))
else
some (((v1 &&& (nI 32))), h, nx))
set_option maxRecDepth 100000 in
set_option maxHeartbeats 4000000 in
theorem k_J6_numberOfTrailingZeros_0f7a4 {G : Gx} {d : Nat} {h : Hp} {nx : Nat} {a0 : Int32} {v' : Int32} {h' : Hp} {n' : Nat} (e : F_J6_numberOfTrailingZeros_0f7a4 G h nx a0 = some (v', h', n')) : Ct G mJ6_numberOfTrailingZeros_0f7a4 (d + 0) (Same (some (.int v')) h' n') [.int a0] h nx := by
  unfold F_J6_numberOfTrailingZeros_0f7a4 at e
  refine Ct.of (ls := [some (.int a0), none]) (by decide +kernel) rfl (Nat.le_of_ble_eq_true rfl) rfl ?_
  refine Ok.iload_n dJ6_numberOfTrailingZeros_0f7a4_0 rfl ?_
  refine Ok.iconstV (v := (-1 : Int32)) dJ6_numberOfTrailingZeros_0f7a4_1 (by decide +kernel) ?_
  refine Ok.ixor dJ6_numberOfTrailingZeros_0f7a4_2 ?_
  refine Ok.iload_n dJ6_numberOfTrailingZeros_0f7a4_3 rfl ?_
  refine Ok.iconstV (v := (nI 1)) dJ6_numberOfTrailingZeros_0f7a4_4 (by decide +kernel) ?_
  refine Ok.isub dJ6_numberOfTrailingZeros_0f7a4_5 ?_
  refine Ok.iand dJ6_numberOfTrailingZeros_0f7a4_6 ?_
  refine X.istore_n dJ6_numberOfTrailingZeros_0f7a4_7 (by decide) e (L := fun v1 => [some (.int v1), none]) (fun _ => rfl) (fun v1 e1 => ?_)
  clear e
  refine Ok.iload_n dJ6_numberOfTrailingZeros_0f7a4_8 rfl ?_
  refine X.if_gt (tgt := 17) dJ6_numberOfTrailingZeros_0f7a4_9 (by decide) e1 (fun e2 => ?_) (fun e2 => ?_)
  · clear e1
    refine Ok.iconstV (v := (nI 1)) dJ6_numberOfTrailingZeros_0f7a4_17 (by decide +kernel) ?_
    refine XL.istore_n dJ6_numberOfTrailingZeros_0f7a4_18 (by decide) (L := [some (.int v1), some (.int (nI 1))]) rfl ?_
    refine Ok.iload_n dJ6_numberOfTrailingZeros_0f7a4_19 rfl ?_
    refine Ok.ldc_w (v := (nI 65536)) dJ6_numberOfTrailingZeros_0f7a4_20 wd780 ?_
    refine X.icmp_le (tgt := 34) dJ6_numberOfTrailingZeros_0f7a4_23 (by decide) e2 (fun e3 => ?_) (fun e3 => ?_)
    · clear e2
      exact Ok.weakL (k_J6_numberOfTrailingZeros_0f7a4_34 (d := d) e3) ⟨rfl, ⟨rfl, trivial⟩⟩
    · clear e2
      refine X.iinc dJ6_numberOfTrailingZeros_0f7a4_26 rfl (by decide) (by decide +kernel) e3 (L := fun v2 => [some (.int v1), some (.int v2)]) (fun _ => rfl) (fun v2 e4 => ?_)
      clear e3
      refine Ok.iload_n dJ6_numberOfTrailingZeros_0f7a4_29 rfl ?_
      refine Ok.bipushV (v := (nI 16)) dJ6_numberOfTrailingZeros_0f7a4_30 (by decide +kernel) ?_
      refine Ok.iushr dJ6_numberOfTrailingZeros_0f7a4_32 ?_
      refine X.istore_n dJ6_numberOfTrailingZeros_0f7a4_33 (by decide) e4 (L := fun v3 => [some (.int v3), some (.int v2)]) (fun _ => rfl) (fun v3 e5 => ?_)
      clear e4
      exact Ok.weakL (k_J6_numberOfTrailingZeros_0f7a4_34 (d := d) e5) ⟨rfl, ⟨rfl, trivial⟩⟩
  · clear e1
    refine Ok.iload_n dJ6_numberOfTrailingZeros_0f7a4_12 rfl ?_
    refine Ok.bipushV (v := (nI 32)) dJ6_numberOfTrailingZeros_0f7a4_13 (by decide +kernel) ?_
    refine Ok.iand dJ6_numberOfTrailingZeros_0f7a4_15 ?_
    exact X.iret dJ6_numberOfTrailingZeros_0f7a4_16 rfl (Nat.le_of_ble_eq_true rfl) (Nat.le_of_ble_eq_true rfl) e2
