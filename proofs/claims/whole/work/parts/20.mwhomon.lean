/-! THE REFERENCE: whom on a day; what all bring on a day -/
def whF (st : MS) (p dd nt lk : Nat) : Int32 :=
  if nt = 0 then nI 0
  else if sN (ma st 1) (1070 + p) = 2 then tuF (nI nt) (nI ((dd * lk + sN (ma st 1) (1082 + p)) % nt)) lk
  else if sN (ma st 1) (1070 + p) = 4 then tuF (nI nt) (nI ((31 * dd + 17 * sN (ma st 1) (1082 + p)) % 97 % nt)) lk
  else if sN (ma st 1) (1070 + p) = 6 then tdF (ma st 1) p dd nt lk
  else grF (woF st p) nt lk
/-- a plan, with its row -/
def PrOk (s : Nat → Int32) (p : Nat) : Prop := PlOk s p ∧ s (1094 + p) = nI (sN s (1094 + p)) ∧ sN s (1094 + p) ≤ 10
set_option maxRecDepth 100000 in
set_option maxHeartbeats 4000000 in
theorem ct_whomOn (G : Gx) (d b p dd nt lk N : Nat) (st : MS) (h0 : Hp) (nx : Nat) (hL : LkOk (ma st 1) nt lk) (hp : PrOk (ma st 1) p) (ht : ∀ t, t < nt → ThOk (ma st 1) t) (hN : StOk st N) (hb : N + 1608 < 2 ^ 31) (hd : dd < 2 ^ 16) : Ct G mX12_whomOn (d + 11) (fun v h' nx' => v = some (.int (whF st p dd nt lk)) ∧ (∃ (st' : MS) (N' : Nat), h' = encM G b st' h0 ∧ FrM KX st st' ∧ StOk st' N' ∧ N' ≤ N + 1608) ∧ nx' = nx) [.ref b, .int (nI p), .int (nI dd)] (encM G b st h0) nx := by
  have hL0 := hL
  have hp0 := hp
  obtain ⟨h1, h2, h3, h4⟩ := hL
  obtain ⟨⟨hp1, hk, hk6, hv, hv9⟩, hr, hr10⟩ := hp
  have nle : N ≤ N + 1608 := by omega
  have dl : dd * lk ≤ dd * 8 := Nat.mul_le_mul_left dd (by omega)
  refine Ct.of (ls := [some (.ref b), some (.int (nI p)), some (.int (nI dd))]) (by decide +kernel) rfl (Nat.le_of_ble_eq_true rfl) rfl ?_
  refine Ok.aload_n dX12_whomOn_0 rfl ?_
  refine Ok.mget_s rfl dX12_whomOn_1 ?_
  refine Ok.iconstV (v := nI 1) dX12_whomOn_4 (by decide +kernel) ?_
  refine Ok.mald_sN dX12_whomOn_5 (by omega) h1 ?_
  refine Ok.if_ne (tgt := 11) dX12_whomOn_6 (by decide) (fun c6 => ?_) (fun c6 => ?_)
  · have n0 : ¬ nt = 0 := fun q => c6 (by rw [q]; rfl)
    refine Ok.aload_n dX12_whomOn_11 rfl ?_
    refine Ok.mget_s rfl dX12_whomOn_12 ?_
    refine Ok.sipushV (v := nI 1070) dX12_whomOn_15 (by decide +kernel) ?_
    refine Ok.iload_n dX12_whomOn_18 rfl ?_
    refine Ok.iaddN dX12_whomOn_19 ?_
    refine Ok.mald_sN dX12_whomOn_20 (by omega) hk ?_
    generalize hkk : sN (ma st 1) (1070 + p) = kk at hk6 ⊢
    have D0 : ∀ tgt : Nat, tgt = 125 → kk ≠ 2 → kk ≠ 4 → kk ≠ 6 → Ok G mX12_whomOn (d + 11) (fun v h' nx' => v = some (.int (whF st p dd nt lk)) ∧ (∃ (st' : MS) (N' : Nat), h' = encM G b st' h0 ∧ FrM KX st st' ∧ StOk st' N' ∧ N' ≤ N + 1608) ∧ nx' = nx) tgt [some (.ref b), some (.int (nI p)), some (.int (nI dd))] [] (encM G b st h0) nx 0 0 := by
      intro tgt htg q2 q4 q6
      subst htg
      refine Ok.aload_n dX12_whomOn_125 rfl ?_
      refine Ok.iload_n dX12_whomOn_126 rfl ?_
      refine Ok.callV (My := mX12_greatest) (n := 1) (ci := 12) dX12_whomOn_127 (ct_greatest G d b p nt lk N st h0 nx hL0 hp0.1 ht hN hb) encM_0 rfl wd1391 wd80 wd1390 wd55 wd1388 (by decide) (by decide +kernel) (by decide) rfl rfl (Nat.le_of_ble_eq_true rfl) (Nat.le_of_ble_eq_true rfl) (Nat.le_of_ble_eq_true rfl) (fun v h' nx' q => ?_)
      obtain ⟨rfl, ⟨st1, N1, rfl, hF, hN1, hl⟩, hnx⟩ := q
      subst nx'
      exact Ok.iret dX12_whomOn_130 rfl (Nat.zero_le _) (Nat.zero_le _) ⟨by unfold whF; rw [hkk, if_neg n0, if_neg q2, if_neg q4, if_neg q6], ⟨st1, N1, rfl, hF, hN1, hl⟩, rfl⟩
    match kk, hk6, hkk, D0 with
    | 0, _, hkk, D0 => exact Ok.tableOut dX12_whomOn_21 (Or.inl (by decide)) (tgt := 125) (by decide) (D0 125 rfl (by decide) (by decide) (by decide))
    | 1, _, hkk, D0 => exact Ok.tableOut dX12_whomOn_21 (Or.inl (by decide)) (tgt := 125) (by decide) (D0 125 rfl (by decide) (by decide) (by decide))
    | 2, _, hkk, D0 =>
      refine Ok.tableIn (off := 35) (tgt := 56) dX12_whomOn_21 (by decide) (by decide) (by decide +kernel) (by decide) ?_
      refine Ok.aload_n dX12_whomOn_56 rfl ?_
      refine Ok.iload_n dX12_whomOn_57 rfl ?_
      refine Ok.aload_n dX12_whomOn_58 rfl ?_
      refine Ok.callV (My := mX12_looking) (n := 0) (ci := 12) dX12_whomOn_59 (ct_looking G (d + 10) b st h0 nx) encM_0 rfl wd1376 wd80 wd1375 wd52 wd1373 (by decide) (by decide +kernel) (by decide) rfl rfl (Nat.le_of_ble_eq_true rfl) (Nat.le_of_ble_eq_true rfl) (Nat.le_of_ble_eq_true rfl) (fun v h' nx' q => ?_)
      obtain ⟨rfl, rfl, hnx⟩ := q
      subst nx'
      rw [h3]
      refine Ok.imulN dX12_whomOn_62 ?_
      refine Ok.aload_n dX12_whomOn_63 rfl ?_
      refine Ok.mget_s rfl dX12_whomOn_64 ?_
      refine Ok.sipushV (v := nI 1082) dX12_whomOn_67 (by decide +kernel) ?_
      refine Ok.iload_n dX12_whomOn_70 rfl ?_
      refine Ok.iaddN dX12_whomOn_71 ?_
      refine Ok.mald_sN dX12_whomOn_72 (by omega) hv ?_
      refine Ok.iaddN dX12_whomOn_73 ?_
      refine Ok.aload_n dX12_whomOn_74 rfl ?_
      refine Ok.mget_s rfl dX12_whomOn_75 ?_
      refine Ok.iconstV (v := nI 1) dX12_whomOn_78 (by decide +kernel) ?_
      refine Ok.mald_sN dX12_whomOn_79 (by omega) h1 ?_
      refine Ok.iremN (by omega) (by omega) (by omega) dX12_whomOn_80 ?_
      refine Ok.callV (My := mX12_turned) (n := 1) (ci := 12) dX12_whomOn_81 (ct_turned G (d + 9) b nt lk (nI ((dd * lk + sN (ma st 1) (1082 + p)) % nt)) st h0 nx hL0) encM_0 rfl wd1380 wd80 wd1379 wd53 wd1377 (by decide) (by decide +kernel) (by decide) rfl rfl (Nat.le_of_ble_eq_true rfl) (Nat.le_of_ble_eq_true rfl) (Nat.le_of_ble_eq_true rfl) (fun v h' nx' q => ?_)
      obtain ⟨rfl, rfl, hnx⟩ := q
      subst nx'
      exact Ok.iret dX12_whomOn_84 rfl (Nat.zero_le _) (Nat.zero_le _) ⟨by unfold whF; rw [hkk, if_neg n0, if_pos rfl], ⟨st, N, rfl, FrM.rf, hN, nle⟩, rfl⟩
    | 3, _, hkk, D0 => exact Ok.tableIn (off := 104) (tgt := 125) dX12_whomOn_21 (by decide) (by decide) (by decide +kernel) (by decide) (D0 125 rfl (by decide) (by decide) (by decide))
    | 4, _, hkk, D0 =>
      refine Ok.tableIn (off := 64) (tgt := 85) dX12_whomOn_21 (by decide) (by decide) (by decide +kernel) (by decide) ?_
      refine Ok.aload_n dX12_whomOn_85 rfl ?_
      refine Ok.bipushV (v := nI 31) dX12_whomOn_86 (by decide +kernel) ?_
      refine Ok.iload_n dX12_whomOn_88 rfl ?_
      refine Ok.imulN dX12_whomOn_89 ?_
      refine Ok.bipushV (v := nI 17) dX12_whomOn_90 (by decide +kernel) ?_
      refine Ok.aload_n dX12_whomOn_92 rfl ?_
      refine Ok.mget_s rfl dX12_whomOn_93 ?_
      refine Ok.sipushV (v := nI 1082) dX12_whomOn_96 (by decide +kernel) ?_
      refine Ok.iload_n dX12_whomOn_99 rfl ?_
      refine Ok.iaddN dX12_whomOn_100 ?_
      refine Ok.mald_sN dX12_whomOn_101 (by omega) hv ?_
      refine Ok.imulN dX12_whomOn_102 ?_
      refine Ok.iaddN dX12_whomOn_103 ?_
      refine Ok.bipushV (v := nI 97) dX12_whomOn_104 (by decide +kernel) ?_
      refine Ok.iremN (by omega) (by omega) (by omega) dX12_whomOn_106 ?_
      refine Ok.aload_n dX12_whomOn_107 rfl ?_
      refine Ok.mget_s rfl dX12_whomOn_108 ?_
      refine Ok.iconstV (v := nI 1) dX12_whomOn_111 (by decide +kernel) ?_
      refine Ok.mald_sN dX12_whomOn_112 (by omega) h1 ?_
      refine Ok.iremN (by omega) (by omega) (by omega) dX12_whomOn_113 ?_
      refine Ok.callV (My := mX12_turned) (n := 1) (ci := 12) dX12_whomOn_114 (ct_turned G (d + 9) b nt lk (nI ((31 * dd + 17 * sN (ma st 1) (1082 + p)) % 97 % nt)) st h0 nx hL0) encM_0 rfl wd1380 wd80 wd1379 wd53 wd1377 (by decide) (by decide +kernel) (by decide) rfl rfl (Nat.le_of_ble_eq_true rfl) (Nat.le_of_ble_eq_true rfl) (Nat.le_of_ble_eq_true rfl) (fun v h' nx' q => ?_)
      obtain ⟨rfl, rfl, hnx⟩ := q
      subst nx'
      exact Ok.iret dX12_whomOn_117 rfl (Nat.zero_le _) (Nat.zero_le _) ⟨by unfold whF; rw [hkk, if_neg n0, if_neg (by decide), if_pos rfl], ⟨st, N, rfl, FrM.rf, hN, nle⟩, rfl⟩
    | 5, _, hkk, D0 => exact Ok.tableIn (off := 104) (tgt := 125) dX12_whomOn_21 (by decide) (by decide) (by decide +kernel) (by decide) (D0 125 rfl (by decide) (by decide) (by decide))
    | 6, _, hkk, D0 =>
      refine Ok.tableIn (off := 97) (tgt := 118) dX12_whomOn_21 (by decide) (by decide) (by decide +kernel) (by decide) ?_
      refine Ok.aload_n dX12_whomOn_118 rfl ?_
      refine Ok.iload_n dX12_whomOn_119 rfl ?_
      refine Ok.iload_n dX12_whomOn_120 rfl ?_
      refine Ok.callV (My := mX12_toldOn) (n := 2) (ci := 12) dX12_whomOn_121 (ct_toldOn G (d + 9) b p dd nt lk st h0 nx hL0 hp1 hr hr10 (by omega)) encM_0 rfl wd1384 wd80 wd1383 wd54 wd1381 (by decide) (by decide +kernel) (by decide) rfl rfl (Nat.le_of_ble_eq_true rfl) (Nat.le_of_ble_eq_true rfl) (Nat.le_of_ble_eq_true rfl) (fun v h' nx' q => ?_)
      obtain ⟨rfl, rfl, hnx⟩ := q
      subst nx'
      exact Ok.iret dX12_whomOn_124 rfl (Nat.zero_le _) (Nat.zero_le _) ⟨by unfold whF; rw [hkk, if_neg n0, if_neg (by decide), if_neg (by decide), if_pos rfl], ⟨st, N, rfl, FrM.rf, hN, nle⟩, rfl⟩
    | n + 7, h, _, _ => exact absurd h (by omega)
  · refine Ok.iconstV (v := nI 0) dX12_whomOn_9 (by decide +kernel) ?_
    exact Ok.iret dX12_whomOn_10 rfl (Nat.zero_le _) (Nat.zero_le _) ⟨by unfold whF; rw [if_pos ((nI_eq (a := nt) (b := 0) (by omega) (by decide)).mp c6)], ⟨st, N, rfl, FrM.rf, hN, nle⟩, rfl⟩
def baF (s : Nat → Int32) : Nat → Int64
  | 0 => 0
  | t + 1 => baF s t + brF s t (s (1034 + t))
set_option maxRecDepth 100000 in
set_option maxHeartbeats 4000000 in
theorem bringsAll_loop (G : Gx) (d b nt : Nat) (st : MS) (h0 : Hp) (nx : Nat) (h1 : ma st 1 1 = nI nt) (h2 : nt ≤ 8) (ht : ∀ t, t < nt → ThOk (ma st 1) t) : ∀ r t : Nat, t + r = nt → Ok G mX12_bringsAll (d + 2) (Same (some (.long (baF (ma st 1) nt))) (encM G b st h0) nx) 4 [some (.ref b), some (.long (baF (ma st 1) t)), none, some (.int (nI t))] [] (encM G b st h0) nx 0 0 := by
  intro r
  induction r with
  | zero =>
    intro t hr
    have hr : t = nt := by omega
    subst hr
    refine Ok.iload_n dX12_bringsAll_4 rfl ?_
    refine Ok.aload_n dX12_bringsAll_5 rfl ?_
    refine Ok.mget_s rfl dX12_bringsAll_6 ?_
    refine Ok.iconstV (v := nI 1) dX12_bringsAll_9 (by decide +kernel) ?_
    refine Ok.mald_sN dX12_bringsAll_10 (by omega) h1 ?_
    refine Ok.icmp_ge (tgt := 38) dX12_bringsAll_11 (by decide) (fun c11 => ?_) (fun c11 => absurd c11 (by rw [nI_leI (by omega) (by omega)]; omega))
    refine Ok.lload_n dX12_bringsAll_38 rfl ?_
    exact Ok.lret dX12_bringsAll_39 rfl (Nat.zero_le _) (Nat.zero_le _) ⟨rfl, rfl, rfl⟩
  | succ r ih =>
    intro t hr
    refine Ok.iload_n dX12_bringsAll_4 rfl ?_
    refine Ok.aload_n dX12_bringsAll_5 rfl ?_
    refine Ok.mget_s rfl dX12_bringsAll_6 ?_
    refine Ok.iconstV (v := nI 1) dX12_bringsAll_9 (by decide +kernel) ?_
    refine Ok.mald_sN dX12_bringsAll_10 (by omega) h1 ?_
    refine Ok.icmp_ge (tgt := 38) dX12_bringsAll_11 (by decide) (fun c11 => absurd c11 (by rw [nI_leI (by omega) (by omega)]; omega)) (fun c11 => ?_)
    refine Ok.lload_n dX12_bringsAll_14 rfl ?_
    refine Ok.aload_n dX12_bringsAll_15 rfl ?_
    refine Ok.iload_n dX12_bringsAll_16 rfl ?_
    refine Ok.aload_n dX12_bringsAll_17 rfl ?_
    refine Ok.mget_s rfl dX12_bringsAll_18 ?_
    refine Ok.sipushV (v := nI 1034) dX12_bringsAll_21 (by decide +kernel) ?_
    refine Ok.iload_n dX12_bringsAll_24 rfl ?_
    refine Ok.iaddN dX12_bringsAll_25 ?_
    refine Ok.mald_sN dX12_bringsAll_26 (by omega) rfl ?_
    refine Ok.callV (My := mX12_brings) (n := 2) (ci := 12) dX12_bringsAll_27 (ct_brings G d b t st (ma st 1 (1034 + t)) h0 nx (ht t (by omega))) encM_0 rfl wd1331 wd80 wd1330 wd47 wd1328 (by decide) (by decide +kernel) (by decide) rfl rfl (Nat.le_of_ble_eq_true rfl) (Nat.le_of_ble_eq_true rfl) (Nat.le_of_ble_eq_true rfl) (fun v h' nx' q => ?_)
    obtain ⟨rfl, rfl, hnx⟩ := q
    subst nx'
    refine Ok.ladd dX12_bringsAll_30 ?_
    refine Ok.lstore_n dX12_bringsAll_31 (by decide) ?_
    refine Ok.iinc dX12_bringsAll_32 rfl (by decide) ?_
    refine Ok.goto (tgt := 4) dX12_bringsAll_35 (by decide) ?_
    rw [show nI t + Int32.ofInt 1 = nI (t + 1) from nI_1 t]
    exact ih (t + 1) (by omega)
set_option maxRecDepth 100000 in
set_option maxHeartbeats 4000000 in
theorem ct_bringsAll (G : Gx) (d b nt : Nat) (st : MS) (h0 : Hp) (nx : Nat) (h1 : ma st 1 1 = nI nt) (h2 : nt ≤ 8) (ht : ∀ t, t < nt → ThOk (ma st 1) t) : Ct G mX12_bringsAll (d + 2) (Same (some (.long (baF (ma st 1) nt))) (encM G b st h0) nx) [.ref b] (encM G b st h0) nx := by
  refine Ct.of (ls := [some (.ref b), none, none, none]) (by decide +kernel) rfl (Nat.le_of_ble_eq_true rfl) rfl ?_
  refine Ok.lconst dX12_bringsAll_0 ?_
  refine Ok.lstore_n dX12_bringsAll_1 (by decide) ?_
  refine Ok.iconstV (v := nI 0) dX12_bringsAll_2 (by decide +kernel) ?_
  refine Ok.istore_n dX12_bringsAll_3 (by decide) ?_
  exact bringsAll_loop G d b nt st h0 nx h1 h2 ht nt 0 (by omega)
