/-! THE REFERENCE: best by a wage, numbers -/
/-- all stamps are at most the present one, which is N -/
def StOk (st : MS) (N : Nat) : Prop := mi st 18 = nI N ∧ ∀ i : Nat, ∃ m : Nat, m ≤ N ∧ ma st 17 i = nI m
def KB : List Nat := [14, 15, 16, 17, 18, 20]
theorem bP_cg {st st1 : MS} (h1 : ma st1 1 = ma st 1) (h20 : mi st1 20 = mi st 20) (h12 : ∀ i, i < 27 → ma st1 12 i = ma st 12 i) {t : Nat} : ∀ (n p : Nat), p + n ≤ 27 → n ≤ 8 → bP st1 t n p = bP st t n p
  | 0, _, _, _ => rfl
  | n + 1, p, hp, hn => by
    unfold bP
    rw [bP_cg h1 h20 h12 n (p + 1) (by omega) (by omega), bP_cg h1 h20 h12 n 9 (by omega) (by omega), bP_cg h1 h20 h12 n 18 (by omega) (by omega), h1, h20, h12 p (by omega)]
set_option maxRecDepth 100000 in
set_option maxHeartbeats 4000000 in
theorem ct_bestBy (G : Gx) (d b t n N : Nat) (w : Int32) (st : MS) (h0 : Hp) (nx : Nat) (hn : n ≤ 8) (ht : ThOk (ma st 1) t) (hw : mi st 19 = nI t) (hN : StOk st N) (hb : N + 1 < 2 ^ 31) : Ct G mX12_bestBy (d + n + 3) (fun v h' nx' => v = some (.long (bP (msi st 20 w) t n 0).1) ∧ (∃ st' : MS, h' = encM G b st' h0 ∧ FrM KB st st' ∧ StOk st' (N + 1) ∧ (1 ≤ n → ml st' 15 n = (bP (msi st 20 w) t n 0).2.1 ∧ ml st' 16 n = (bP (msi st 20 w) t n 0).2.2)) ∧ nx' = nx) [.ref b, .int w, .int (nI n)] (encM G b st h0) nx := by
  refine Ct.of (ls := [some (.ref b), some (.int w), some (.int (nI n))]) (by decide +kernel) rfl (Nat.le_of_ble_eq_true rfl) rfl ?_
  have hm : MemoOk (msi (msi st 20 w) 18 (nI (N + 1))) t := by
    intro p q h1 h8 hp hs
    obtain ⟨k, hk, e⟩ := hN.2 (9 * p + q)
    have hs' : ma st 17 (9 * p + q) = nI (N + 1) := hs.trans mi_msi_s
    rw [e, nI_eq (by omega) hb] at hs'
    omega
  refine Ok.aload_n dX12_bestBy_0 rfl ?_
  refine Ok.iload_n dX12_bestBy_1 rfl ?_
  refine Ok.mput_wage rfl dX12_bestBy_2 ?_
  refine Ok.aload_n dX12_bestBy_5 rfl ?_
  refine Ok.dup dX12_bestBy_6 rfl ?_
  refine Ok.mget_stamp rfl dX12_bestBy_7 ?_
  rw [show mi (msi st 20 w) 18 = nI N from (mi_msi_n (by decide)).trans hN.1]
  refine Ok.iconstV (v := nI 1) dX12_bestBy_10 (by decide +kernel) ?_
  refine Ok.iaddN dX12_bestBy_11 ?_
  refine Ok.mput_stamp rfl dX12_bestBy_12 ?_
  refine Ok.aload_n dX12_bestBy_15 rfl ?_
  refine Ok.iconstV (v := nI 0) dX12_bestBy_16 (by decide +kernel) ?_
  refine Ok.iload_n dX12_bestBy_17 rfl ?_
  refine Ok.callV (My := mX12_bestOf) (n := 2) (ci := 12) dX12_bestBy_18 (ct_bestOf G d b t h0 nx n 0 (msi (msi st 20 w) 18 (nI (N + 1))) hn (by omega) ht ((mi_msi_n (by decide)).trans ((mi_msi_n (by decide)).trans hw)) hm) encM_0 rfl wd1327 wd80 wd1326 wd46 wd1324 (by decide) (by decide +kernel) (by decide) rfl rfl (Nat.le_of_ble_eq_true rfl) (Nat.le_of_ble_eq_true rfl) (Nat.le_of_ble_eq_true rfl) (fun v h' nx' q => ?_)
  obtain ⟨rfl, ⟨st1, rfl, hF, hm1, hs1, hS⟩, hnx⟩ := q
  subst nx'
  have b1 : bP st1 t n 0 = bP (msi st 20 w) t n 0 := (bP_fr hF (by decide) (by decide) (by decide) n 0).trans (bP_fr (FrM.msi (ks := [18]) (by decide)) (by decide) (by decide) (by decide) n 0)
  have b2 : bP (msi (msi st 20 w) 18 (nI (N + 1))) t n 0 = bP (msi st 20 w) t n 0 := bP_fr (FrM.msi (ks := [18]) (by decide)) (by decide) (by decide) (by decide) n 0
  have e18 : mi st1 18 = nI (N + 1) := (hF.of1 18 (by decide)).trans mi_msi_s
  refine Ok.lret dX12_bestBy_21 rfl (Nat.zero_le _) (Nat.zero_le _) ⟨by rw [b2], ⟨st1, rfl, ((FrM.msi (ks := KB) (by decide)).trans ((FrM.msi (ks := KB) (by decide)).trans hF)).mono (by decide), ⟨e18, fun i => ?_⟩, fun h1 => ?_⟩, rfl⟩
  · rcases hS i with q | q
    · obtain ⟨k, hk, e⟩ := hN.2 i
      exact ⟨k, by omega, q.trans e⟩
    · exact ⟨N + 1, Nat.le_refl _, q.trans mi_msi_s⟩
  · have hh := hm1 0 n h1 hn (by omega) (by rw [hs1 h1, e18]; exact mi_msi_s)
    rw [b1, show 9 * 0 + n = n by omega] at hh
    exact hh.2
def nwF (st : MS) (t n : Nat) (w : Int32) : Bool := decide ((bP (msi st 20 w) t n 0).2.2 ≤ (bP (msi st 20 w) t n 0).2.1)
set_option maxRecDepth 100000 in
set_option maxHeartbeats 4000000 in
theorem ct_isNoWorse (G : Gx) (d b t n N : Nat) (w : Int32) (st : MS) (h0 : Hp) (nx : Nat) (hn1 : 1 ≤ n) (hn : n ≤ 8) (ht : ThOk (ma st 1) t) (hw : mi st 19 = nI t) (hN : StOk st N) (hb : N + 1 < 2 ^ 31) : Ct G mX12_isNoWorse (d + n + 4) (fun v h' nx' => v = some (.int (b2i (nwF st t n w))) ∧ (∃ st' : MS, h' = encM G b st' h0 ∧ FrM KB st st' ∧ StOk st' (N + 1)) ∧ nx' = nx) [.ref b, .int w, .int (nI n)] (encM G b st h0) nx := by
  refine Ct.of (ls := [some (.ref b), some (.int w), some (.int (nI n)), none, none]) (by decide +kernel) rfl (Nat.le_of_ble_eq_true rfl) rfl ?_
  refine Ok.aload_n dX12_isNoWorse_0 rfl ?_
  refine Ok.iload_n dX12_isNoWorse_1 rfl ?_
  refine Ok.iload_n dX12_isNoWorse_2 rfl ?_
  refine Ok.callV (My := mX12_bestBy) (n := 2) (ci := 12) dX12_isNoWorse_3 (ct_bestBy G d b t n N w st h0 nx hn ht hw hN hb) encM_0 rfl wd1323 wd80 wd1322 wd45 wd1320 (by decide) (by decide +kernel) (by decide) rfl rfl (Nat.le_of_ble_eq_true rfl) (Nat.le_of_ble_eq_true rfl) (Nat.le_of_ble_eq_true rfl) (fun v h' nx' q => ?_)
  obtain ⟨rfl, ⟨st1, rfl, hF, hN1, hv⟩, hnx⟩ := q
  subst nx'
  obtain ⟨hv1, hv2⟩ := hv hn1
  refine Ok.lstore_n dX12_isNoWorse_6 (by decide) ?_
  refine Ok.aload_n dX12_isNoWorse_7 rfl ?_
  refine Ok.mget_nots rfl dX12_isNoWorse_8 ?_
  refine Ok.iload_n dX12_isNoWorse_11 rfl ?_
  refine Ok.mald_notsN dX12_isNoWorse_12 (by omega) hv1 ?_
  refine Ok.aload_n dX12_isNoWorse_13 rfl ?_
  refine Ok.mget_lookeds rfl dX12_isNoWorse_14 ?_
  refine Ok.iload_n dX12_isNoWorse_17 rfl ?_
  refine Ok.mald_lookedsN dX12_isNoWorse_18 (by omega) hv2 ?_
  refine Ok.lcmp dX12_isNoWorse_19 ?_
  refine Ok.if_lt (tgt := 27) dX12_isNoWorse_20 (by decide) (fun c20 => ?_) (fun c20 => ?_)
  · refine Ok.iconstV (v := nI 0) dX12_isNoWorse_27 (by decide +kernel) ?_
    exact Ok.zret dX12_isNoWorse_28 rfl rfl (Nat.zero_le _) (Nat.zero_le _) ⟨congrArg (fun x => some (Value.int x)) (Eq.symm (by show b2i (decide _) = nI 0; rw [decide_eq_false (Int64.not_le.mpr ((lg_cmp_lt _ _).mp c20))]; rfl)), ⟨st1, rfl, hF, hN1⟩, rfl⟩
  · refine Ok.iconstV (v := nI 1) dX12_isNoWorse_23 (by decide +kernel) ?_
    refine Ok.goto (tgt := 28) dX12_isNoWorse_24 (by decide) ?_
    exact Ok.zret dX12_isNoWorse_28 rfl rfl (Nat.zero_le _) (Nat.zero_le _) ⟨congrArg (fun x => some (Value.int x)) (Eq.symm (by show b2i (decide _) = nI 1; rw [decide_eq_true (Int64.not_lt.mp (fun q => c20 ((lg_cmp_lt _ _).mpr q)))]; rfl)), ⟨st1, rfl, hF, hN1⟩, rfl⟩
/-- the state with the rows of a thing laid -/
def rwS (st : MS) (t : Nat) : MS := msi (msa st 12 (fun i => (rowK st t (i / 9) (i % 9)).1)) 19 (nI t)
def srch (f : Nat → Bool) : Nat → Nat → Int32
  | _, 0 => -5
  | w, r + 1 => if f w then nI w else srch f (w + 1) r
def nmF (st : MS) (t n : Nat) : Int32 := srch (fun w => nwF (rwS st t) t n (nI w)) 0 201
theorem nwF_cg {st st1 : MS} {t n : Nat} (hn : n ≤ 8) (h1 : ma st1 1 = ma st 1) (h12 : ∀ i, i < 27 → ma st1 12 i = (rowK st t (i / 9) (i % 9)).1) (w : Int32) : nwF st1 t n w = nwF (rwS st t) t n w := by
  unfold nwF
  rw [bP_cg (st := msi (rwS st t) 20 w) (st1 := msi st1 20 w) h1 (mi_msi_s.trans mi_msi_s.symm) (fun i hi => (h12 i hi).trans (congrFun (upK_s (f := st.2.1) (k := 12) (x := fun i => (rowK st t (i / 9) (i % 9)).1)) i).symm) n 0 (by omega) hn]
set_option maxRecDepth 100000 in
set_option maxHeartbeats 4000000 in
theorem number_loop (G : Gx) (d b t n N : Nat) (st : MS) (h0 : Hp) (nx : Nat) (hn1 : 1 ≤ n) (hn : n ≤ 8) (ht : ThOk (ma st 1) t) (hb : N + 201 < 2 ^ 31) : ∀ (r w : Nat) (st1 : MS), w + r = 201 → FrM ([9, 12, 13, 19] ++ KB) st st1 → mi st1 19 = nI t → (∀ i, i < 27 → ma st1 12 i = (rowK st t (i / 9) (i % 9)).1) → StOk st1 (N + w) → nmF st t n = srch (fun w => nwF (rwS st t) t n (nI w)) w r → Ok G mX12_numberOf (d + n + 5) (fun v h' nx' => v = some (.int (nmF st t n)) ∧ (∃ (st' : MS) (N' : Nat), h' = encM G b st' h0 ∧ FrM ([9, 12, 13, 19] ++ KB) st st' ∧ StOk st' N' ∧ N' ≤ N + 201) ∧ nx' = nx) 7 [some (.ref b), some (.int (nI t)), some (.int (nI n)), some (.int (nI w))] [] (encM G b st1 h0) nx 0 0 := by
  intro r
  induction r with
  | zero =>
    intro w st1 hr hF hw h12 hN hv
    have hw2 : w = 201 := by omega
    subst hw2
    refine Ok.iload_n dX12_numberOf_7 rfl ?_
    refine Ok.sipushV (v := nI 200) dX12_numberOf_8 (by decide +kernel) ?_
    refine Ok.icmp_gt (tgt := 31) dX12_numberOf_11 (by decide) (fun c11 => ?_) (fun c11 => absurd c11 (by decide))
    refine Ok.bipushV (v := (-5)) dX12_numberOf_31 (by decide +kernel) ?_
    exact Ok.iret dX12_numberOf_33 rfl (Nat.zero_le _) (Nat.zero_le _) ⟨by rw [hv]; rfl, ⟨st1, _, rfl, hF, hN, by omega⟩, rfl⟩
  | succ r ih =>
    intro w st1 hr hF hw h12 hN hv
    have hw2 : w < 201 := by omega
    have e1 : ma st1 1 = ma st 1 := hF.ofa 1 (by decide)
    have hq := nwF_cg (n := n) (t := t) hn e1 h12 (nI w)
    refine Ok.iload_n dX12_numberOf_7 rfl ?_
    refine Ok.sipushV (v := nI 200) dX12_numberOf_8 (by decide +kernel) ?_
    refine Ok.icmp_gt (tgt := 31) dX12_numberOf_11 (by decide) (fun c11 => absurd c11 (by rw [nI_ltI (by omega) (by omega)]; omega)) (fun c11 => ?_)
    refine Ok.aload_n dX12_numberOf_14 rfl ?_
    refine Ok.iload_n dX12_numberOf_15 rfl ?_
    refine Ok.iload_n dX12_numberOf_16 rfl ?_
    refine Ok.callV (My := mX12_isNoWorse) (n := 2) (ci := 12) dX12_numberOf_17 (ct_isNoWorse G d b t n (N + w) (nI w) st1 h0 nx hn1 hn (by rw [e1]; exact ht) hw hN (by omega)) encM_0 rfl wd1344 wd80 wd1343 wd49 wd1341 (by decide) (by decide +kernel) (by decide) rfl rfl (Nat.le_of_ble_eq_true rfl) (Nat.le_of_ble_eq_true rfl) (Nat.le_of_ble_eq_true rfl) (fun v h' nx' q => ?_)
    obtain ⟨rfl, ⟨st2, rfl, hF2, hN2⟩, hnx⟩ := q
    subst nx'
    rw [hq]
    refine Ok.if_eq (tgt := 25) dX12_numberOf_20 (by decide) (fun c20 => ?_) (fun c20 => ?_)
    · refine Ok.iinc dX12_numberOf_25 rfl (by decide) ?_
      refine Ok.goto (tgt := 7) dX12_numberOf_28 (by decide) ?_
      rw [show nI w + Int32.ofInt 1 = nI (w + 1) from nI_1 w]
      exact ih (w + 1) st2 (by omega) ((hF.trans hF2).mono (by decide)) ((hF2.of1 19 (by decide)).trans hw) (fun i hi => by rw [hF2.ofa 12 (by decide)]; exact h12 i hi) hN2 (hv.trans (show srch _ w (r + 1) = _ from if_neg (fun q => absurd ((b2i_eq c20).symm.trans q) (by decide))))
    · refine Ok.iload_n dX12_numberOf_23 rfl ?_
      exact Ok.iret dX12_numberOf_24 rfl (Nat.zero_le _) (Nat.zero_le _) ⟨by rw [hv]; unfold srch; rw [if_pos (b2i_ne c20)], ⟨st2, _, rfl, (hF.trans hF2).mono (by decide), hN2, by omega⟩, rfl⟩
set_option maxRecDepth 100000 in
set_option maxHeartbeats 4000000 in
theorem ct_numberOf (G : Gx) (d b t n N : Nat) (st : MS) (h0 : Hp) (nx : Nat) (hn1 : 1 ≤ n) (hn : n ≤ 8) (ht : ThOk (ma st 1) t) (hN : StOk st N) (hb : N + 201 < 2 ^ 31) : Ct G mX12_numberOf (d + n + 5) (fun v h' nx' => v = some (.int (nmF st t n)) ∧ (∃ (st' : MS) (N' : Nat), h' = encM G b st' h0 ∧ FrM ([9, 12, 13, 19] ++ KB) st st' ∧ StOk st' N' ∧ N' ≤ N + 201) ∧ nx' = nx) [.ref b, .int (nI t), .int (nI n)] (encM G b st h0) nx := by
  refine Ct.of (ls := [some (.ref b), some (.int (nI t)), some (.int (nI n)), none]) (by decide +kernel) rfl (Nat.le_of_ble_eq_true rfl) rfl ?_
  refine Ok.aload_n dX12_numberOf_0 rfl ?_
  refine Ok.iload_n dX12_numberOf_1 rfl ?_
  refine Ok.callV (My := mX12_rowsOf) (n := 1) (ci := 12) dX12_numberOf_2 ((show Ct G mX12_rowsOf (d + n + 4) _ _ _ _ from by rw [show d + n + 4 = d + n + 1 + 3 by omega]; exact ct_rowsOf G (d + n + 1) b t st h0 nx ht)) encM_0 rfl wd1315 wd80 wd1314 wd43 wd1312 (by decide) (by decide +kernel) (by decide) rfl rfl (Nat.le_of_ble_eq_true rfl) (Nat.le_of_ble_eq_true rfl) (Nat.le_of_ble_eq_true rfl) (fun v h' nx' q => ?_)
  obtain ⟨rfl, ⟨st1, rfl, hF, hw, hr⟩, hnx⟩ := q
  subst nx'
  refine Ok.iconstV (v := nI 0) dX12_numberOf_5 (by decide +kernel) ?_
  refine Ok.istore_n dX12_numberOf_6 (by decide) ?_
  exact number_loop G d b t n N st h0 nx hn1 hn ht hb 201 0 st1 (by omega) (hF.mono (by decide)) hw (fun i hi => by
      have := (hr (i / 9) (i % 9) (by omega) (by omega)).1
      rwa [show 9 * (i / 9) + i % 9 = i by omega] at this) ⟨(hF.of1 18 (by decide)).trans hN.1, fun i => by rw [hF.ofa 17 (by decide)]; exact hN.2 i⟩ rfl
def wgF (x : Int32) : Int32 := if x = -5 then nI 201 else x
set_option maxRecDepth 100000 in
set_option maxHeartbeats 4000000 in
theorem ct_weight (G : Gx) (d b t n N : Nat) (st : MS) (h0 : Hp) (nx : Nat) (hn1 : 1 ≤ n) (hn : n ≤ 8) (ht : ThOk (ma st 1) t) (hN : StOk st N) (hb : N + 201 < 2 ^ 31) : Ct G mX12_weight (d + n + 6) (fun v h' nx' => v = some (.int (wgF (nmF st t n))) ∧ (∃ (st' : MS) (N' : Nat), h' = encM G b st' h0 ∧ FrM ([9, 12, 13, 19] ++ KB) st st' ∧ StOk st' N' ∧ N' ≤ N + 201) ∧ nx' = nx) [.ref b, .int (nI t), .int (nI n)] (encM G b st h0) nx := by
  refine Ct.of (ls := [some (.ref b), some (.int (nI t)), some (.int (nI n)), none]) (by decide +kernel) rfl (Nat.le_of_ble_eq_true rfl) rfl ?_
  refine Ok.aload_n dX12_weight_0 rfl ?_
  refine Ok.iload_n dX12_weight_1 rfl ?_
  refine Ok.iload_n dX12_weight_2 rfl ?_
  refine Ok.callV (My := mX12_numberOf) (n := 2) (ci := 12) dX12_weight_3 (ct_numberOf G d b t n N st h0 nx hn1 hn ht hN hb) encM_0 rfl wd1340 wd80 wd1339 wd48 wd1337 (by decide) (by decide +kernel) (by decide) rfl rfl (Nat.le_of_ble_eq_true rfl) (Nat.le_of_ble_eq_true rfl) (Nat.le_of_ble_eq_true rfl) (fun v h' nx' q => ?_)
  obtain ⟨rfl, ⟨st1, N1, rfl, hF, hN1, hl⟩, hnx⟩ := q
  subst nx'
  refine Ok.istore_n dX12_weight_6 (by decide) ?_
  refine Ok.iload_n dX12_weight_7 rfl ?_
  refine Ok.bipushV (v := (-5)) dX12_weight_8 (by decide +kernel) ?_
  refine Ok.icmp_ne (tgt := 19) dX12_weight_10 (by decide) (fun c10 => ?_) (fun c10 => ?_)
  · refine Ok.iload_n dX12_weight_19 rfl ?_
    exact Ok.iret dX12_weight_20 rfl (Nat.zero_le _) (Nat.zero_le _) ⟨by unfold wgF; rw [if_neg c10], ⟨st1, N1, rfl, hF, hN1, hl⟩, rfl⟩
  · refine Ok.sipushV (v := nI 201) dX12_weight_13 (by decide +kernel) ?_
    refine Ok.goto (tgt := 20) dX12_weight_16 (by decide) ?_
    exact Ok.iret dX12_weight_20 rfl (Nat.zero_le _) (Nat.zero_le _) ⟨by unfold wgF; rw [if_pos c10], ⟨st1, N1, rfl, hF, hN1, hl⟩, rfl⟩
def lkF (s : Nat → Int32) : Int32 := if s 4 < s 1 then s 4 else s 1
set_option maxRecDepth 100000 in
set_option maxHeartbeats 4000000 in
theorem ct_looking (G : Gx) (d b : Nat) (st : MS) (h0 : Hp) (nx : Nat) : Ct G mX12_looking d (Same (some (.int (lkF (ma st 1)))) (encM G b st h0) nx) [.ref b] (encM G b st h0) nx := by
  refine Ct.of (ls := [some (.ref b)]) (by decide +kernel) rfl (Nat.le_of_ble_eq_true rfl) rfl ?_
  refine Ok.aload_n dX12_looking_0 rfl ?_
  refine Ok.mget_s rfl dX12_looking_1 ?_
  refine Ok.iconstV (v := nI 4) dX12_looking_4 (by decide +kernel) ?_
  refine Ok.mald_sN dX12_looking_5 (by omega) rfl ?_
  refine Ok.aload_n dX12_looking_6 rfl ?_
  refine Ok.mget_s rfl dX12_looking_7 ?_
  refine Ok.iconstV (v := nI 1) dX12_looking_10 (by decide +kernel) ?_
  refine Ok.mald_sN dX12_looking_11 (by omega) rfl ?_
  refine Ok.icmp_ge (tgt := 24) dX12_looking_12 (by decide) (fun c12 => ?_) (fun c12 => ?_)
  · refine Ok.aload_n dX12_looking_24 rfl ?_
    refine Ok.mget_s rfl dX12_looking_25 ?_
    refine Ok.iconstV (v := nI 1) dX12_looking_28 (by decide +kernel) ?_
    refine Ok.mald_sN dX12_looking_29 (by omega) rfl ?_
    exact Ok.iret dX12_looking_30 rfl (Nat.zero_le _) (Nat.zero_le _) ⟨congrArg (fun x => some (Value.int x)) (Eq.symm (if_neg (Int32.not_lt.mpr c12))), rfl, rfl⟩
  · refine Ok.aload_n dX12_looking_15 rfl ?_
    refine Ok.mget_s rfl dX12_looking_16 ?_
    refine Ok.iconstV (v := nI 4) dX12_looking_19 (by decide +kernel) ?_
    refine Ok.mald_sN dX12_looking_20 (by omega) rfl ?_
    refine Ok.goto (tgt := 30) dX12_looking_21 (by decide) ?_
    exact Ok.iret dX12_looking_30 rfl (Nat.zero_le _) (Nat.zero_le _) ⟨congrArg (fun x => some (Value.int x)) (Eq.symm (if_pos (Int32.not_le.mp c12))), rfl, rfl⟩
def cnF (x : Int32) : Nat → Int32
  | 0 => nI 0
  | k + 1 => cnF x k + (x >>> (nI k &&& 31) &&& nI 1)
set_option maxRecDepth 100000 in
set_option maxHeartbeats 4000000 in
theorem count_loop (G : Gx) (d : Nat) (x : Int32) (h : Hp) (nx : Nat) : ∀ r k : Nat, k + r = 8 → Ok G mX12_count1 d (Same (some (.int (cnF x 8))) h nx) 4 [some (.int x), some (.int (cnF x k)), some (.int (nI k))] [] h nx 0 0 := by
  intro r
  induction r with
  | zero =>
    intro k hk
    have hk : k = 8 := by omega
    subst hk
    refine Ok.iload_n dX12_count1_4 rfl ?_
    refine Ok.bipushV (v := nI 8) dX12_count1_5 (by decide +kernel) ?_
    refine Ok.icmp_ge (tgt := 24) dX12_count1_7 (by decide) (fun c7 => ?_) (fun c7 => absurd c7 (by decide))
    refine Ok.iload_n dX12_count1_24 rfl ?_
    exact Ok.iret dX12_count1_25 rfl (Nat.zero_le _) (Nat.zero_le _) ⟨rfl, rfl, rfl⟩
  | succ r ih =>
    intro k hk
    refine Ok.iload_n dX12_count1_4 rfl ?_
    refine Ok.bipushV (v := nI 8) dX12_count1_5 (by decide +kernel) ?_
    refine Ok.icmp_ge (tgt := 24) dX12_count1_7 (by decide) (fun c7 => absurd c7 (by rw [nI_leI (by omega) (by omega)]; omega)) (fun c7 => ?_)
    refine Ok.iload_n dX12_count1_10 rfl ?_
    refine Ok.iload_n dX12_count1_11 rfl ?_
    refine Ok.iload_n dX12_count1_12 rfl ?_
    refine Ok.ishr dX12_count1_13 ?_
    refine Ok.iconstV (v := nI 1) dX12_count1_14 (by decide +kernel) ?_
    refine Ok.iand dX12_count1_15 ?_
    refine Ok.iadd dX12_count1_16 ?_
    refine Ok.istore_n dX12_count1_17 (by decide) ?_
    refine Ok.iinc dX12_count1_18 rfl (by decide) ?_
    refine Ok.goto (tgt := 4) dX12_count1_21 (by decide) ?_
    rw [show nI k + Int32.ofInt 1 = nI (k + 1) from nI_1 k]
    exact ih (k + 1) (by omega)
set_option maxRecDepth 100000 in
set_option maxHeartbeats 4000000 in
theorem ct_count1 (G : Gx) (d : Nat) (x : Int32) (h : Hp) (nx : Nat) : Ct G mX12_count1 d (Same (some (.int (cnF x 8))) h nx) [.int x] h nx := by
  refine Ct.of (ls := [some (.int x), none, none]) (by decide +kernel) rfl (Nat.le_of_ble_eq_true rfl) rfl ?_
  refine Ok.iconstV (v := nI 0) dX12_count1_0 (by decide +kernel) ?_
  refine Ok.istore_n dX12_count1_1 (by decide) ?_
  refine Ok.iconstV (v := nI 0) dX12_count1_2 (by decide +kernel) ?_
  refine Ok.istore_n dX12_count1_3 (by decide) ?_
  exact count_loop G d x h nx 8 0 (by omega)
