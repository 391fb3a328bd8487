/-! THE REFERENCE's chances, and how known changes over a day -/
theorem Ct.weak {G : Gx} {M : Mt} {d : Nat} {post post' : Po} {args : List Value} {h : Hp} {nx : Nat} (k : Ct G M d post args h nx) (e : ∀ v h' nx', post v h' nx' → post' v h' nx') : Ct G M d post' args h nx := by
  unfold Ct Met at k ⊢
  refine MetFree.mono k (fun _ _ q => q) (fun _ _ _ _ _ q => q) (fun a st o t _ q => ⟨?_, q.2⟩)
  obtain ⟨⟨⟨v, h', nx', q1, q2, q3⟩, q4⟩, q5⟩ := q
  exact ⟨⟨v, h', nx', q1, e _ _ _ q2, q3⟩, q4⟩
def sN (s : Nat → Int32) (k : Nat) : Nat := (s k).toNatClampNeg
def codeL (s : Nat → Int32) (a : Nat) : List Int32 := (List.range (sN s (130 + a))).map (fun j => s (170 + 140 * a + j))
def CodeOk (s : Nat → Int32) (a : Nat) : Prop := s (130 + a) = nI (sN s (130 + a)) ∧ sN s (130 + a) ≤ 140 ∧ okC (codeL s a) 0
def sumF (s : Nat → Int32) (a : Nat) (w d k : Int32) : Int32 := capC (runC w d k (codeL s a) [] 0)
/-- the same but for some fields -/
def FrM (ks : List Nat) (st st' : MS) : Prop := ∀ k : Nat, k ∉ ks → mi st' k = mi st k ∧ ma st' k = ma st k ∧ ml st' k = ml st k
theorem FrM.rf {ks : List Nat} {st : MS} : FrM ks st st := fun _ _ => ⟨rfl, rfl, rfl⟩
theorem FrM.trans {ks1 ks2 : List Nat} {a b c : MS} (h1 : FrM ks1 a b) (h2 : FrM ks2 b c) : FrM (ks1 ++ ks2) a c := fun k hk => by
  obtain ⟨p1, p2, p3⟩ := h1 k (fun q => hk (List.mem_append_left _ q))
  obtain ⟨q1, q2, q3⟩ := h2 k (fun q => hk (List.mem_append_right _ q))
  exact ⟨q1.trans p1, q2.trans p2, q3.trans p3⟩
theorem FrM.mono {ks1 ks2 : List Nat} {a b : MS} (h1 : FrM ks1 a b) (h : ∀ k ∈ ks1, k ∈ ks2) : FrM ks2 a b := fun k hk => h1 k (fun q => hk (h k q))
theorem FrM.msa {ks : List Nat} {st : MS} {k : Nat} {f : Nat → Int32} (h : k ∈ ks) : FrM ks st (msa st k f) := fun j hj => ⟨rfl, ma_msa_n (fun e => hj (e ▸ h)), rfl⟩
theorem FrM.msi {ks : List Nat} {st : MS} {k : Nat} {x : Int32} (h : k ∈ ks) : FrM ks st (msi st k x) := fun j hj => ⟨upK_n (fun e => hj (e ▸ h)), rfl, rfl⟩
theorem FrM.msl {ks : List Nat} {st : MS} {k : Nat} {f : Nat → Int64} (h : k ∈ ks) : FrM ks st (msl st k f) := fun j hj => ⟨rfl, rfl, upK_n (fun e => hj (e ▸ h))⟩
/-- the answer, and the state but for some fields -/
def Frd (G : Gx) (b : Nat) (ks : List Nat) (st : MS) (h0 : Hp) (nx : Nat) (x : Option Value) : Po := fun v h' nx' => v = x ∧ (∃ st' : MS, h' = encM G b st' h0 ∧ FrM ks st st') ∧ nx' = nx
theorem ct_summed' (G : Gx) (d b a : Nat) (st : MS) (w dd k : Int32) (h0 : Hp) (nx : Nat) (ha : a < 6) (hc : CodeOk (ma st 1) a) : Ct G mX12_summed d (Frd G b [9] st h0 nx (some (.int (sumF (ma st 1) a w dd k)))) [.ref b, .int (nI a), .int w, .int dd, .int k] (encM G b st h0) nx := by
  refine (ct_summed G d b a _ st w dd k h0 nx ha hc.1 hc.2.1 (codeL (ma st 1) a) (by simp [codeL]) (fun j hj => ?_) hc.2.2).weak (fun v h' nx' q => ?_)
  · simp [codeL, List.getD, hj]
  · obtain ⟨q1, ⟨tr', rfl⟩, q3⟩ := q
    exact ⟨q1, ⟨_, rfl, FrM.msa (by decide)⟩, q3⟩
/-- a THING as the rows below need it -/
def ThOk (s : Nat → Int32) (t : Nat) : Prop := t < 8 ∧ s (1010 + t) = nI (sN s (1010 + t)) ∧ sN s (1010 + t) < 6 ∧ CodeOk s (sN s (1010 + t))
def valF (s : Nat → Int32) (t w : Nat) : Int32 := s (140 + 4 * sN s (1010 + t) + w)
def clipF (x : Int32) : Int32 := if x < 0 then 0 else if nI 1000 < x then nI 1000 else x
def illF (st : MS) (t : Nat) (d : Int32) : Int32 := clipF (sumF (ma st 1) (sN (ma st 1) (1010 + t)) (nI 0) d (ma st 1 (1018 + t)) + (if nI t = mi st 10 then mi st 11 else nI 0))
def healF (s : Nat → Int32) (t : Nat) (d : Int32) : Int32 := sumF s (sN s (1010 + t)) (nI 1) d (s (1018 + t))
def overF (st : MS) (t : Nat) (known d : Int32) : Int32 := (known.toInt64 * (nI 1000 - illF st t d).toInt64 / 1000 + (nI 1000000 - known).toInt64 * (healF (ma st 1) t d).toInt64 / 1000).toInt32
set_option maxRecDepth 100000 in
set_option maxHeartbeats 4000000 in
theorem ct_value (G : Gx) (d b t w : Nat) (st : MS) (h0 : Hp) (nx : Nat) (ht : ThOk (ma st 1) t) (hw : w < 4) : Ct G mX12_value d (Same (some (.int (valF (ma st 1) t w))) (encM G b st h0) nx) [.ref b, .int (nI t), .int (nI w)] (encM G b st h0) nx := by
  obtain ⟨h1, h2, h3, -⟩ := ht
  refine Ct.of (ls := [some (.ref b), some (.int (nI t)), some (.int (nI w))]) (by decide +kernel) rfl (Nat.le_of_ble_eq_true rfl) rfl ?_
  refine Ok.aload_n dX12_value_0 rfl ?_
  refine Ok.mget_s rfl dX12_value_1 ?_
  refine Ok.sipushV (v := nI 140) dX12_value_4 (by decide +kernel) ?_
  refine Ok.iconstV (v := nI 4) dX12_value_7 (by decide +kernel) ?_
  refine Ok.aload_n dX12_value_8 rfl ?_
  refine Ok.mget_s rfl dX12_value_9 ?_
  refine Ok.sipushV (v := nI 1010) dX12_value_12 (by decide +kernel) ?_
  refine Ok.iload_n dX12_value_15 rfl ?_
  refine Ok.iaddN dX12_value_16 ?_
  refine Ok.mald_sN dX12_value_17 (by omega) h2 ?_
  refine Ok.imulN dX12_value_18 ?_
  refine Ok.iaddN dX12_value_19 ?_
  refine Ok.iload_n dX12_value_20 rfl ?_
  refine Ok.iaddN dX12_value_21 ?_
  refine Ok.mald_sN dX12_value_22 (by omega) rfl ?_
  exact Ok.iret dX12_value_23 rfl (Nat.zero_le _) (Nat.zero_le _) ⟨rfl, rfl, rfl⟩
set_option maxRecDepth 100000 in
set_option maxHeartbeats 4000000 in
theorem ct_illOf (G : Gx) (d b t : Nat) (st : MS) (dd : Int32) (h0 : Hp) (nx : Nat) (ht : ThOk (ma st 1) t) : Ct G mX12_illOf (d + 1) (Frd G b [9] st h0 nx (some (.int (illF st t dd)))) [.ref b, .int (nI t), .int dd] (encM G b st h0) nx := by
  obtain ⟨h1, h2, h3, h4⟩ := ht
  refine Ct.of (ls := [some (.ref b), some (.int (nI t)), some (.int dd), none]) (by decide +kernel) rfl (Nat.le_of_ble_eq_true rfl) rfl ?_
  have fin : ∀ (st1 : MS) (z : Int32), FrM [9] st st1 → clipF z = illF st t dd → Ok G mX12_illOf (d + 1) (Frd G b [9] st h0 nx (some (.int (illF st t dd)))) 43 [some (.ref b), some (.int (nI t)), some (.int dd), none] [.int z] (encM G b st1 h0) nx 0 0 := by
    intro st1 z hF hz
    refine Ok.istore_n dX12_illOf_43 (by decide) ?_
    refine Ok.iload_n dX12_illOf_44 rfl ?_
    refine Ok.if_ge (tgt := 52) dX12_illOf_45 (by decide) (fun c45 => ?_) (fun c45 => ?_)
    · refine Ok.iload_n dX12_illOf_52 rfl ?_
      refine Ok.sipushV (v := nI 1000) dX12_illOf_53 (by decide +kernel) ?_
      refine Ok.icmp_le (tgt := 65) dX12_illOf_56 (by decide) (fun c56 => ?_) (fun c56 => ?_)
      · refine Ok.iload_n dX12_illOf_65 rfl ?_
        exact Ok.iret dX12_illOf_66 rfl (Nat.zero_le _) (Nat.zero_le _) ⟨by rw [← hz]; unfold clipF; rw [if_neg (Int32.not_lt.mpr c45), if_neg (Int32.not_lt.mpr c56)], ⟨st1, rfl, hF⟩, rfl⟩
      · refine Ok.sipushV (v := nI 1000) dX12_illOf_59 (by decide +kernel) ?_
        refine Ok.goto (tgt := 66) dX12_illOf_62 (by decide) ?_
        exact Ok.iret dX12_illOf_66 rfl (Nat.zero_le _) (Nat.zero_le _) ⟨by rw [← hz]; unfold clipF; rw [if_neg (Int32.not_lt.mpr c45), if_pos (Int32.not_le.mp c56)], ⟨st1, rfl, hF⟩, rfl⟩
    · refine Ok.iconstV (v := nI 0) dX12_illOf_48 (by decide +kernel) ?_
      refine Ok.goto (tgt := 66) dX12_illOf_49 (by decide) ?_
      exact Ok.iret dX12_illOf_66 rfl (Nat.zero_le _) (Nat.zero_le _) ⟨by rw [← hz]; unfold clipF; rw [if_pos (Int32.not_le.mp c45)]; rfl, ⟨st1, rfl, hF⟩, rfl⟩
  refine Ok.aload_n dX12_illOf_0 rfl ?_
  refine Ok.aload_n dX12_illOf_1 rfl ?_
  refine Ok.mget_s rfl dX12_illOf_2 ?_
  refine Ok.sipushV (v := nI 1010) dX12_illOf_5 (by decide +kernel) ?_
  refine Ok.iload_n dX12_illOf_8 rfl ?_
  refine Ok.iaddN dX12_illOf_9 ?_
  refine Ok.mald_sN dX12_illOf_10 (by omega) h2 ?_
  refine Ok.iconstV (v := nI 0) dX12_illOf_11 (by decide +kernel) ?_
  refine Ok.iload_n dX12_illOf_12 rfl ?_
  refine Ok.aload_n dX12_illOf_13 rfl ?_
  refine Ok.mget_s rfl dX12_illOf_14 ?_
  refine Ok.sipushV (v := nI 1018) dX12_illOf_17 (by decide +kernel) ?_
  refine Ok.iload_n dX12_illOf_20 rfl ?_
  refine Ok.iaddN dX12_illOf_21 ?_
  refine Ok.mald_sN dX12_illOf_22 (by omega) rfl ?_
  refine Ok.callV (My := mX12_summed) (n := 4) (ci := 12) dX12_illOf_23 (ct_summed' G d b (sN (ma st 1) (1010 + t)) st (nI 0) dd (ma st 1 (1018 + t)) h0 nx h3 h4) encM_0 rfl wd1265 wd80 wd1264 wd37 wd1262 (by decide) (by decide +kernel) (by decide) rfl rfl (Nat.le_of_ble_eq_true rfl) (Nat.le_of_ble_eq_true rfl) (Nat.le_of_ble_eq_true rfl) (fun v h' nx' q => ?_)
  obtain ⟨rfl, ⟨st1, rfl, hF⟩, hnx⟩ := q
  subst nx'
  have e10 := (hF 10 (by decide)).1
  have e11 := (hF 11 (by decide)).1
  refine Ok.iload_n dX12_illOf_26 rfl ?_
  refine Ok.aload_n dX12_illOf_27 rfl ?_
  refine Ok.mget_edgeThing rfl dX12_illOf_28 ?_
  refine Ok.icmp_ne (tgt := 41) dX12_illOf_31 (by decide) (fun c31 => ?_) (fun c31 => ?_)
  · refine Ok.iconstV (v := nI 0) dX12_illOf_41 (by decide +kernel) ?_
    refine Ok.iadd dX12_illOf_42 ?_
    exact fin _ _ hF (by unfold illF; rw [if_neg (by rw [← e10]; exact c31)])
  · refine Ok.aload_n dX12_illOf_34 rfl ?_
    refine Ok.mget_edgeMore rfl dX12_illOf_35 ?_
    refine Ok.goto (tgt := 42) dX12_illOf_38 (by decide) ?_
    refine Ok.iadd dX12_illOf_42 ?_
    exact fin _ _ hF (by unfold illF; rw [if_pos (by rw [← e10]; exact c31), e11])
set_option maxRecDepth 100000 in
set_option maxHeartbeats 4000000 in
theorem ct_healOf (G : Gx) (d b t : Nat) (st : MS) (dd : Int32) (h0 : Hp) (nx : Nat) (ht : ThOk (ma st 1) t) : Ct G mX12_healOf (d + 1) (Frd G b [9] st h0 nx (some (.int (healF (ma st 1) t dd)))) [.ref b, .int (nI t), .int dd] (encM G b st h0) nx := by
  obtain ⟨h1, h2, h3, h4⟩ := ht
  refine Ct.of (ls := [some (.ref b), some (.int (nI t)), some (.int dd)]) (by decide +kernel) rfl (Nat.le_of_ble_eq_true rfl) rfl ?_
  refine Ok.aload_n dX12_healOf_0 rfl ?_
  refine Ok.aload_n dX12_healOf_1 rfl ?_
  refine Ok.mget_s rfl dX12_healOf_2 ?_
  refine Ok.sipushV (v := nI 1010) dX12_healOf_5 (by decide +kernel) ?_
  refine Ok.iload_n dX12_healOf_8 rfl ?_
  refine Ok.iaddN dX12_healOf_9 ?_
  refine Ok.mald_sN dX12_healOf_10 (by omega) h2 ?_
  refine Ok.iconstV (v := nI 1) dX12_healOf_11 (by decide +kernel) ?_
  refine Ok.iload_n dX12_healOf_12 rfl ?_
  refine Ok.aload_n dX12_healOf_13 rfl ?_
  refine Ok.mget_s rfl dX12_healOf_14 ?_
  refine Ok.sipushV (v := nI 1018) dX12_healOf_17 (by decide +kernel) ?_
  refine Ok.iload_n dX12_healOf_20 rfl ?_
  refine Ok.iaddN dX12_healOf_21 ?_
  refine Ok.mald_sN dX12_healOf_22 (by omega) rfl ?_
  refine Ok.callV (My := mX12_summed) (n := 4) (ci := 12) dX12_healOf_23 (ct_summed' G d b (sN (ma st 1) (1010 + t)) st (nI 1) dd (ma st 1 (1018 + t)) h0 nx h3 h4) encM_0 rfl wd1265 wd80 wd1264 wd37 wd1262 (by decide) (by decide +kernel) (by decide) rfl rfl (Nat.le_of_ble_eq_true rfl) (Nat.le_of_ble_eq_true rfl) (Nat.le_of_ble_eq_true rfl) (fun v h' nx' q => ?_)
  obtain ⟨rfl, ⟨st1, rfl, hF⟩, hnx⟩ := q
  subst nx'
  exact Ok.iret dX12_healOf_26 rfl (Nat.zero_le _) (Nat.zero_le _) ⟨rfl, ⟨_, rfl, hF⟩, rfl⟩
theorem illF_fr {st st1 : MS} {ks : List Nat} (h : FrM ks st st1) (h1 : 1 ∉ ks) (h2 : 10 ∉ ks) (h3 : 11 ∉ ks) : illF st1 = illF st := by
  unfold illF
  rw [(h 1 h1).2.1, (h 10 h2).1, (h 11 h3).1]
theorem overF_fr {st st1 : MS} {ks : List Nat} (h : FrM ks st st1) (h1 : 1 ∉ ks) (h2 : 10 ∉ ks) (h3 : 11 ∉ ks) : overF st1 = overF st := by
  unfold overF
  rw [illF_fr h h1 h2 h3, (h 1 h1).2.1]
set_option maxRecDepth 100000 in
set_option maxHeartbeats 4000000 in
theorem ct_overOf (G : Gx) (d b t : Nat) (st : MS) (kn dd : Int32) (h0 : Hp) (nx : Nat) (ht : ThOk (ma st 1) t) : Ct G mX12_overOf (d + 2) (Frd G b [9] st h0 nx (some (.int (overF st t kn dd)))) [.ref b, .int (nI t), .int kn, .int dd] (encM G b st h0) nx := by
  refine Ct.of (ls := [some (.ref b), some (.int (nI t)), some (.int kn), some (.int dd), none, none, none, none]) (by decide +kernel) rfl (Nat.le_of_ble_eq_true rfl) rfl ?_
  refine Ok.iload_n dX12_overOf_0 rfl ?_
  refine Ok.i2l dX12_overOf_1 ?_
  refine Ok.sipushV (v := nI 1000) dX12_overOf_2 (by decide +kernel) ?_
  refine Ok.aload_n dX12_overOf_5 rfl ?_
  refine Ok.iload_n dX12_overOf_6 rfl ?_
  refine Ok.iload_n dX12_overOf_7 rfl ?_
  refine Ok.callV (My := mX12_illOf) (n := 2) (ci := 12) dX12_overOf_8 (ct_illOf G d b t st dd h0 nx ht) encM_0 rfl wd1294 wd80 wd1293 wd41 wd1291 (by decide) (by decide +kernel) (by decide) rfl rfl (Nat.le_of_ble_eq_true rfl) (Nat.le_of_ble_eq_true rfl) (Nat.le_of_ble_eq_true rfl) (fun v h' nx' q => ?_)
  obtain ⟨rfl, ⟨st1, rfl, hF⟩, hnx⟩ := q
  subst nx'
  refine Ok.isub dX12_overOf_11 ?_
  refine Ok.i2l dX12_overOf_12 ?_
  refine Ok.lmul dX12_overOf_13 ?_
  refine Ok.ldc2_w (v := 1000) dX12_overOf_14 wd1295 ?_
  refine Ok.ldiv dX12_overOf_17 (by decide +kernel) ?_
  refine Ok.lstore dX12_overOf_18 (by decide) ?_
  refine Ok.ldc (v := nI 1000000) dX12_overOf_20 wd1270 ?_
  refine Ok.iload_n dX12_overOf_22 rfl ?_
  refine Ok.isub dX12_overOf_23 ?_
  refine Ok.i2l dX12_overOf_24 ?_
  refine Ok.aload_n dX12_overOf_25 rfl ?_
  refine Ok.iload_n dX12_overOf_26 rfl ?_
  refine Ok.iload_n dX12_overOf_27 rfl ?_
  refine Ok.callV (My := mX12_healOf) (n := 2) (ci := 12) dX12_overOf_28 (ct_healOf G d b t st1 dd h0 nx (by rw [(hF 1 (by decide)).2.1]; exact ht)) encM_0 rfl wd1299 wd80 wd1298 wd42 wd1296 (by decide) (by decide +kernel) (by decide) rfl rfl (Nat.le_of_ble_eq_true rfl) (Nat.le_of_ble_eq_true rfl) (Nat.le_of_ble_eq_true rfl) (fun v h' nx' q => ?_)
  obtain ⟨rfl, ⟨st2, rfl, hF2⟩, hnx⟩ := q
  subst nx'
  refine Ok.i2l dX12_overOf_31 ?_
  refine Ok.lmul dX12_overOf_32 ?_
  refine Ok.ldc2_w (v := 1000) dX12_overOf_33 wd1295 ?_
  refine Ok.ldiv dX12_overOf_36 (by decide +kernel) ?_
  refine Ok.lstore dX12_overOf_37 (by decide) ?_
  refine Ok.lload dX12_overOf_39 rfl ?_
  refine Ok.lload dX12_overOf_41 rfl ?_
  refine Ok.ladd dX12_overOf_43 ?_
  refine Ok.l2i dX12_overOf_44 ?_
  exact Ok.iret dX12_overOf_45 rfl (Nat.zero_le _) (Nat.zero_le _) ⟨by unfold overF; rw [(hF 1 (by decide)).2.1], ⟨_, rfl, (hF.trans hF2).mono (by decide)⟩, rfl⟩
