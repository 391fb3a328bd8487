/-! THE REFERENCE's small methods. Same (v, h, nx): the answer, the heap as it was. -/
def Same (x : Option Value) (h : Hp) (nx : Nat) : Po := fun v h' nx' => v = x ∧ h' = h ∧ nx' = nx
def bIn (v lo hi : Int32) : Int32 := if lo ≤ v ∧ v ≤ hi then 1 else 0
theorem bIn_z (v lo hi : Int32) : bIn v lo hi = 0 ∨ bIn v lo hi = 1 := by
  unfold bIn
  split
  · exact Or.inr rfl
  · exact Or.inl rfl
theorem bIn_1 {v lo hi : Int32} (h1 : lo ≤ v) (h2 : v ≤ hi) : bIn v lo hi = 1 := if_pos ⟨h1, h2⟩
theorem bIn_0l {v lo hi : Int32} (h1 : v < lo) : bIn v lo hi = 0 := if_neg (fun q => (Int32.not_lt.mpr q.1) h1)
theorem bIn_0r {v lo hi : Int32} (h1 : hi < v) : bIn v lo hi = 0 := if_neg (fun q => (Int32.not_lt.mpr q.2) h1)
set_option maxRecDepth 100000 in
set_option maxHeartbeats 4000000 in
theorem ct_in (G : Gx) (d : Nat) (v lo hi : Int32) (h : Hp) (nx : Nat) : Ct G mX12_in d (Same (some (.int (bIn v lo hi))) h nx) [.int v, .int lo, .int hi] h nx := by
  refine Ct.of (ls := [some (.int v), some (.int lo), some (.int hi)]) (by decide +kernel) rfl (Nat.le_of_ble_eq_true rfl) rfl ?_
  refine Ok.iload_n dX12_in_0 rfl ?_
  refine Ok.iload_n dX12_in_1 rfl ?_
  refine Ok.icmp_lt (tgt := 14) dX12_in_2 (by decide) (fun c1 => ?_) (fun c1 => ?_)
  · refine Ok.iconstV (v := nI 0) dX12_in_14 (by decide +kernel) ?_
    exact Ok.zret dX12_in_15 rfl rfl (Nat.zero_le _) (Nat.zero_le _) ⟨congrArg (fun x => some (Value.int x)) (bIn_0l c1).symm, rfl, rfl⟩
  · refine Ok.iload_n dX12_in_5 rfl ?_
    refine Ok.iload_n dX12_in_6 rfl ?_
    refine Ok.icmp_gt (tgt := 14) dX12_in_7 (by decide) (fun c2 => ?_) (fun c2 => ?_)
    · refine Ok.iconstV (v := nI 0) dX12_in_14 (by decide +kernel) ?_
      exact Ok.zret dX12_in_15 rfl rfl (Nat.zero_le _) (Nat.zero_le _) ⟨congrArg (fun x => some (Value.int x)) (bIn_0r c2).symm, rfl, rfl⟩
    · refine Ok.iconstV (v := nI 1) dX12_in_10 (by decide +kernel) ?_
      refine Ok.goto (tgt := 15) dX12_in_11 (by decide) ?_
      exact Ok.zret dX12_in_15 rfl rfl (Nat.zero_le _) (Nat.zero_le _) ⟨congrArg (fun x => some (Value.int x)) (bIn_1 (Int32.not_lt.mp c1) (Int32.not_lt.mp c2)).symm, rfl, rfl⟩
set_option maxRecDepth 100000 in
set_option maxHeartbeats 4000000 in
theorem ct_isSort (G : Gx) (d b : Nat) (st : MS) (k : Int32) (h0 : Hp) (nx : Nat) : Ct G mX12_isSort (d + 1) (Same (some (.int (bIn k 0 (ma st 1 0 - 1)))) (encM G b st h0) nx) [.ref b, .int k] (encM G b st h0) nx := by
  refine Ct.of (ls := [some (.ref b), some (.int k)]) (by decide +kernel) rfl (Nat.le_of_ble_eq_true rfl) rfl ?_
  refine Ok.iload_n dX12_isSort_0 rfl ?_
  refine Ok.iconstV (v := nI 0) dX12_isSort_1 (by decide +kernel) ?_
  refine Ok.aload_n dX12_isSort_2 rfl ?_
  refine Ok.mget_s rfl dX12_isSort_3 ?_
  refine Ok.iconstV (v := nI 0) dX12_isSort_6 (by decide +kernel) ?_
  refine Ok.mald_s dX12_isSort_7 (vp_in_nI (by decide) (by decide)) ?_
  refine Ok.iconstV (v := nI 1) dX12_isSort_8 (by decide +kernel) ?_
  refine Ok.isub dX12_isSort_9 ?_
  refine Ok.callS (My := mX12_in) (n := 3) dX12_isSort_10 (ct_in G d k 0 (ma st 1 0 - 1) _ _) wd1196 wd80 wd1195 wd1194 (by decide) (by decide +kernel) (by decide) rfl rfl (Nat.le_of_ble_eq_true rfl) (Nat.le_of_ble_eq_true rfl) (Nat.le_of_ble_eq_true rfl) (fun v h' nx' q => ?_)
  obtain ⟨rfl, rfl, rfl⟩ := q
  exact Ok.zret dX12_isSort_13 rfl (nar_z (bIn_z _ _ _)) (Nat.zero_le _) (Nat.zero_le _) ⟨rfl, rfl, rfl⟩
set_option maxRecDepth 100000 in
set_option maxHeartbeats 4000000 in
theorem ct_isThing (G : Gx) (d b : Nat) (st : MS) (k : Int32) (h0 : Hp) (nx : Nat) : Ct G mX12_isThing (d + 1) (Same (some (.int (bIn k 0 (ma st 1 1 - 1)))) (encM G b st h0) nx) [.ref b, .int k] (encM G b st h0) nx := by
  refine Ct.of (ls := [some (.ref b), some (.int k)]) (by decide +kernel) rfl (Nat.le_of_ble_eq_true rfl) rfl ?_
  refine Ok.iload_n dX12_isThing_0 rfl ?_
  refine Ok.iconstV (v := nI 0) dX12_isThing_1 (by decide +kernel) ?_
  refine Ok.aload_n dX12_isThing_2 rfl ?_
  refine Ok.mget_s rfl dX12_isThing_3 ?_
  refine Ok.iconstV (v := nI 1) dX12_isThing_6 (by decide +kernel) ?_
  refine Ok.mald_s dX12_isThing_7 (vp_in_nI (by decide) (by decide)) ?_
  refine Ok.iconstV (v := nI 1) dX12_isThing_8 (by decide +kernel) ?_
  refine Ok.isub dX12_isThing_9 ?_
  refine Ok.callS (My := mX12_in) (n := 3) dX12_isThing_10 (ct_in G d k 0 (ma st 1 1 - 1) _ _) wd1196 wd80 wd1195 wd1194 (by decide) (by decide +kernel) (by decide) rfl rfl (Nat.le_of_ble_eq_true rfl) (Nat.le_of_ble_eq_true rfl) (Nat.le_of_ble_eq_true rfl) (fun v h' nx' q => ?_)
  obtain ⟨rfl, rfl, rfl⟩ := q
  exact Ok.zret dX12_isThing_13 rfl (nar_z (bIn_z _ _ _)) (Nat.zero_le _) (Nat.zero_le _) ⟨rfl, rfl, rfl⟩
set_option maxRecDepth 100000 in
set_option maxHeartbeats 4000000 in
theorem ct_isPlan (G : Gx) (d b : Nat) (st : MS) (k : Int32) (h0 : Hp) (nx : Nat) : Ct G mX12_isPlan (d + 1) (Same (some (.int (bIn k 0 (ma st 1 2 - 1)))) (encM G b st h0) nx) [.ref b, .int k] (encM G b st h0) nx := by
  refine Ct.of (ls := [some (.ref b), some (.int k)]) (by decide +kernel) rfl (Nat.le_of_ble_eq_true rfl) rfl ?_
  refine Ok.iload_n dX12_isPlan_0 rfl ?_
  refine Ok.iconstV (v := nI 0) dX12_isPlan_1 (by decide +kernel) ?_
  refine Ok.aload_n dX12_isPlan_2 rfl ?_
  refine Ok.mget_s rfl dX12_isPlan_3 ?_
  refine Ok.iconstV (v := nI 2) dX12_isPlan_6 (by decide +kernel) ?_
  refine Ok.mald_s dX12_isPlan_7 (vp_in_nI (by decide) (by decide)) ?_
  refine Ok.iconstV (v := nI 1) dX12_isPlan_8 (by decide +kernel) ?_
  refine Ok.isub dX12_isPlan_9 ?_
  refine Ok.callS (My := mX12_in) (n := 3) dX12_isPlan_10 (ct_in G d k 0 (ma st 1 2 - 1) _ _) wd1196 wd80 wd1195 wd1194 (by decide) (by decide +kernel) (by decide) rfl rfl (Nat.le_of_ble_eq_true rfl) (Nat.le_of_ble_eq_true rfl) (Nat.le_of_ble_eq_true rfl) (fun v h' nx' q => ?_)
  obtain ⟨rfl, rfl, rfl⟩ := q
  exact Ok.zret dX12_isPlan_13 rfl (nar_z (bIn_z _ _ _)) (Nat.zero_le _) (Nat.zero_le _) ⟨rfl, rfl, rfl⟩
def laterF (x : Int32) : Int32 := if x < 999 then x + 1 else 999
set_option maxRecDepth 100000 in
set_option maxHeartbeats 4000000 in
theorem ct_later (G : Gx) (d : Nat) (x : Int32) (h : Hp) (nx : Nat) : Ct G mX12_later d (Same (some (.int (laterF x))) h nx) [.int x] h nx := by
  refine Ct.of (ls := [some (.int x)]) (by decide +kernel) rfl (Nat.le_of_ble_eq_true rfl) rfl ?_
  refine Ok.iload_n dX12_later_0 rfl ?_
  refine Ok.sipushV (v := nI 999) dX12_later_1 (by decide +kernel) ?_
  refine Ok.icmp_ge (tgt := 13) dX12_later_4 (by decide) (fun c1 => ?_) (fun c1 => ?_)
  · refine Ok.sipushV (v := nI 999) dX12_later_13 (by decide +kernel) ?_
    exact Ok.iret dX12_later_16 rfl (Nat.zero_le _) (Nat.zero_le _) ⟨congrArg (fun x => some (Value.int x)) (if_neg (Int32.not_lt.mpr c1)).symm, rfl, rfl⟩
  · refine Ok.iload_n dX12_later_7 rfl ?_
    refine Ok.iconstV (v := nI 1) dX12_later_8 (by decide +kernel) ?_
    refine Ok.iadd dX12_later_9 ?_
    refine Ok.goto (tgt := 16) dX12_later_10 (by decide) ?_
    exact Ok.iret dX12_later_16 rfl (Nat.zero_le _) (Nat.zero_le _) ⟨congrArg (fun x => some (Value.int x)) (if_pos (Int32.not_le.mp c1)).symm, rfl, rfl⟩
