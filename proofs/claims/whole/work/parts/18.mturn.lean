/-! THE REFERENCE: one after the other; as told -/
def bitI (set : Int32) (t : Nat) : Int32 := set >>> (nI t &&& 31) &&& nI 1
/-- how many are looked at -/
def LkOk (s : Nat → Int32) (nt lk : Nat) : Prop := s 1 = nI nt ∧ nt ≤ 8 ∧ lkF s = nI lk ∧ lk ≤ nt
def tuF (s1 fr : Int32) : Nat → Int32
  | 0 => nI 0
  | n + 1 => tuF s1 fr n ||| (nI 1 <<< ((fr + nI n - (fr + nI n) / s1 * s1) &&& 31))
theorem W.weakQ {p : Program} {l : Launch} {e : Env} {R : Room} {s : State} {m : MethodId} {args : Array Value} {below : List Frame} {meth : Method} {c : Code} {H : Heap} {locs : List Loc} {cells slots : Nat} {Q Q' : State → Prop} {g : JFrame} (k : W p l e R s m args below meth c H locs cells slots Q g) (h : ∀ t, Q t → Q' t) : W p l e R s m args below meth c H locs cells slots Q' g := fun T hT X => by
  obtain ⟨t, a, b⟩ := k T hT X
  exact ⟨t, a, h t b⟩
theorem Ok.weakP {G : Gx} {M : Mt} {d : Nat} {post post' : Po} {pc : Nat} {ls : Lc} {stk : List Value} {h : Hp} {nx kc ks : Nat} (k : Ok G M d post pc ls stk h nx kc ks) (hp : ∀ v h' nx', post v h' nx' → post' v h' nx') : Ok G M d post' pc ls stk h nx kc ks := fun p e s m args below meth c H locs ls0 C hW hS hl =>
  W.weakQ (k p e s m args below meth c H locs ls0 C hW hS hl) (fun t q => by
    obtain ⟨o, q1, q2, ⟨⟨v, h', nx', q3, q4, q5⟩, q6⟩, q7⟩ := q
    exact ⟨o, q1, q2, ⟨⟨v, h', nx', q3, hp _ _ _ q4, q5⟩, q6⟩, q7⟩)
set_option maxRecDepth 100000 in
set_option maxHeartbeats 4000000 in
theorem turned_loop (G : Gx) (d b nt lk : Nat) (fr : Int32) (st : MS) (h0 : Hp) (nx : Nat) (hL : LkOk (ma st 1) nt lk) : ∀ r n : Nat, n + r = lk → Ok G mX12_turned (d + 1) (Same (some (.int (tuF (nI nt) fr lk))) (encM G b st h0) nx) 4 [some (.ref b), some (.int fr), some (.int (tuF (nI nt) fr n)), some (.int (nI n))] [] (encM G b st h0) nx 0 0 := by
  obtain ⟨h1, h2, h3, h4⟩ := hL
  intro r
  induction r with
  | zero =>
    intro n hn
    have hn : n = lk := by omega
    subst hn
    refine Ok.iload_n dX12_turned_4 rfl ?_
    refine Ok.aload_n dX12_turned_5 rfl ?_
    refine Ok.callV (My := mX12_looking) (n := 0) (ci := 12) dX12_turned_6 (ct_looking G d b st h0 nx) encM_0 rfl wd1376 wd80 wd1375 wd52 wd1373 (by decide) (by decide +kernel) (by decide) rfl rfl (Nat.le_of_ble_eq_true rfl) (Nat.le_of_ble_eq_true rfl) (Nat.le_of_ble_eq_true rfl) (fun v h' nx' q => ?_)
    obtain ⟨rfl, rfl, hnx⟩ := q
    subst nx'
    rw [h3]
    refine Ok.icmp_ge (tgt := 33) dX12_turned_9 (by decide) (fun c9 => ?_) (fun c9 => absurd c9 (by rw [nI_leI (by omega) (by omega)]; omega))
    refine Ok.iload_n dX12_turned_33 rfl ?_
    exact Ok.iret dX12_turned_34 rfl (Nat.zero_le _) (Nat.zero_le _) ⟨rfl, rfl, rfl⟩
  | succ r ih =>
    intro n hn
    have hnt : 0 < nt := by omega
    refine Ok.iload_n dX12_turned_4 rfl ?_
    refine Ok.aload_n dX12_turned_5 rfl ?_
    refine Ok.callV (My := mX12_looking) (n := 0) (ci := 12) dX12_turned_6 (ct_looking G d b st h0 nx) encM_0 rfl wd1376 wd80 wd1375 wd52 wd1373 (by decide) (by decide +kernel) (by decide) rfl rfl (Nat.le_of_ble_eq_true rfl) (Nat.le_of_ble_eq_true rfl) (Nat.le_of_ble_eq_true rfl) (fun v h' nx' q => ?_)
    obtain ⟨rfl, rfl, hnx⟩ := q
    subst nx'
    rw [h3]
    refine Ok.icmp_ge (tgt := 33) dX12_turned_9 (by decide) (fun c9 => absurd c9 (by rw [nI_leI (by omega) (by omega)]; omega)) (fun c9 => ?_)
    refine Ok.iload_n dX12_turned_12 rfl ?_
    refine Ok.iconstV (v := nI 1) dX12_turned_13 (by decide +kernel) ?_
    refine Ok.iload_n dX12_turned_14 rfl ?_
    refine Ok.iload_n dX12_turned_15 rfl ?_
    refine Ok.iadd dX12_turned_16 ?_
    refine Ok.aload_n dX12_turned_17 rfl ?_
    refine Ok.mget_s rfl dX12_turned_18 ?_
    refine Ok.iconstV (v := nI 1) dX12_turned_21 (by decide +kernel) ?_
    refine Ok.mald_sN dX12_turned_22 (by omega) h1 ?_
    refine Ok.irem dX12_turned_23 (nI_ne0 hnt (by omega)) ?_
    refine Ok.ishl dX12_turned_24 ?_
    refine Ok.ior dX12_turned_25 ?_
    refine Ok.istore_n dX12_turned_26 (by decide) ?_
    refine Ok.iinc dX12_turned_27 rfl (by decide) ?_
    refine Ok.goto (tgt := 4) dX12_turned_30 (by decide) ?_
    rw [show nI n + Int32.ofInt 1 = nI (n + 1) from nI_1 n]
    exact ih (n + 1) (by omega)
set_option maxRecDepth 100000 in
set_option maxHeartbeats 4000000 in
theorem ct_turned (G : Gx) (d b nt lk : Nat) (fr : Int32) (st : MS) (h0 : Hp) (nx : Nat) (hL : LkOk (ma st 1) nt lk) : Ct G mX12_turned (d + 1) (Same (some (.int (tuF (nI nt) fr lk))) (encM G b st h0) nx) [.ref b, .int fr] (encM G b st h0) nx := by
  refine Ct.of (ls := [some (.ref b), some (.int fr), none, none]) (by decide +kernel) rfl (Nat.le_of_ble_eq_true rfl) rfl ?_
  refine Ok.iconstV (v := nI 0) dX12_turned_0 (by decide +kernel) ?_
  refine Ok.istore_n dX12_turned_1 (by decide) ?_
  refine Ok.iconstV (v := nI 0) dX12_turned_2 (by decide +kernel) ?_
  refine Ok.istore_n dX12_turned_3 (by decide) ?_
  exact turned_loop G d b nt lk fr st h0 nx hL lk 0 (by omega)
def toF (all lk : Int32) : Nat → Int32
  | 0 => nI 0
  | t + 1 => toF all lk t ||| (if bitI all t = nI 1 ∧ cnF (toF all lk t) 8 < lk then nI 1 <<< (nI t &&& 31) else nI 0)
def tdF (s : Nat → Int32) (p dd nt lk : Nat) : Int32 := if sN s (1094 + p) = 0 then nI 0 else toF (s (1110 + 10 * p + dd % sN s (1094 + p))) (nI lk) nt
set_option maxRecDepth 100000 in
set_option maxHeartbeats 4000000 in
theorem told_loop (G : Gx) (d b p dd nt lk : Nat) (al : Int32) (st : MS) (h0 : Hp) (nx : Nat) (hL : LkOk (ma st 1) nt lk) : ∀ (r t : Nat) (x6 : Option Value), t + r = nt → Ok G mX12_toldOn (d + 1) (Same (some (.int (toF al (nI lk) nt))) (encM G b st h0) nx) 48 [some (.ref b), some (.int (nI p)), some (.int (nI dd)), some (.int al), some (.int (toF al (nI lk) t)), some (.int (nI t)), x6] [] (encM G b st h0) nx 0 0 := by
  obtain ⟨h1, h2, h3, h4⟩ := hL
  intro r
  induction r with
  | zero =>
    intro t x6 ht
    have ht : t = nt := by omega
    subst ht
    refine Ok.iload dX12_toldOn_48 rfl ?_
    refine Ok.aload_n dX12_toldOn_50 rfl ?_
    refine Ok.mget_s rfl dX12_toldOn_51 ?_
    refine Ok.iconstV (v := nI 1) dX12_toldOn_54 (by decide +kernel) ?_
    refine Ok.mald_sN dX12_toldOn_55 (by omega) h1 ?_
    refine Ok.icmp_ge (tgt := 112) dX12_toldOn_56 (by decide) (fun c56 => ?_) (fun c56 => absurd c56 (by rw [nI_leI (by omega) (by omega)]; omega))
    refine Ok.iload dX12_toldOn_112 rfl ?_
    exact Ok.iret dX12_toldOn_114 rfl (Nat.zero_le _) (Nat.zero_le _) ⟨rfl, rfl, rfl⟩
  | succ r ih =>
    intro t x6 ht
    have fin : ∀ z : Bool, z = decide (bitI al t = nI 1 ∧ cnF (toF al (nI lk) t) 8 < nI lk) → Ok G mX12_toldOn (d + 1) (Same (some (.int (toF al (nI lk) nt))) (encM G b st h0) nx) 86 [some (.ref b), some (.int (nI p)), some (.int (nI dd)), some (.int al), some (.int (toF al (nI lk) t)), some (.int (nI t)), x6] [.int (b2i z)] (encM G b st h0) nx 0 0 := by
      intro z hz
      refine Ok.istore dX12_toldOn_86 (by decide) ?_
      refine Ok.iload dX12_toldOn_88 rfl ?_
      refine Ok.iload dX12_toldOn_90 rfl ?_
      refine Ok.if_eq (tgt := 102) dX12_toldOn_92 (by decide) (fun c92 => ?_) (fun c92 => ?_)
      · refine Ok.iconstV (v := nI 0) dX12_toldOn_102 (by decide +kernel) ?_
        refine Ok.ior dX12_toldOn_103 ?_
        refine Ok.istore dX12_toldOn_104 (by decide) ?_
        refine Ok.iinc dX12_toldOn_106 rfl (by decide) ?_
        refine Ok.goto (tgt := 48) dX12_toldOn_109 (by decide) ?_
        rw [show nI t + Int32.ofInt 1 = nI (t + 1) from nI_1 t]
        exact (ih (t + 1) _ (by omega)).eql (by show lst1 _ _ _ = _; rw [show toF al (nI lk) (t + 1) = _ from congrArg (fun y => toF al (nI lk) t ||| y) (if_neg (fun q => by rw [decide_eq_true q, b2i_eq c92] at hz; cases hz))]; rfl)
      · refine Ok.iconstV (v := nI 1) dX12_toldOn_95 (by decide +kernel) ?_
        refine Ok.iload dX12_toldOn_96 rfl ?_
        refine Ok.ishl dX12_toldOn_98 ?_
        refine Ok.goto (tgt := 103) dX12_toldOn_99 (by decide) ?_
        refine Ok.ior dX12_toldOn_103 ?_
        refine Ok.istore dX12_toldOn_104 (by decide) ?_
        refine Ok.iinc dX12_toldOn_106 rfl (by decide) ?_
        refine Ok.goto (tgt := 48) dX12_toldOn_109 (by decide) ?_
        rw [show nI t + Int32.ofInt 1 = nI (t + 1) from nI_1 t]
        exact (ih (t + 1) _ (by omega)).eql (by show lst1 _ _ _ = _; rw [show toF al (nI lk) (t + 1) = _ from congrArg (fun y => toF al (nI lk) t ||| y) (if_pos (of_decide_eq_true (hz.symm.trans (b2i_ne c92))))]; rfl)
    refine Ok.iload dX12_toldOn_48 rfl ?_
    refine Ok.aload_n dX12_toldOn_50 rfl ?_
    refine Ok.mget_s rfl dX12_toldOn_51 ?_
    refine Ok.iconstV (v := nI 1) dX12_toldOn_54 (by decide +kernel) ?_
    refine Ok.mald_sN dX12_toldOn_55 (by omega) h1 ?_
    refine Ok.icmp_ge (tgt := 112) dX12_toldOn_56 (by decide) (fun c56 => absurd c56 (by rw [nI_leI (by omega) (by omega)]; omega)) (fun c56 => ?_)
    refine Ok.iload_n dX12_toldOn_59 rfl ?_
    refine Ok.iload dX12_toldOn_60 rfl ?_
    refine Ok.ishr dX12_toldOn_62 ?_
    refine Ok.iconstV (v := nI 1) dX12_toldOn_63 (by decide +kernel) ?_
    refine Ok.iand dX12_toldOn_64 ?_
    refine Ok.iconstV (v := nI 1) dX12_toldOn_65 (by decide +kernel) ?_
    refine Ok.icmp_ne (tgt := 85) dX12_toldOn_66 (by decide) (fun c66 => ?_) (fun c66 => ?_)
    · refine Ok.iconstV (v := nI 0) dX12_toldOn_85 (by decide +kernel) ?_
      exact fin false (decide_eq_false (fun q => c66 q.1)).symm
    · refine Ok.iload dX12_toldOn_69 rfl ?_
      refine Ok.callS (My := mX12_count1) (n := 1) dX12_toldOn_71 (ct_count1 G d (toF al (nI lk) t) _ _) wd1387 wd80 wd1386 wd1385 (by decide) (by decide +kernel) (by decide) rfl rfl (Nat.le_of_ble_eq_true rfl) (Nat.le_of_ble_eq_true rfl) (Nat.le_of_ble_eq_true rfl) (fun v h' nx' q => ?_)
      obtain ⟨rfl, rfl, hnx⟩ := q
      subst nx'
      refine Ok.aload_n dX12_toldOn_74 rfl ?_
      refine Ok.callV (My := mX12_looking) (n := 0) (ci := 12) dX12_toldOn_75 (ct_looking G d b st h0 nx) encM_0 rfl wd1376 wd80 wd1375 wd52 wd1373 (by decide) (by decide +kernel) (by decide) rfl rfl (Nat.le_of_ble_eq_true rfl) (Nat.le_of_ble_eq_true rfl) (Nat.le_of_ble_eq_true rfl) (fun v h' nx' q => ?_)
      obtain ⟨rfl, rfl, hnx⟩ := q
      subst nx'
      rw [h3]
      refine Ok.icmp_ge (tgt := 85) dX12_toldOn_78 (by decide) (fun c78 => ?_) (fun c78 => ?_)
      · refine Ok.iconstV (v := nI 0) dX12_toldOn_85 (by decide +kernel) ?_
        exact fin false (decide_eq_false (fun q => Int32.not_lt.mpr c78 q.2)).symm
      · refine Ok.iconstV (v := nI 1) dX12_toldOn_81 (by decide +kernel) ?_
        refine Ok.goto (tgt := 86) dX12_toldOn_82 (by decide) ?_
        exact fin true (decide_eq_true ⟨c66, Int32.not_le.mp c78⟩).symm
set_option maxRecDepth 100000 in
set_option maxHeartbeats 4000000 in
theorem ct_toldOn (G : Gx) (d b p dd nt lk : Nat) (st : MS) (h0 : Hp) (nx : Nat) (hL : LkOk (ma st 1) nt lk) (hp : p < 12) (hr : ma st 1 (1094 + p) = nI (sN (ma st 1) (1094 + p))) (hr10 : sN (ma st 1) (1094 + p) ≤ 10) (hd : dd < 2 ^ 31) : Ct G mX12_toldOn (d + 1) (Same (some (.int (tdF (ma st 1) p dd nt lk))) (encM G b st h0) nx) [.ref b, .int (nI p), .int (nI dd)] (encM G b st h0) nx := by
  refine Ct.of (ls := [some (.ref b), some (.int (nI p)), some (.int (nI dd)), none, none, none, none]) (by decide +kernel) rfl (Nat.le_of_ble_eq_true rfl) rfl ?_
  refine Ok.aload_n dX12_toldOn_0 rfl ?_
  refine Ok.mget_s rfl dX12_toldOn_1 ?_
  refine Ok.sipushV (v := nI 1094) dX12_toldOn_4 (by decide +kernel) ?_
  refine Ok.iload_n dX12_toldOn_7 rfl ?_
  refine Ok.iaddN dX12_toldOn_8 ?_
  refine Ok.mald_sN dX12_toldOn_9 (by omega) hr ?_
  refine Ok.if_ne (tgt := 15) dX12_toldOn_10 (by decide) (fun c10 => ?_) (fun c10 => ?_)
  · refine Ok.aload_n dX12_toldOn_15 rfl ?_
    refine Ok.mget_s rfl dX12_toldOn_16 ?_
    refine Ok.sipushV (v := nI 1110) dX12_toldOn_19 (by decide +kernel) ?_
    refine Ok.bipushV (v := nI 10) dX12_toldOn_22 (by decide +kernel) ?_
    refine Ok.iload_n dX12_toldOn_24 rfl ?_
    refine Ok.imulN dX12_toldOn_25 ?_
    refine Ok.iaddN dX12_toldOn_26 ?_
    refine Ok.iload_n dX12_toldOn_27 rfl ?_
    refine Ok.aload_n dX12_toldOn_28 rfl ?_
    refine Ok.mget_s rfl dX12_toldOn_29 ?_
    refine Ok.sipushV (v := nI 1094) dX12_toldOn_32 (by decide +kernel) ?_
    refine Ok.iload_n dX12_toldOn_35 rfl ?_
    refine Ok.iaddN dX12_toldOn_36 ?_
    refine Ok.mald_sN dX12_toldOn_37 (by omega) hr ?_
    have n0 : ¬ sN (ma st 1) (1094 + p) = 0 := fun q => c10 (by rw [q]; rfl)
    refine Ok.iremN (by omega) (by omega) (by omega) dX12_toldOn_38 ?_
    refine Ok.iaddN dX12_toldOn_39 ?_
    have hm : dd % sN (ma st 1) (1094 + p) < sN (ma st 1) (1094 + p) := Nat.mod_lt _ (by omega)
    refine Ok.mald_sN dX12_toldOn_40 (by omega) rfl ?_
    refine Ok.istore_n dX12_toldOn_41 (by decide) ?_
    refine Ok.iconstV (v := nI 0) dX12_toldOn_42 (by decide +kernel) ?_
    refine Ok.istore dX12_toldOn_43 (by decide) ?_
    refine Ok.iconstV (v := nI 0) dX12_toldOn_45 (by decide +kernel) ?_
    refine Ok.istore dX12_toldOn_46 (by decide) ?_
    exact (told_loop G d b p dd nt lk (ma st 1 (1110 + 10 * p + dd % sN (ma st 1) (1094 + p))) st h0 nx hL nt 0 none (by omega)).weakP (fun v h' nx' q => ⟨q.1.trans (congrArg (fun x => some (Value.int x)) (Eq.symm (if_neg n0))), q.2⟩)
  · refine Ok.iconstV (v := nI 0) dX12_toldOn_13 (by decide +kernel) ?_
    exact Ok.iret dX12_toldOn_14 rfl (Nat.zero_le _) (Nat.zero_le _) ⟨congrArg (fun x => some (Value.int x)) (Eq.symm (if_pos ((nI_eq (a := sN (ma st 1) (1094 + p)) (b := 0) (by omega) (by decide)).mp c10))), rfl, rfl⟩
