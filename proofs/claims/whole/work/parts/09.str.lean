/-! TEXTS: what length and charAt of the twelve constants answer -/
section ST
variable {G : Gx} {M My : Mt} {d : Nat} {post post' : Po} {pc : Nat} {ls : Lc} {stk : List Value} {h : Hp} {nx kc ks : Nat} {β : Type} {R : β}
theorem Cx.tx {p : Program} {s : State} {m : MethodId} {args : Array Value} {meth : Method} {c : Code} (C : Cx G M p s m args meth c) : tx_RO G s s.heap := C.2.2.2.2.2.2.2.2.2.2.2.2.1
theorem Ok.sgetV {i k : Nat} (hd : decode (m_cc M) pc = .ok (.getfield i, 3)) (hk : k < 12) (hlink : Cond.fieldLink (m_own M) i "java/lang/String" "value" "[B" ∈ tbG) (kk : Ok G M d post (pc + 3) ls (.ref (g_sV G k) :: stk) h nx kc ks) : Ok G M d post pc ls (.ref (g_sK G k) :: stk) h nx kc ks := by
  intro p e s m args below meth c H locs ls0 C hW hS hl
  exact vk_getf (ref := "java/lang/String") C.1 C.2.1 (C.tx.1.1 k hk).2.2.1 hS C.2.2.2.2.1 (C.w hlink) (fun x hx => hx) hd (kk p e s m args below meth c H locs ls0 C hW hS hl)
theorem Ok.sgetC {i k : Nat} (hd : decode (m_cc M) pc = .ok (.getfield i, 3)) (hk : k < 12) (hlink : Cond.fieldLink (m_own M) i "java/lang/String" "coder" "B" ∈ tbG) (kk : Ok G M d post (pc + 3) ls (.int 0 :: stk) h nx kc ks) : Ok G M d post pc ls (.ref (g_sK G k) :: stk) h nx kc ks := by
  intro p e s m args below meth c H locs ls0 C hW hS hl
  exact vk_getf (ref := "java/lang/String") C.1 C.2.1 (C.tx.1.1 k hk).2.1 hS C.2.2.2.2.1 (C.w hlink) (fun x hx => hx) hd (kk p e s m args below meth c H locs ls0 C hW hS hl)
theorem Ok.stlen {k : Nat} (hd : decode (m_cc M) pc = .ok (.arraylength, 1)) (hk : k < 12) (kk : Ok G M d post (pc + 1) ls (.int (nI (txN.getD k 0)) :: stk) h nx kc ks) : Ok G M d post pc ls (.ref (g_sV G k) :: stk) h nx kc ks := by
  intro p e s m args below meth c H locs ls0 C hW hS hl
  exact va_tlen C.1 C.2.1 (C.tx.1.1 k hk).2.2.2 hS (v := nI (txN.getD k 0)) rfl hd (kk p e s m args below meth c H locs ls0 C hW hS hl)
theorem Ok.stbald {k : Nat} {i : Int32} (hd : decode (m_cc M) pc = .ok (.baload, 1)) (hk : k < 12) (hi : vp_in i (txN.getD k 0)) (kk : Ok G M d post (pc + 1) ls (.int ((txB.getD k []).getD i.toNatClampNeg 0) :: stk) h nx kc ks) : Ok G M d post pc ls (.int i :: .ref (g_sV G k) :: stk) h nx kc ks := by
  intro p e s m args below meth c H locs ls0 C hW hS hl
  exact va_tb C.1 C.2.1 (C.tx.1.1 k hk).2.2.2 hS hi (v := .int ((txB.getD k []).getD i.toNatClampNeg 0)) rfl hd (kk p e s m args below meth c H locs ls0 C hW hS hl)
theorem Ok.getZ {i : Nat} (hd : decode (m_cc M) pc = .ok (.getstatic i, 3)) (hlink : Cond.fieldLink (m_own M) i "java/lang/String" "COMPACT_STRINGS" "Z" ∈ tbG) (kk : Ok G M d post (pc + 3) ls (.int 1 :: stk) h nx kc ks) : Ok G M d post pc ls stk h nx kc ks := by
  intro p e s m args below meth c H locs ls0 C hW hS hl
  exact va_gets (ref := "java/lang/String") C.1 C.2.1 C.tx.2.2.1 hS C.2.2.2.2.1 (C.w hlink) (fun x hx => hx) hd (kk p e s m args below meth c H locs ls0 C hW hS hl)
theorem Ok.getQ {i : Nat} (hd : decode (m_cc M) pc = .ok (.getstatic i, 3)) (hlink : Cond.fieldLink (m_own M) i "jdk/internal/util/Preconditions" "SIOOBE_FORMATTER" "Ljava/util/function/BiFunction;" ∈ tbG) (kk : ∀ r : Option Nat, Ok G M d post (pc + 3) ls (va_rf r :: stk) h nx kc ks) : Ok G M d post pc ls stk h nx kc ks := by
  intro p e s m args below meth c H locs ls0 C hW hS hl
  rcases C.tx.2.2.2 with q | ⟨t, q⟩
  · exact va_gets (ref := "jdk/internal/util/Preconditions") C.1 C.2.1 q hS C.2.2.2.2.1 (C.w hlink) (fun x hx => hx) hd (kk none p e s m args below meth c H locs ls0 C hW hS hl)
  · exact va_gets (ref := "jdk/internal/util/Preconditions") C.1 C.2.1 q hS C.2.2.2.2.1 (C.w hlink) (fun x hx => hx) hd (kk (some t) p e s m args below meth c H locs ls0 C hW hS hl)
/-- a method of a text -/
theorem Ok.callT {i n k : Nat} {As rest : List Value} (hd : decode (m_cc M) pc = .ok (.invokevirtual i, 3)) (hC : Ct G My d post' (.ref (g_sK G k) :: As) h nx) (hk : k < 12) (hcode : Cond.code (m_y My) (m_cc My) (m_nL My) (m_rt My) ∈ tbG) (hini : Cond.initialized (m_y My).cls ∈ tbG) (hin : Cond.instanceMethod (m_y My) ∈ tbG) (hsel : Cond.selects "java/lang/String" (m_y My) (m_y My) ∈ tbG) (hlink : Cond.methodLink (m_own M) i (m_y My) ∈ tbG) (hy : (m_y My).cls ≠ "java/lang/invoke/MethodHandle" ∧ (m_y My).cls ≠ "java/lang/invoke/VarHandle") (hlen : (parseMethodDescriptor (m_y My).desc).map (fun d => d.parameters.length) = some n) (hloc : m_nL My ≤ 29) (hn : As.length = n) (hstk : stk = As.reverse ++ .ref (g_sK G k) :: rest) (hr : (rest.map fun v => v.category).sum ≤ 8) (h1 : kc + m_mc My ≤ m_mc M) (h2 : ks + m_ms My ≤ m_ms M)
    (kk : ∀ (v : Option Value) (h' : Hp) (nx' : Nat), post' v h' nx' → Ok G M (d + 1) post (pc + 3) ls (v.toList ++ rest) h' nx' (kc + m_mc My) (ks + m_ms My)) : Ok G M (d + 1) post pc ls stk h nx kc ks := by
  intro p e s m args below meth c H locs ls0 C hW hS hl
  subst hstk
  exact call_fin hS (va_runV ⟨C.1, C.2.1, C.2.2.2.1, C.2.2.2.2.1, C.2.2.2.2.2.1⟩ hC ⟨cb_of C hcode hini hy hlen hlink hloc, C.w hin, C.w hsel⟩ ⟨Pc_blind, vk_recv C.tx.1 hk hS, pre_of C hW hS⟩ rfl hn hl.1 rfl (rest_ok hr) hd ⟨h1, h2⟩) (fun v h' nx' q H1 locs1 w1 s1 => kk v h' nx' q p e s m args below meth c H1 locs1 ls0 C w1 s1 hl)
theorem tx_ch : ∀ k, k < 12 → ∀ j, j < txN.getD k 0 → (((txB.getD k []).getD j 0 &&& nI 255).toUInt32 % 65536).toInt32 = (txB.getD k []).getD j 0 := by decide +kernel
theorem tx_len : ∀ k, k < 12 → txN.getD k 0 < 10 := by decide +kernel
set_option maxRecDepth 100000 in
set_option maxHeartbeats 4000000 in
theorem ct_coder (G : Gx) (d k : Nat) (h : Hp) (nx : Nat) (hk : k < 12) : Ct G mJ0_coder_7d493 d (Same (some (.int 0)) h nx) [.ref (g_sK G k)] h nx := by
  refine Ct.of (ls := [some (.ref (g_sK G k))]) (by decide +kernel) rfl (Nat.le_of_ble_eq_true rfl) rfl ?_
  refine Ok.getZ dJ0_coder_7d493_0 wd414 ?_
  refine Ok.if_eq (tgt := 13) dJ0_coder_7d493_3 (by decide) (fun c => absurd c (by decide)) (fun _ => ?_)
  refine Ok.aload_n dJ0_coder_7d493_6 rfl ?_
  refine Ok.sgetC dJ0_coder_7d493_7 hk wd1545 ?_
  refine Ok.goto (tgt := 14) dJ0_coder_7d493_10 (by decide) ?_
  exact Ok.zret (ty := .byte) dJ0_coder_7d493_14 rfl rfl (Nat.zero_le _) (Nat.zero_le _) ⟨rfl, rfl, rfl⟩
set_option maxRecDepth 100000 in
set_option maxHeartbeats 4000000 in
theorem ct_isLatin1 (G : Gx) (d k : Nat) (h : Hp) (nx : Nat) (hk : k < 12) : Ct G mJ0_isLatin1_aae02 d (Same (some (.int 1)) h nx) [.ref (g_sK G k)] h nx := by
  refine Ct.of (ls := [some (.ref (g_sK G k))]) (by decide +kernel) rfl (Nat.le_of_ble_eq_true rfl) rfl ?_
  refine Ok.getZ dJ0_isLatin1_aae02_0 wd414 ?_
  refine Ok.if_eq (tgt := 17) dJ0_isLatin1_aae02_3 (by decide) (fun c => absurd c (by decide)) (fun _ => ?_)
  refine Ok.aload_n dJ0_isLatin1_aae02_6 rfl ?_
  refine Ok.sgetC dJ0_isLatin1_aae02_7 hk wd1545 ?_
  refine Ok.if_ne (tgt := 17) dJ0_isLatin1_aae02_10 (by decide) (fun c => absurd rfl c) (fun _ => ?_)
  refine Ok.iconstV (v := 1) dJ0_isLatin1_aae02_13 (by decide +kernel) ?_
  refine Ok.goto (tgt := 18) dJ0_isLatin1_aae02_14 (by decide) ?_
  exact Ok.zret (ty := .boolean) dJ0_isLatin1_aae02_18 rfl rfl (Nat.zero_le _) (Nat.zero_le _) ⟨rfl, rfl, rfl⟩
set_option maxRecDepth 100000 in
set_option maxHeartbeats 4000000 in
theorem ct_length (G : Gx) (d k : Nat) (h : Hp) (nx : Nat) (hk : k < 12) : Ct G mJ0_length_8abf5 (d + 1) (Same (some (.int (nI (txN.getD k 0)))) h nx) [.ref (g_sK G k)] h nx := by
  refine Ct.of (ls := [some (.ref (g_sK G k))]) (by decide +kernel) rfl (Nat.le_of_ble_eq_true rfl) rfl ?_
  refine Ok.aload_n dJ0_length_8abf5_0 rfl ?_
  refine Ok.sgetV dJ0_length_8abf5_1 hk wd1544 ?_
  refine Ok.stlen dJ0_length_8abf5_4 hk ?_
  refine Ok.aload_n dJ0_length_8abf5_5 rfl ?_
  refine Ok.callT (My := mJ0_coder_7d493) (n := 0) (As := []) dJ0_length_8abf5_6 (ct_coder G d k h nx hk) hk wd413 wd85 wd411 wd412 wd410 (by decide +kernel) (by decide +kernel) (by decide) rfl rfl (Nat.le_of_ble_eq_true rfl) (Nat.le_of_ble_eq_true rfl) (Nat.le_of_ble_eq_true rfl) (fun v h1 n1 q => ?_)
  obtain ⟨rfl, rfl, rfl⟩ := q
  refine Ok.ishr dJ0_length_8abf5_9 ?_
  exact Ok.iret dJ0_length_8abf5_10 rfl (Nat.zero_le _) (Nat.zero_le _) ⟨congrArg (fun x => some (Value.int x)) ((show ∀ k, k < 12 → nI (txN.getD k 0) >>> ((0 : Int32) &&& 31) = nI (txN.getD k 0) by decide +kernel) k hk), rfl, rfl⟩
set_option maxRecDepth 100000 in
set_option maxHeartbeats 4000000 in
theorem ct_ci3 (G : Gx) (d : Nat) (i : Int32) (n : Nat) (r : Option Nat) (h : Hp) (nx : Nat) (hi : vp_in i n) (hn : n < 2 ^ 31) : Ct G mJ3_checkIndex_8e157 d (Same (some (.int i)) h nx) [.int i, .int (nI n), va_rf r] h nx := by
  have h1 : ¬ i < 0 := fun q => hi (Or.inl q)
  obtain ⟨j, hj, rfl⟩ := nI_of h1
  have hjn : j < n := by
    have q : ¬ n ≤ (nI j).toNatClampNeg := fun q => hi (Or.inr q)
    rw [nI_clamp hj] at q
    omega
  refine Ct.of (ls := [some (.int (nI j)), some (.int (nI n)), some (va_rf r)]) (by decide +kernel) rfl (by cases r <;> exact Nat.le_of_ble_eq_true rfl) (by cases r <;> rfl) ?_
  refine Ok.iload_n dJ3_checkIndex_8e157_0 rfl ?_
  refine Ok.if_lt (tgt := 9) dJ3_checkIndex_8e157_1 (by decide) (fun c => absurd c h1) (fun _ => ?_)
  refine Ok.iload_n dJ3_checkIndex_8e157_4 rfl ?_
  refine Ok.iload_n dJ3_checkIndex_8e157_5 rfl ?_
  refine Ok.icmp_lt (tgt := 16) dJ3_checkIndex_8e157_6 (by decide) (fun _ => ?_) (fun c => absurd (nI_lt hjn hn) c)
  refine Ok.iload_n dJ3_checkIndex_8e157_16 rfl ?_
  exact Ok.iret dJ3_checkIndex_8e157_17 rfl (Nat.zero_le _) (Nat.zero_le _) ⟨rfl, rfl, rfl⟩
set_option maxRecDepth 100000 in
set_option maxHeartbeats 4000000 in
theorem ct_ci0 (G : Gx) (d : Nat) (i : Int32) (n : Nat) (h : Hp) (nx : Nat) (hi : vp_in i n) (hn : n < 2 ^ 31) : Ct G mJ0_checkIndex_df160 (d + 1) (Same none h nx) [.int i, .int (nI n)] h nx := by
  refine Ct.of (ls := [some (.int i), some (.int (nI n))]) (by decide +kernel) rfl (Nat.le_of_ble_eq_true rfl) rfl ?_
  refine Ok.iload_n dJ0_checkIndex_df160_0 rfl ?_
  refine Ok.iload_n dJ0_checkIndex_df160_1 rfl ?_
  refine Ok.getQ dJ0_checkIndex_df160_2 wd430 (fun r => ?_)
  refine Ok.callS (My := mJ3_checkIndex_8e157) (n := 3) (As := [.int i, .int (nI n), va_rf r]) dJ0_checkIndex_df160_5 (ct_ci3 G d i n r h nx hi hn) wd434 wd87 wd433 wd432 (by decide +kernel) (by decide +kernel) (by decide) rfl rfl (Nat.le_of_ble_eq_true rfl) (Nat.le_of_ble_eq_true rfl) (Nat.le_of_ble_eq_true rfl) (fun v h1 n1 q => ?_)
  obtain ⟨rfl, rfl, rfl⟩ := q
  refine Ok.pop dJ0_checkIndex_df160_8 rfl ?_
  exact Ok.vret dJ0_checkIndex_df160_9 rfl (Nat.zero_le _) (Nat.zero_le _) ⟨rfl, rfl, rfl⟩
set_option maxRecDepth 100000 in
set_option maxHeartbeats 4000000 in
theorem ct_lat (G : Gx) (d k : Nat) (i : Int32) (h : Hp) (nx : Nat) (hk : k < 12) (hi : vp_in i (txN.getD k 0)) : Ct G mJ1_charAt_3b067 (d + 2) (Same (some (.int ((txB.getD k []).getD i.toNatClampNeg 0))) h nx) [.ref (g_sV G k), .int i] h nx := by
  have hL := tx_len k hk
  have hch := tx_ch k hk i.toNatClampNeg (Nat.not_le.mp (fun q => hi (Or.inr q)))
  refine Ct.of (ls := [some (.ref (g_sV G k)), some (.int i)]) (by decide +kernel) rfl (Nat.le_of_ble_eq_true rfl) rfl ?_
  refine Ok.iload_n dJ1_charAt_3b067_0 rfl ?_
  refine Ok.aload_n dJ1_charAt_3b067_1 rfl ?_
  refine Ok.stlen dJ1_charAt_3b067_2 hk ?_
  refine Ok.callS (My := mJ0_checkIndex_df160) (n := 2) (As := [.int i, .int (nI (txN.getD k 0))]) dJ1_charAt_3b067_3 (ct_ci0 G d i (txN.getD k 0) h nx hi (by omega)) wd429 wd85 wd428 wd427 (by decide +kernel) (by decide +kernel) (by decide) rfl rfl (Nat.le_of_ble_eq_true rfl) (Nat.le_of_ble_eq_true rfl) (Nat.le_of_ble_eq_true rfl) (fun v h1 n1 q => ?_)
  obtain ⟨rfl, rfl, rfl⟩ := q
  refine Ok.aload_n dJ1_charAt_3b067_6 rfl ?_
  refine Ok.iload_n dJ1_charAt_3b067_7 rfl ?_
  refine Ok.stbald dJ1_charAt_3b067_8 hk hi ?_
  refine Ok.sipushV (v := nI 255) dJ1_charAt_3b067_9 (by decide +kernel) ?_
  refine Ok.iand dJ1_charAt_3b067_12 ?_
  refine Ok.i2c dJ1_charAt_3b067_13 ?_
  rw [hch]
  exact Ok.zret (ty := .char) dJ1_charAt_3b067_14 rfl ((congrArg (fun x => narrow .char (.int x)) hch.symm).trans ((show ∀ k, k < 12 → ∀ j, j < txN.getD k 0 → narrow .char (.int (((txB.getD k []).getD j 0 &&& nI 255).toUInt32 % 65536).toInt32) = .int ((txB.getD k []).getD j 0) by decide +kernel) k hk _ (Nat.not_le.mp (fun q => hi (Or.inr q))))) (Nat.zero_le _) (Nat.zero_le _) ⟨rfl, rfl, rfl⟩
set_option maxRecDepth 100000 in
set_option maxHeartbeats 4000000 in
theorem ct_charAt (G : Gx) (d k : Nat) (i : Int32) (h : Hp) (nx : Nat) (hk : k < 12) (hi : vp_in i (txN.getD k 0)) : Ct G mJ0_charAt_5068e (d + 3) (Same (some (.int ((txB.getD k []).getD i.toNatClampNeg 0))) h nx) [.ref (g_sK G k), .int i] h nx := by
  refine Ct.of (ls := [some (.ref (g_sK G k)), some (.int i)]) (by decide +kernel) rfl (Nat.le_of_ble_eq_true rfl) rfl ?_
  refine Ok.aload_n dJ0_charAt_5068e_0 rfl ?_
  refine Ok.callT (My := mJ0_isLatin1_aae02) (n := 0) (As := []) dJ0_charAt_5068e_1 (ct_isLatin1 G (d + 2) k h nx hk) hk wd423 wd85 wd421 wd422 wd420 (by decide +kernel) (by decide +kernel) (by decide) rfl rfl (Nat.le_of_ble_eq_true rfl) (Nat.le_of_ble_eq_true rfl) (Nat.le_of_ble_eq_true rfl) (fun v h1 n1 q => ?_)
  obtain ⟨rfl, rfl, rfl⟩ := q
  refine Ok.if_eq (tgt := 16) dJ0_charAt_5068e_4 (by decide) (fun c => absurd c (by decide)) (fun _ => ?_)
  refine Ok.aload_n dJ0_charAt_5068e_7 rfl ?_
  refine Ok.sgetV dJ0_charAt_5068e_8 hk wd1544 ?_
  refine Ok.iload_n dJ0_charAt_5068e_11 rfl ?_
  refine Ok.callS (My := mJ1_charAt_3b067) (n := 2) (As := [.ref (g_sV G k), .int i]) dJ0_charAt_5068e_12 (ct_lat G d k i h1 n1 hk hi) wd426 wd86 wd425 wd424 (by decide +kernel) (by decide +kernel) (by decide) rfl rfl (Nat.le_of_ble_eq_true rfl) (Nat.le_of_ble_eq_true rfl) (Nat.le_of_ble_eq_true rfl) (fun v h1 n1 q => ?_)
  obtain ⟨rfl, rfl, rfl⟩ := q
  have hch := tx_ch k hk i.toNatClampNeg (Nat.not_le.mp (fun q => hi (Or.inr q)))
  exact Ok.zret (ty := .char) dJ0_charAt_5068e_15 rfl ((congrArg (fun x => narrow .char (.int x)) hch.symm).trans ((show ∀ k, k < 12 → ∀ j, j < txN.getD k 0 → narrow .char (.int (((txB.getD k []).getD j 0 &&& nI 255).toUInt32 % 65536).toInt32) = .int ((txB.getD k []).getD j 0) by decide +kernel) k hk _ (Nat.not_le.mp (fun q => hi (Or.inr q))))) (Nat.zero_le _) (Nat.zero_le _) ⟨rfl, rfl, rfl⟩
theorem X.rstL {i k : Nat} {f : Int32 → Option β} (hd : decode (m_cc M) pc = .ok (.invokevirtual i, 3)) (hlink : Cond.methodLink (m_own M) i yJ0_length_8abf5 ∈ tbG) (hmc : kc ≤ m_mc M ∧ ks ≤ m_ms M) (hr : (stk.map fun v => v.category).sum ≤ 8) (e : stL k f = some R) (kk : ∀ x : Int32, f x = some R → Ok G M (d + 2) post (pc + 3) ls (.int x :: stk) h nx kc ks) : Ok G M (d + 2) post pc ls (.ref (g_sK G k) :: stk) h nx kc ks := by
  unfold stL at e
  split at e
  · rename_i hk
    refine Ok.callT (My := mJ0_length_8abf5) (n := 0) (As := []) hd (ct_length G d k h nx hk) hk wd409 wd85 wd407 wd408 hlink (by decide +kernel) (by decide +kernel) (by decide) rfl rfl hr hmc.1 hmc.2 (fun v h1 n1 q => ?_)
    obtain ⟨rfl, rfl, rfl⟩ := q
    exact kk _ e
  · cases e
theorem X.rstC {i k : Nat} {j : Int32} {f : Int32 → Option β} (hd : decode (m_cc M) pc = .ok (.invokevirtual i, 3)) (hlink : Cond.methodLink (m_own M) i yJ0_charAt_5068e ∈ tbG) (hmc : kc ≤ m_mc M ∧ ks ≤ m_ms M) (hr : (stk.map fun v => v.category).sum ≤ 8) (e : stC k j f = some R) (kk : ∀ x : Int32, f x = some R → Ok G M (d + 4) post (pc + 3) ls (.int x :: stk) h nx kc ks) : Ok G M (d + 4) post pc ls (.int j :: .ref (g_sK G k) :: stk) h nx kc ks := by
  unfold stC at e
  split at e
  · rename_i c
    refine Ok.callT (My := mJ0_charAt_5068e) (n := 1) (As := [.int j]) hd (ct_charAt G d k j h nx c.1 c.2) c.1 wd419 wd85 wd417 wd418 hlink (by decide +kernel) (by decide +kernel) (by decide) rfl rfl hr hmc.1 hmc.2 (fun v h1 n1 q => ?_)
    obtain ⟨rfl, rfl, rfl⟩ := q
    exact kk _ e
  · cases e
end ST
