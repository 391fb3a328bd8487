/-! THE REFERENCE: whom a plan looks at -/
def KW : List Nat := [9, 12, 13, 19] ++ KB
theorem KW_1 : 1 ∉ KW := by decide
theorem KW_10 : 10 ∉ KW := by decide
theorem KW_11 : 11 ∉ KW := by decide
/-- a PLAN's kind and number -/
def PlOk (s : Nat → Int32) (p : Nat) : Prop := p < 12 ∧ s (1070 + p) = nI (sN s (1070 + p)) ∧ sN s (1070 + p) ≤ 6 ∧ s (1082 + p) = nI (sN s (1082 + p)) ∧ sN s (1082 + p) ≤ 99
def woF (st : MS) (p t : Nat) : Int32 :=
  if sN (ma st 1) (1070 + p) = 1 then wgF (nmF st t (1 + sN (ma st 1) (1082 + p) % 3))
  else if sN (ma st 1) (1070 + p) = 3 then nI 1000000 - ma st 1 (1034 + t)
  else if sN (ma st 1) (1070 + p) = 5 then ma st 1 (1042 + t)
  else nI 0
theorem Ok.iremN {G : Gx} {M : Mt} {d : Nat} {post : Po} {pc : Nat} {ls : Lc} {stk : List Value} {h : Hp} {nx kc ks : Nat} {x y : Nat} (hx : x < 2 ^ 31) (h0 : 0 < y) (hy : y < 2 ^ 31) (hd : decode (m_cc M) pc = .ok (.irem, 1)) (k : Ok G M d post (pc + 1) ls (.int (nI (x % y)) :: stk) h nx kc ks) : Ok G M d post pc ls (.int (nI y) :: .int (nI x) :: stk) h nx kc ks :=
  Ok.irem hd (nI_ne0 h0 hy) (by rw [pk_rem hx h0 hy]; exact k)
theorem nmF_fr {st st1 : MS} {ks : List Nat} (h : FrM ks st st1) (h1 : 1 ∉ ks) (h2 : 10 ∉ ks) (h3 : 11 ∉ ks) {t n : Nat} (hn : n ≤ 8) : nmF st1 t n = nmF st t n := by
  have eo := overF_fr h h1 h2 h3
  have ek : ∀ kk j, rowK st1 t kk j = rowK st t kk j := by
    intro kk j
    induction j with
    | zero =>
      unfold rowK rowSt
      rw [h.ofa 1 h1, eo]
    | succ j ih =>
      unfold rowK
      rw [ih, eo]
  unfold nmF
  refine congrArg (fun f => srch f 0 201) (funext fun w => ?_)
  unfold nwF
  rw [bP_cg (st := msi (rwS st t) 20 (nI w)) (st1 := msi (rwS st1 t) 20 (nI w)) (h.ofa 1 h1) (mi_msi_s.trans mi_msi_s.symm) (fun i hi => by
    have e : ∀ z : MS, ma (rwS z t) 12 = fun i => (rowK z t (i / 9) (i % 9)).1 := fun z => ma_msa_s (st := z) (k := 12) (f := fun i => (rowK z t (i / 9) (i % 9)).1)
    show ma (rwS st1 t) 12 i = ma (rwS st t) 12 i
    rw [e, e]
    exact congrArg Prod.fst (ek _ _)) n 0 (by omega) hn]
theorem woF_fr {st st1 : MS} {ks : List Nat} (h : FrM ks st st1) (h1 : 1 ∉ ks) (h2 : 10 ∉ ks) (h3 : 11 ∉ ks) {p t : Nat} : woF st1 p t = woF st p t := by
  unfold woF
  rw [h.ofa 1 h1, nmF_fr h h1 h2 h3 (by omega)]
set_option maxRecDepth 100000 in
set_option maxHeartbeats 4000000 in
theorem ct_worth (G : Gx) (d b p t N : Nat) (st : MS) (h0 : Hp) (nx : Nat) (hp : PlOk (ma st 1) p) (ht : ThOk (ma st 1) t) (hN : StOk st N) (hb : N + 201 < 2 ^ 31) : Ct G mX12_worth (d + 9) (fun v h' nx' => v = some (.int (woF st p t)) ∧ (∃ (st' : MS) (N' : Nat), h' = encM G b st' h0 ∧ FrM KW st st' ∧ StOk st' N' ∧ N' ≤ N + 201) ∧ nx' = nx) [.ref b, .int (nI p), .int (nI t)] (encM G b st h0) nx := by
  obtain ⟨hp1, hk, hk6, hv, hv9⟩ := hp
  have t8 := ht.1
  have nle : N ≤ N + 201 := by omega
  refine Ct.of (ls := [some (.ref b), some (.int (nI p)), some (.int (nI t)), none]) (by decide +kernel) rfl (Nat.le_of_ble_eq_true rfl) rfl ?_
  refine Ok.aload_n dX12_worth_0 rfl ?_
  refine Ok.mget_s rfl dX12_worth_1 ?_
  refine Ok.sipushV (v := nI 1070) dX12_worth_4 (by decide +kernel) ?_
  refine Ok.iload_n dX12_worth_7 rfl ?_
  refine Ok.iaddN dX12_worth_8 ?_
  refine Ok.mald_sN dX12_worth_9 (by omega) hk ?_
  have hw : woF st p t = woF st p t := rfl
  generalize hkk : sN (ma st 1) (1070 + p) = kk at hk6 ⊢
  have D0 : ∀ (tgt : Nat), tgt = 103 → kk ≠ 1 → kk ≠ 3 → kk ≠ 5 → Ok G mX12_worth (d + 9) (fun v h' nx' => v = some (.int (woF st p t)) ∧ (∃ (st' : MS) (N' : Nat), h' = encM G b st' h0 ∧ FrM KW st st' ∧ StOk st' N' ∧ N' ≤ N + 201) ∧ nx' = nx) tgt [some (.ref b), some (.int (nI p)), some (.int (nI t)), none] [] (encM G b st h0) nx 0 0 := by
    intro tgt htg n1 n3 n5
    subst htg
    refine Ok.iconstV (v := nI 0) dX12_worth_103 (by decide +kernel) ?_
    exact Ok.iret dX12_worth_104 rfl (Nat.zero_le _) (Nat.zero_le _) ⟨by unfold woF; rw [hkk]; rw [if_neg n1, if_neg n3, if_neg n5], ⟨st, N, rfl, FrM.rf, hN, nle⟩, rfl⟩
  match kk, hk6, hkk, D0 with
  | 0, _, hkk, D0 => exact Ok.tableOut dX12_worth_10 (Or.inl (by decide)) (tgt := 103) (by decide) (D0 103 rfl (by decide) (by decide) (by decide))
  | 1, _, hkk, D0 =>
    refine Ok.tableIn (off := 34) (tgt := 44) dX12_worth_10 (by decide) (by decide) (by decide +kernel) (by decide) ?_
    refine Ok.aload_n dX12_worth_44 rfl ?_
    refine Ok.iload_n dX12_worth_45 rfl ?_
    refine Ok.iconstV (v := nI 1) dX12_worth_46 (by decide +kernel) ?_
    refine Ok.aload_n dX12_worth_47 rfl ?_
    refine Ok.mget_s rfl dX12_worth_48 ?_
    refine Ok.sipushV (v := nI 1082) dX12_worth_51 (by decide +kernel) ?_
    refine Ok.iload_n dX12_worth_54 rfl ?_
    refine Ok.iaddN dX12_worth_55 ?_
    refine Ok.mald_sN dX12_worth_56 (by omega) hv ?_
    refine Ok.iconstV (v := nI 3) dX12_worth_57 (by decide +kernel) ?_
    refine Ok.iremN (by omega) (by omega) (by omega) dX12_worth_58 ?_
    refine Ok.iaddN dX12_worth_59 ?_
    refine Ok.callV (My := mX12_numberOf) (n := 2) (ci := 12) dX12_worth_60 ((show Ct G mX12_numberOf (d + 8) _ _ _ _ from by rw [show d + 8 = (d + 3 - (1 + sN (ma st 1) (1082 + p) % 3)) + (1 + sN (ma st 1) (1082 + p) % 3) + 5 by omega]; exact ct_numberOf G _ b t (1 + sN (ma st 1) (1082 + p) % 3) N st h0 nx (by omega) (by omega) ht hN hb)) encM_0 rfl wd1340 wd80 wd1339 wd48 wd1337 (by decide) (by decide +kernel) (by decide) rfl rfl (Nat.le_of_ble_eq_true rfl) (Nat.le_of_ble_eq_true rfl) (Nat.le_of_ble_eq_true rfl) (fun v h' nx' q => ?_)
    obtain ⟨rfl, ⟨st1, N1, rfl, hF, hN1, hl⟩, hnx⟩ := q
    subst nx'
    refine Ok.istore_n dX12_worth_63 (by decide) ?_
    refine Ok.iload_n dX12_worth_64 rfl ?_
    refine Ok.bipushV (v := (-5)) dX12_worth_65 (by decide +kernel) ?_
    refine Ok.icmp_ne (tgt := 76) dX12_worth_67 (by decide) (fun c67 => ?_) (fun c67 => ?_)
    · refine Ok.iload_n dX12_worth_76 rfl ?_
      exact Ok.iret dX12_worth_77 rfl (Nat.zero_le _) (Nat.zero_le _) ⟨by unfold woF; rw [hkk, if_pos rfl]; unfold wgF; rw [if_neg c67], ⟨st1, N1, rfl, hF, hN1, hl⟩, rfl⟩
    · refine Ok.sipushV (v := nI 201) dX12_worth_70 (by decide +kernel) ?_
      refine Ok.goto (tgt := 77) dX12_worth_73 (by decide) ?_
      exact Ok.iret dX12_worth_77 rfl (Nat.zero_le _) (Nat.zero_le _) ⟨by unfold woF; rw [hkk, if_pos rfl]; unfold wgF; rw [if_pos c67], ⟨st1, N1, rfl, hF, hN1, hl⟩, rfl⟩
  | 2, _, hkk, D0 => refine Ok.tableIn (off := 93) (tgt := 103) dX12_worth_10 (by decide) (by decide) (by decide +kernel) (by decide) (D0 103 rfl (by decide) (by decide) (by decide))
  | 3, _, hkk, D0 =>
    refine Ok.tableIn (off := 68) (tgt := 78) dX12_worth_10 (by decide) (by decide) (by decide +kernel) (by decide) ?_
    refine Ok.ldc (v := nI 1000000) dX12_worth_78 wd1270 ?_
    refine Ok.aload_n dX12_worth_80 rfl ?_
    refine Ok.mget_s rfl dX12_worth_81 ?_
    refine Ok.sipushV (v := nI 1034) dX12_worth_84 (by decide +kernel) ?_
    refine Ok.iload_n dX12_worth_87 rfl ?_
    refine Ok.iaddN dX12_worth_88 ?_
    refine Ok.mald_sN dX12_worth_89 (by omega) rfl ?_
    refine Ok.isub dX12_worth_90 ?_
    exact Ok.iret dX12_worth_91 rfl (Nat.zero_le _) (Nat.zero_le _) ⟨by unfold woF; rw [hkk]; rw [if_neg (by decide), if_pos rfl], ⟨st, N, rfl, FrM.rf, hN, nle⟩, rfl⟩
  | 4, _, hkk, D0 => refine Ok.tableIn (off := 93) (tgt := 103) dX12_worth_10 (by decide) (by decide) (by decide +kernel) (by decide) (D0 103 rfl (by decide) (by decide) (by decide))
  | 5, _, hkk, D0 =>
    refine Ok.tableIn (off := 82) (tgt := 92) dX12_worth_10 (by decide) (by decide) (by decide +kernel) (by decide) ?_
    refine Ok.aload_n dX12_worth_92 rfl ?_
    refine Ok.mget_s rfl dX12_worth_93 ?_
    refine Ok.sipushV (v := nI 1042) dX12_worth_96 (by decide +kernel) ?_
    refine Ok.iload_n dX12_worth_99 rfl ?_
    refine Ok.iaddN dX12_worth_100 ?_
    refine Ok.mald_sN dX12_worth_101 (by omega) rfl ?_
    exact Ok.iret dX12_worth_102 rfl (Nat.zero_le _) (Nat.zero_le _) ⟨by unfold woF; rw [hkk]; rw [if_neg (by decide), if_neg (by decide), if_pos rfl], ⟨st, N, rfl, FrM.rf, hN, nle⟩, rfl⟩
  | 6, _, hkk, D0 => exact Ok.tableOut dX12_worth_10 (Or.inr (by decide)) (tgt := 103) (by decide) (D0 103 rfl (by decide) (by decide) (by decide))
  | n + 7, h, _, _ => exact absurd h (by omega)
