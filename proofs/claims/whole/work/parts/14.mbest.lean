/-! THE REFERENCE: the rows of the days to come; the best of them, kept by a stamp -/
theorem mi_msi_s {st : MS} {k : Nat} {x : Int32} : mi (msi st k x) k = x := upK_s
theorem mi_msi_n {st : MS} {k j : Nat} {x : Int32} (h : j ≠ k) : mi (msi st k x) j = mi st j := upK_n h
theorem ml_msl_s {st : MS} {k : Nat} {f : Nat → Int64} : ml (msl st k f) k = f := upK_s
theorem ml_msl_n {st : MS} {k j : Nat} {f : Nat → Int64} (h : j ≠ k) : ml (msl st k f) j = ml st j := upK_n h
def rowSt (st : MS) (t kind : Nat) : Int32 × Int32 :=
  if kind = 0 then (ma st 1 (1034 + t), ma st 1 (1042 + t))
  else
    let k0 : Int32 := if kind = 1 ∨ 0 < valF (ma st 1) t 3 then nI 1000000 else nI 0
    (overF st t k0 (nI 0), laterF (nI 0))
def rowK (st : MS) (t kind : Nat) : Nat → Int32 × Int32
  | 0 => rowSt st t kind
  | j + 1 => (overF st t (rowK st t kind j).1 (rowK st t kind j).2, laterF (rowK st t kind j).2)
theorem ma_fr1 {st st1 : MS} {ks : List Nat} (h : FrM ks st st1) (h1 : 1 ∉ ks) : ma st1 1 = ma st 1 := h.ofa 1 h1
set_option maxRecDepth 100000 in
set_option maxHeartbeats 4000000 in
theorem rows_in (G : Gx) (d b t kind : Nat) (st : MS) (h0 : Hp) (nx : Nat) (ht : ThOk (ma st 1) t) (hk : kind < 3) (nxt : ∀ (st1 : MS) (x3 x4 x5 : Option Value), FrM [9, 12, 13, 19] st st1 → mi st1 19 = nI t → (∀ kk jj : Nat, kk < 3 → jj < 9 → 9 * kk + jj < 9 * (kind + 1) → ma st1 12 (9 * kk + jj) = (rowK st t kk jj).1 ∧ ma st1 13 (9 * kk + jj) = (rowK st t kk jj).2) → Ok G mX12_rowsOf (d + 3) (fun v h' nx' => v = none ∧ (∃ st' : MS, h' = encM G b st' h0 ∧ FrM [9, 12, 13, 19] st st' ∧ mi st' 19 = nI t ∧ ∀ kk j : Nat, kk < 3 → j < 9 → ma st' 12 (9 * kk + j) = (rowK st t kk j).1 ∧ ma st' 13 (9 * kk + j) = (rowK st t kk j).2) ∧ nx' = nx) 7 [some (.ref b), some (.int (nI t)), some (.int (nI (kind + 1))), x3, x4, x5] [] (encM G b st1 h0) nx 0 0) :
    ∀ (r j : Nat) (st1 : MS), j + r = 9 → FrM [9, 12, 13, 19] st st1 → mi st1 19 = nI t → (∀ kk jj : Nat, kk < 3 → jj < 9 → 9 * kk + jj < 9 * kind + j → ma st1 12 (9 * kk + jj) = (rowK st t kk jj).1 ∧ ma st1 13 (9 * kk + jj) = (rowK st t kk jj).2) → Ok G mX12_rowsOf (d + 3) (fun v h' nx' => v = none ∧ (∃ st' : MS, h' = encM G b st' h0 ∧ FrM [9, 12, 13, 19] st st' ∧ mi st' 19 = nI t ∧ ∀ kk j : Nat, kk < 3 → j < 9 → ma st' 12 (9 * kk + j) = (rowK st t kk j).1 ∧ ma st' 13 (9 * kk + j) = (rowK st t kk j).2) ∧ nx' = nx) 93 [some (.ref b), some (.int (nI t)), some (.int (nI kind)), some (.int (rowK st t kind j).1), some (.int (rowK st t kind j).2), some (.int (nI j))] [] (encM G b st1 h0) nx 0 0 := by
  intro r
  induction r with
  | zero =>
    intro j st1 hj hF hw hr
    have hj : j = 9 := by omega
    subst hj
    refine Ok.iload dX12_rowsOf_93 rfl ?_
    refine Ok.bipushV (v := nI 9) dX12_rowsOf_95 (by decide +kernel) ?_
    refine Ok.icmp_ge (tgt := 149) dX12_rowsOf_97 (by decide) (fun c97 => ?_) (fun c97 => absurd c97 (by decide))
    refine Ok.iinc dX12_rowsOf_149 rfl (by decide) ?_
    refine Ok.goto (tgt := 7) dX12_rowsOf_152 (by decide) ?_
    exact (nxt st1 _ _ _ hF hw (by rw [show 9 * (kind + 1) = 9 * kind + 9 by omega]; exact hr)).eql (by show lst1 _ _ _ = _; rw [show nI kind + Int32.ofInt 1 = nI (kind + 1) from nI_1 _]; rfl)
  | succ r ih =>
    intro j st1 hj hF hw hr
    have hj9 : j < 9 := by omega
    have e1 := ma_fr1 hF (by decide)
    refine Ok.iload dX12_rowsOf_93 rfl ?_
    refine Ok.bipushV (v := nI 9) dX12_rowsOf_95 (by decide +kernel) ?_
    refine Ok.icmp_ge (tgt := 149) dX12_rowsOf_97 (by decide) (fun c97 => absurd c97 (by rw [nI_leI (by omega) (by omega)]; omega)) (fun c97 => ?_)
    refine Ok.aload_n dX12_rowsOf_100 rfl ?_
    refine Ok.mget_knownRow rfl dX12_rowsOf_101 ?_
    refine Ok.bipushV (v := nI 9) dX12_rowsOf_104 (by decide +kernel) ?_
    refine Ok.iload_n dX12_rowsOf_106 rfl ?_
    refine Ok.imulN dX12_rowsOf_107 ?_
    refine Ok.iload dX12_rowsOf_108 rfl ?_
    refine Ok.iaddN dX12_rowsOf_110 ?_
    refine Ok.iload_n dX12_rowsOf_111 rfl ?_
    refine Ok.mast_knownRowN dX12_rowsOf_112 (by omega) ?_
    refine Ok.aload_n dX12_rowsOf_113 rfl ?_
    refine Ok.mget_daysRow rfl dX12_rowsOf_114 ?_
    refine Ok.bipushV (v := nI 9) dX12_rowsOf_117 (by decide +kernel) ?_
    refine Ok.iload_n dX12_rowsOf_119 rfl ?_
    refine Ok.imulN dX12_rowsOf_120 ?_
    refine Ok.iload dX12_rowsOf_121 rfl ?_
    refine Ok.iaddN dX12_rowsOf_123 ?_
    refine Ok.iload dX12_rowsOf_124 rfl ?_
    refine Ok.mast_daysRowN dX12_rowsOf_126 (by omega) ?_
    rw [show ma (msa st1 12 _) 13 = ma st1 13 from ma_msa_n (by decide)]
    refine Ok.aload_n dX12_rowsOf_127 rfl ?_
    refine Ok.iload_n dX12_rowsOf_128 rfl ?_
    refine Ok.iload_n dX12_rowsOf_129 rfl ?_
    refine Ok.iload dX12_rowsOf_130 rfl ?_
    refine Ok.callV (My := mX12_overOf) (n := 3) (ci := 12) dX12_rowsOf_132 (ct_overOf G d b t (msa (msa st1 12 (upK (ma st1 12) (9 * kind + j) (rowK st t kind j).1)) 13 (upK (ma st1 13) (9 * kind + j) (rowK st t kind j).2)) (rowK st t kind j).1 (rowK st t kind j).2 h0 nx (by rw [show ma (msa (msa st1 12 _) 13 _) 1 = ma st1 1 from rfl, e1]; exact ht)) encM_0 rfl wd1290 wd80 wd1289 wd40 wd1287 (by decide) (by decide +kernel) (by decide) rfl rfl (Nat.le_of_ble_eq_true rfl) (Nat.le_of_ble_eq_true rfl) (Nat.le_of_ble_eq_true rfl) (fun v h' nx' q => ?_)
    obtain ⟨hv, ⟨st2, rfl, hF2⟩, hnx⟩ := q
    subst nx'
    rw [overF_fr (ks := [9, 12, 13, 19]) (st := st) (hF.trans ((FrM.msa (k := 12) (ks := [9, 12, 13, 19]) (by decide)).trans (FrM.msa (k := 13) (ks := [9, 12, 13, 19]) (by decide))) |>.mono (by decide)) (by decide) (by decide) (by decide)] at hv
    subst hv
    refine Ok.istore_n dX12_rowsOf_135 (by decide) ?_
    refine Ok.iload dX12_rowsOf_136 rfl ?_
    refine Ok.callS (My := mX12_later) (n := 1) dX12_rowsOf_138 (ct_later G (d + 2) (rowK st t kind j).2 _ _) wd1302 wd80 wd1301 wd1300 (by decide) (by decide +kernel) (by decide) rfl rfl (Nat.le_of_ble_eq_true rfl) (Nat.le_of_ble_eq_true rfl) (Nat.le_of_ble_eq_true rfl) (fun v h' nx' q => ?_)
    obtain ⟨rfl, rfl, hnx⟩ := q
    subst nx'
    refine Ok.istore dX12_rowsOf_141 (by decide) ?_
    refine Ok.iinc dX12_rowsOf_143 rfl (by decide) ?_
    refine Ok.goto (tgt := 93) dX12_rowsOf_146 (by decide) ?_
    rw [show nI j + Int32.ofInt 1 = nI (j + 1) from nI_1 j]
    refine ih (j + 1) st2 (by omega) ?_ ?_ ?_
    · exact ((hF.trans ((FrM.msa (k := 12) (ks := [9, 12, 13, 19]) (by decide)).trans (FrM.msa (k := 13) (ks := [9, 12, 13, 19]) (by decide)))).trans hF2).mono (by decide)
    · rw [hF2.of1 19 (by decide)]; exact hw
    · intro kk jj hkk hjj hlt
      rw [hF2.ofa 12 (by decide), hF2.ofa 13 (by decide)]
      rw [ma_msa_s, show ma (msa (msa st1 12 _) 13 _) 12 = upK (ma st1 12) _ _ from (ma_msa_n (by decide)).trans ma_msa_s]
      by_cases e : 9 * kk + jj = 9 * kind + j
      · have ek : kk = kind := by omega
        have ej : jj = j := by omega
        subst ek; subst ej
        exact ⟨upK_s, upK_s⟩
      · rw [upK_n e, upK_n e]
        exact hr kk jj hkk hjj (by omega)
set_option maxRecDepth 100000 in
set_option maxHeartbeats 4000000 in
theorem rows_out (G : Gx) (d b t : Nat) (st : MS) (h0 : Hp) (nx : Nat) (ht : ThOk (ma st 1) t) : ∀ (r kind : Nat) (st1 : MS) (x3 x4 x5 : Option Value), kind + r = 3 → FrM [9, 12, 13, 19] st st1 → mi st1 19 = nI t → (∀ kk jj : Nat, kk < 3 → jj < 9 → 9 * kk + jj < 9 * kind → ma st1 12 (9 * kk + jj) = (rowK st t kk jj).1 ∧ ma st1 13 (9 * kk + jj) = (rowK st t kk jj).2) → Ok G mX12_rowsOf (d + 3) (fun v h' nx' => v = none ∧ (∃ st' : MS, h' = encM G b st' h0 ∧ FrM [9, 12, 13, 19] st st' ∧ mi st' 19 = nI t ∧ ∀ kk j : Nat, kk < 3 → j < 9 → ma st' 12 (9 * kk + j) = (rowK st t kk j).1 ∧ ma st' 13 (9 * kk + j) = (rowK st t kk j).2) ∧ nx' = nx) 7 [some (.ref b), some (.int (nI t)), some (.int (nI kind)), x3, x4, x5] [] (encM G b st1 h0) nx 0 0 := by
  intro r
  induction r with
  | zero =>
    intro kind st1 x3 x4 x5 hk hF hw hr
    have hk : kind = 3 := by omega
    subst hk
    refine Ok.iload_n dX12_rowsOf_7 rfl ?_
    refine Ok.iconstV (v := nI 3) dX12_rowsOf_8 (by decide +kernel) ?_
    refine Ok.icmp_ge (tgt := 155) dX12_rowsOf_9 (by decide) (fun c9 => ?_) (fun c9 => absurd c9 (by decide))
    exact Ok.vret dX12_rowsOf_155 rfl (Nat.zero_le _) (Nat.zero_le _) ⟨rfl, ⟨st1, rfl, hF, hw, fun kk j h1 h2 => hr kk j h1 h2 (by omega)⟩, rfl⟩
  | succ r ih =>
    intro kind st1 x3 x4 x5 hk hF hw hr
    have hk3 : kind < 3 := by omega
    have e1 := ma_fr1 hF (by decide)
    have ht1 : ThOk (ma st1 1) t := by rw [e1]; exact ht
    have h8 := ht.1
    have nxt := rows_in G d b t kind st h0 nx ht hk3 (fun st1 x3 x4 x5 hF hw hr => ih (kind + 1) st1 x3 x4 x5 (by omega) hF hw hr)
    have go : ∀ (st2 : MS) (x5 : Option Value), FrM [9] st1 st2 → Ok G mX12_rowsOf (d + 3) (fun v h' nx' => v = none ∧ (∃ st' : MS, h' = encM G b st' h0 ∧ FrM [9, 12, 13, 19] st st' ∧ mi st' 19 = nI t ∧ ∀ kk j : Nat, kk < 3 → j < 9 → ma st' 12 (9 * kk + j) = (rowK st t kk j).1 ∧ ma st' 13 (9 * kk + j) = (rowK st t kk j).2) ∧ nx' = nx) 90 [some (.ref b), some (.int (nI t)), some (.int (nI kind)), some (.int (rowSt st t kind).1), some (.int (rowSt st t kind).2), x5] [] (encM G b st2 h0) nx 0 0 := by
      intro st2 x5 hF2
      refine Ok.iconstV (v := nI 0) dX12_rowsOf_90 (by decide +kernel) ?_
      refine Ok.istore dX12_rowsOf_91 (by decide) ?_
      exact nxt 9 0 st2 (by omega) ((hF.trans hF2).mono (by decide)) (by rw [hF2.of1 19 (by decide)]; exact hw) (fun kk j h1 h2 h3 => by rw [hF2.ofa 12 (by decide), hF2.ofa 13 (by decide)]; exact hr kk j h1 h2 (by omega))
    by_cases hz : kind = 0
    · subst hz
      refine Ok.iload_n dX12_rowsOf_7 rfl ?_
      refine Ok.iconstV (v := nI 3) dX12_rowsOf_8 (by decide +kernel) ?_
      refine Ok.icmp_ge (tgt := 155) dX12_rowsOf_9 (by decide) (fun c9 => absurd c9 (by decide)) (fun c9 => ?_)
      refine Ok.iload_n dX12_rowsOf_12 rfl ?_
      refine Ok.if_ne (tgt := 29) dX12_rowsOf_13 (by decide) (fun c13 => absurd c13 (by decide)) (fun c13 => ?_)
      refine Ok.aload_n dX12_rowsOf_16 rfl ?_
      refine Ok.mget_s rfl dX12_rowsOf_17 ?_
      refine Ok.sipushV (v := nI 1034) dX12_rowsOf_20 (by decide +kernel) ?_
      refine Ok.iload_n dX12_rowsOf_23 rfl ?_
      refine Ok.iaddN dX12_rowsOf_24 ?_
      refine Ok.mald_sN dX12_rowsOf_25 (by omega) rfl ?_
      refine Ok.goto (tgt := 49) dX12_rowsOf_26 (by decide) ?_
      refine Ok.istore_n dX12_rowsOf_49 (by decide) ?_
      refine Ok.iload_n dX12_rowsOf_50 rfl ?_
      refine Ok.if_ne (tgt := 67) dX12_rowsOf_51 (by decide) (fun c51 => absurd c51 (by decide)) (fun c51 => ?_)
      refine Ok.aload_n dX12_rowsOf_54 rfl ?_
      refine Ok.mget_s rfl dX12_rowsOf_55 ?_
      refine Ok.sipushV (v := nI 1042) dX12_rowsOf_58 (by decide +kernel) ?_
      refine Ok.iload_n dX12_rowsOf_61 rfl ?_
      refine Ok.iaddN dX12_rowsOf_62 ?_
      refine Ok.mald_sN dX12_rowsOf_63 (by omega) rfl ?_
      refine Ok.goto (tgt := 68) dX12_rowsOf_64 (by decide) ?_
      refine Ok.istore dX12_rowsOf_68 (by decide) ?_
      refine Ok.iload_n dX12_rowsOf_70 rfl ?_
      refine Ok.if_le (tgt := 90) dX12_rowsOf_71 (by decide) (fun c71 => ?_) (fun c71 => absurd c71 (by decide))
      exact (go st1 x5 FrM.rf).eql (by rw [e1]; rfl)
    · have rest : ∀ (z : Int32), z = (if kind = 1 ∨ 0 < valF (ma st 1) t 3 then nI 1000000 else nI 0) → Ok G mX12_rowsOf (d + 3) (fun v h' nx' => v = none ∧ (∃ st' : MS, h' = encM G b st' h0 ∧ FrM [9, 12, 13, 19] st st' ∧ mi st' 19 = nI t ∧ ∀ kk j : Nat, kk < 3 → j < 9 → ma st' 12 (9 * kk + j) = (rowK st t kk j).1 ∧ ma st' 13 (9 * kk + j) = (rowK st t kk j).2) ∧ nx' = nx) 49 [some (.ref b), some (.int (nI t)), some (.int (nI kind)), x3, x4, x5] [.int z] (encM G b st1 h0) nx 0 0 := by
        intro z hz2
        refine Ok.istore_n dX12_rowsOf_49 (by decide) ?_
        refine Ok.iload_n dX12_rowsOf_50 rfl ?_
        refine Ok.if_ne (tgt := 67) dX12_rowsOf_51 (by decide) (fun c51 => ?_) (fun c51 => absurd c51 (fun q => hz (nI_eq (by omega) (by omega) |>.mp q)))
        refine Ok.iconstV (v := nI 0) dX12_rowsOf_67 (by decide +kernel) ?_
        refine Ok.istore dX12_rowsOf_68 (by decide) ?_
        refine Ok.iload_n dX12_rowsOf_70 rfl ?_
        refine Ok.if_le (tgt := 90) dX12_rowsOf_71 (by decide) (fun c71 => absurd c71 (by rw [show (0 : Int32) = nI 0 from rfl, nI_leI (by omega) (by omega)]; omega)) (fun c71 => ?_)
        refine Ok.aload_n dX12_rowsOf_74 rfl ?_
        refine Ok.iload_n dX12_rowsOf_75 rfl ?_
        refine Ok.iload_n dX12_rowsOf_76 rfl ?_
        refine Ok.iload dX12_rowsOf_77 rfl ?_
        refine Ok.callV (My := mX12_overOf) (n := 3) (ci := 12) dX12_rowsOf_79 (ct_overOf G d b t st1 z (nI 0) h0 nx ht1) encM_0 rfl wd1290 wd80 wd1289 wd40 wd1287 (by decide) (by decide +kernel) (by decide) rfl rfl (Nat.le_of_ble_eq_true rfl) (Nat.le_of_ble_eq_true rfl) (Nat.le_of_ble_eq_true rfl) (fun v h' nx' q => ?_)
        obtain ⟨hv, ⟨st2, rfl, hF2⟩, hnx⟩ := q
        subst nx'
        rw [overF_fr (st := st) hF (by decide) (by decide) (by decide)] at hv
        subst hv
        refine Ok.istore_n dX12_rowsOf_82 (by decide) ?_
        refine Ok.iload dX12_rowsOf_83 rfl ?_
        refine Ok.callS (My := mX12_later) (n := 1) dX12_rowsOf_85 (ct_later G (d + 2) (nI 0) _ _) wd1302 wd80 wd1301 wd1300 (by decide) (by decide +kernel) (by decide) rfl rfl (Nat.le_of_ble_eq_true rfl) (Nat.le_of_ble_eq_true rfl) (Nat.le_of_ble_eq_true rfl) (fun v h' nx' q => ?_)
        obtain ⟨rfl, rfl, hnx⟩ := q
        subst nx'
        refine Ok.istore dX12_rowsOf_88 (by decide) ?_
        exact (go st2 x5 hF2).eql (by unfold rowSt; rw [if_neg hz, ← hz2]; rfl)
      refine Ok.iload_n dX12_rowsOf_7 rfl ?_
      refine Ok.iconstV (v := nI 3) dX12_rowsOf_8 (by decide +kernel) ?_
      refine Ok.icmp_ge (tgt := 155) dX12_rowsOf_9 (by decide) (fun c9 => absurd c9 (by rw [nI_leI (by omega) (by omega)]; omega)) (fun c9 => ?_)
      refine Ok.iload_n dX12_rowsOf_12 rfl ?_
      refine Ok.if_ne (tgt := 29) dX12_rowsOf_13 (by decide) (fun c13 => ?_) (fun c13 => absurd c13 (fun q => hz (nI_eq (by omega) (by omega) |>.mp q)))
      refine Ok.iload_n dX12_rowsOf_29 rfl ?_
      refine Ok.iconstV (v := nI 1) dX12_rowsOf_30 (by decide +kernel) ?_
      refine Ok.icmp_eq (tgt := 43) dX12_rowsOf_31 (by decide) (fun c31 => ?_) (fun c31 => ?_)
      · refine Ok.ldc (v := nI 1000000) dX12_rowsOf_43 wd1270 ?_
        refine Ok.goto (tgt := 49) dX12_rowsOf_45 (by decide) ?_
        exact rest _ (by rw [if_pos (Or.inl ((nI_eq (by omega) (by omega)).mp c31))])
      · refine Ok.aload_n dX12_rowsOf_34 rfl ?_
        refine Ok.iload_n dX12_rowsOf_35 rfl ?_
        refine Ok.iconstV (v := nI 3) dX12_rowsOf_36 (by decide +kernel) ?_
        refine Ok.callV (My := mX12_value) (n := 2) (ci := 12) dX12_rowsOf_37 (ct_value G (d + 2) b t 3 st1 h0 nx ht1 (by decide)) encM_0 rfl wd1319 wd80 wd1318 wd44 wd1316 (by decide) (by decide +kernel) (by decide) rfl rfl (Nat.le_of_ble_eq_true rfl) (Nat.le_of_ble_eq_true rfl) (Nat.le_of_ble_eq_true rfl) (fun v h' nx' q => ?_)
        obtain ⟨rfl, rfl, hnx⟩ := q
        subst nx'
        refine Ok.if_le (tgt := 48) dX12_rowsOf_40 (by decide) (fun c40 => ?_) (fun c40 => ?_)
        · refine Ok.iconstV (v := nI 0) dX12_rowsOf_48 (by decide +kernel) ?_
          exact rest _ (by rw [if_neg (fun q => q.elim (fun q => c31 (by rw [q])) (fun q => (Int32.not_lt.mpr c40) (by rw [e1]; exact q)))])
        · refine Ok.ldc (v := nI 1000000) dX12_rowsOf_43 wd1270 ?_
          refine Ok.goto (tgt := 49) dX12_rowsOf_45 (by decide) ?_
          exact rest _ (by rw [if_pos (Or.inr (by rw [← e1]; exact Int32.not_le.mp c40))])
set_option maxRecDepth 100000 in
set_option maxHeartbeats 4000000 in
theorem ct_rowsOf (G : Gx) (d b t : Nat) (st : MS) (h0 : Hp) (nx : Nat) (ht : ThOk (ma st 1) t) : Ct G mX12_rowsOf (d + 3) (fun v h' nx' => v = none ∧ (∃ st' : MS, h' = encM G b st' h0 ∧ FrM [9, 12, 13, 19] st st' ∧ mi st' 19 = nI t ∧ ∀ kk j : Nat, kk < 3 → j < 9 → ma st' 12 (9 * kk + j) = (rowK st t kk j).1 ∧ ma st' 13 (9 * kk + j) = (rowK st t kk j).2) ∧ nx' = nx) [.ref b, .int (nI t)] (encM G b st h0) nx := by
  refine Ct.of (ls := [some (.ref b), some (.int (nI t)), none, none, none, none]) (by decide +kernel) rfl (Nat.le_of_ble_eq_true rfl) rfl ?_
  refine Ok.aload_n dX12_rowsOf_0 rfl ?_
  refine Ok.iload_n dX12_rowsOf_1 rfl ?_
  refine Ok.mput_whose rfl dX12_rowsOf_2 ?_
  refine Ok.iconstV (v := nI 0) dX12_rowsOf_5 (by decide +kernel) ?_
  refine Ok.istore_n dX12_rowsOf_6 (by decide) ?_
  exact rows_out G d b t st h0 nx ht 3 0 _ _ _ _ (by omega) (FrM.msi (by decide)) mi_msi_s (fun kk j h1 h2 h3 => by omega)
