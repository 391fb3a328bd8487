/-! THE REFERENCE: best, not, looked from a place of a row on; what is kept by a stamp -/
/-- best, not, looked of n days from a place on -/
def bP (st : MS) (t : Nat) : Nat → Nat → Int64 × Int64 × Int64
  | 0, _ => (0, 0, 0)
  | n + 1, p =>
    let day := brF (ma st 1) t (ma st 12 p)
    let nt := 1000 * (mi st 20).toInt64 + day + (bP st t n (p + 1)).1
    let lk := day - 1000 * (valF (ma st 1) t 2).toInt64 + ((ma st 12 p).toInt64 * (bP st t n 9).1 + (nI 1000000 - ma st 12 p).toInt64 * ((bP st t n 18).1 - 1000 * (valF (ma st 1) t 3).toInt64)) / 1000000
    (if nt ≤ lk then lk else nt, nt, lk)
theorem bP_fr {st st1 : MS} {ks : List Nat} (h : FrM ks st st1) (h1 : 1 ∉ ks) (h2 : 12 ∉ ks) (h3 : 20 ∉ ks) {t : Nat} : ∀ (n p : Nat), bP st1 t n p = bP st t n p
  | 0, _ => rfl
  | n + 1, p => by
    unfold bP
    rw [bP_fr h h1 h2 h3 n (p + 1), bP_fr h h1 h2 h3 n 9, bP_fr h h1 h2 h3 n 18, h.ofa 1 h1, h.ofa 12 h2, h.of1 20 h3]
def MemoOk (st : MS) (t : Nat) : Prop := ∀ p n : Nat, 1 ≤ n → n ≤ 8 → p + n ≤ 27 → ma st 17 (9 * p + n) = mi st 18 → ml st 14 (9 * p + n) = (bP st t n p).1 ∧ ml st 15 (9 * p + n) = (bP st t n p).2.1 ∧ ml st 16 (9 * p + n) = (bP st t n p).2.2
theorem memo_put {st st1 : MS} {t n p : Nat} (h : MemoOk st t) (hn : 1 ≤ n) (hn8 : n ≤ 8) (hF : FrM [14, 15, 16, 17] st st1) (h17 : ma st1 17 = upK (ma st 17) (9 * p + n) (mi st 18)) (h14 : ml st1 14 = upK (ml st 14) (9 * p + n) (bP st t n p).1) (h15 : ml st1 15 = upK (ml st 15) (9 * p + n) (bP st t n p).2.1) (h16 : ml st1 16 = upK (ml st 16) (9 * p + n) (bP st t n p).2.2) : MemoOk st1 t := by
  intro p' n' h1 h8 hp hs
  rw [bP_fr hF (by decide) (by decide) (by decide), h14, h15, h16]
  by_cases e : 9 * p' + n' = 9 * p + n
  · have en : n' = n := by omega
    have ep : p' = p := by omega
    subst en; subst ep
    exact ⟨upK_s, upK_s, upK_s⟩
  · rw [upK_n e, upK_n e, upK_n e]
    rw [h17, upK_n e, hF.of1 18 (by decide)] at hs
    exact h p' n' h1 h8 hp hs
/-- what a call leaves of the stamps -/
def Stm (st st1 : MS) : Prop := ∀ i : Nat, ma st1 17 i = ma st 17 i ∨ ma st1 17 i = mi st 18
theorem Stm.rf {st : MS} : Stm st st := fun _ => Or.inl rfl
theorem Stm.trans {a b c : MS} (h1 : Stm a b) (h2 : Stm b c) (e : mi b 18 = mi a 18) : Stm a c := fun i => by
  rcases h2 i with q | q
  · rcases h1 i with q1 | q1
    · exact Or.inl (q.trans q1)
    · exact Or.inr (q.trans q1)
  · exact Or.inr (q.trans e)
set_option maxRecDepth 100000 in
set_option maxHeartbeats 4000000 in
theorem ct_bestOf (G : Gx) (d b t : Nat) (h0 : Hp) (nx : Nat) : ∀ (n p : Nat) (st : MS), n ≤ 8 → p + n ≤ 27 → ThOk (ma st 1) t → mi st 19 = nI t → MemoOk st t → Ct G mX12_bestOf (d + n + 2) (fun v h' nx' => v = some (.long (bP st t n p).1) ∧ (∃ st' : MS, h' = encM G b st' h0 ∧ FrM [14, 15, 16, 17] st st' ∧ MemoOk st' t ∧ (1 ≤ n → ma st' 17 (9 * p + n) = mi st 18) ∧ Stm st st') ∧ nx' = nx) [.ref b, .int (nI p), .int (nI n)] (encM G b st h0) nx := by
  intro n
  induction n with
  | zero =>
    intro p st h8 hp ht hw hm
    refine Ct.of (ls := [some (.ref b), some (.int (nI p)), some (.int (nI 0)), none, none, none, none, none, none, none, none, none, none, none, none]) (by decide +kernel) rfl (Nat.le_of_ble_eq_true rfl) rfl ?_
    refine Ok.iload_n dX12_bestOf_0 rfl ?_
    refine Ok.if_ne (tgt := 6) dX12_bestOf_1 (by decide) (fun c1 => absurd c1 (by decide)) (fun c1 => ?_)
    refine Ok.lconst dX12_bestOf_4 ?_
    exact Ok.lret dX12_bestOf_5 rfl (Nat.zero_le _) (Nat.zero_le _) ⟨rfl, ⟨st, rfl, FrM.rf, hm, fun q => absurd q (by decide), Stm.rf⟩, rfl⟩
  | succ n ih =>
    intro p st h8 hp ht hw hm
    have hn1 : nI (n + 1) - nI 1 = nI n := pk_sub (by omega)
    have t8 := ht.1
    refine Ct.of (ls := [some (.ref b), some (.int (nI p)), some (.int (nI (n + 1))), none, none, none, none, none, none, none, none, none, none, none, none]) (by decide +kernel) rfl (Nat.le_of_ble_eq_true rfl) rfl ?_
    refine Ok.iload_n dX12_bestOf_0 rfl ?_
    refine Ok.if_ne (tgt := 6) dX12_bestOf_1 (by decide) (fun c1 => ?_) (fun c1 => absurd c1 (fun q => absurd ((nI_eq (by omega) (by omega)).mp (show nI (n + 1) = nI 0 from q)) (by omega)))
    refine Ok.bipushV (v := nI 9) dX12_bestOf_6 (by decide +kernel) ?_
    refine Ok.iload_n dX12_bestOf_8 rfl ?_
    refine Ok.imulN dX12_bestOf_9 ?_
    refine Ok.iload_n dX12_bestOf_10 rfl ?_
    refine Ok.iaddN dX12_bestOf_11 ?_
    refine Ok.istore_n dX12_bestOf_12 (by decide) ?_
    refine Ok.aload_n dX12_bestOf_13 rfl ?_
    refine Ok.mget_bestsAt rfl dX12_bestOf_14 ?_
    refine Ok.iload_n dX12_bestOf_17 rfl ?_
    refine Ok.mald_bestsAtN dX12_bestOf_18 (by omega) rfl ?_
    refine Ok.aload_n dX12_bestOf_19 rfl ?_
    refine Ok.mget_stamp rfl dX12_bestOf_20 ?_
    refine Ok.icmp_eq (tgt := 195) dX12_bestOf_23 (by decide) (fun c23 => ?_) (fun c23 => ?_)
    · refine Ok.aload_n dX12_bestOf_195 rfl ?_
      refine Ok.mget_bests rfl dX12_bestOf_196 ?_
      refine Ok.iload_n dX12_bestOf_199 rfl ?_
      refine Ok.mald_bestsN dX12_bestOf_200 (by omega) rfl ?_
      have hh := hm p (n + 1) (by omega) h8 (by omega) c23
      exact Ok.lret dX12_bestOf_201 rfl (Nat.zero_le _) (Nat.zero_le _) ⟨by rw [hh.1], ⟨st, rfl, FrM.rf, hm, fun _ => c23, Stm.rf⟩, rfl⟩
    · refine Ok.aload_n dX12_bestOf_26 rfl ?_
      refine Ok.mget_knownRow rfl dX12_bestOf_27 ?_
      refine Ok.iload_n dX12_bestOf_30 rfl ?_
      refine Ok.mald_knownRowN dX12_bestOf_31 (by omega) rfl ?_
      refine Ok.istore dX12_bestOf_32 (by decide) ?_
      refine Ok.aload_n dX12_bestOf_34 rfl ?_
      refine Ok.aload_n dX12_bestOf_35 rfl ?_
      refine Ok.mget_whose rfl dX12_bestOf_36 ?_
      rw [hw]
      refine Ok.iload dX12_bestOf_39 rfl ?_
      refine Ok.callV (My := mX12_brings) (n := 2) (ci := 12) dX12_bestOf_41 (ct_brings G (d + n + 1) b t st (ma st 12 p) h0 nx ht) encM_0 rfl wd1331 wd80 wd1330 wd47 wd1328 (by decide) (by decide +kernel) (by decide) rfl rfl (Nat.le_of_ble_eq_true rfl) (Nat.le_of_ble_eq_true rfl) (Nat.le_of_ble_eq_true rfl) (fun v h' nx' q => ?_)
      obtain ⟨rfl, rfl, hnx⟩ := q
      subst nx'
      refine Ok.lstore dX12_bestOf_44 (by decide) ?_
      refine Ok.ldc2_w (v := 1000) dX12_bestOf_46 wd1295 ?_
      refine Ok.aload_n dX12_bestOf_49 rfl ?_
      refine Ok.mget_wage rfl dX12_bestOf_50 ?_
      refine Ok.i2l dX12_bestOf_53 ?_
      refine Ok.lmul dX12_bestOf_54 ?_
      refine Ok.lload dX12_bestOf_55 rfl ?_
      refine Ok.ladd dX12_bestOf_57 ?_
      refine Ok.aload_n dX12_bestOf_58 rfl ?_
      refine Ok.iload_n dX12_bestOf_59 rfl ?_
      refine Ok.iconstV (v := nI 1) dX12_bestOf_60 (by decide +kernel) ?_
      refine Ok.iaddN dX12_bestOf_61 ?_
      refine Ok.iload_n dX12_bestOf_62 rfl ?_
      refine Ok.iconstV (v := nI 1) dX12_bestOf_63 (by decide +kernel) ?_
      refine Ok.isub dX12_bestOf_64 ?_
      rw [hn1]
      refine Ok.callV (My := mX12_bestOf) (n := 2) (ci := 12) dX12_bestOf_65 (ih (p + 1) st (by omega) (by omega) ht hw hm) encM_0 rfl wd1327 wd80 wd1326 wd46 wd1324 (by decide) (by decide +kernel) (by decide) rfl rfl (Nat.le_of_ble_eq_true rfl) (Nat.le_of_ble_eq_true rfl) (Nat.le_of_ble_eq_true rfl) (fun v h' nx' q => ?_)
      obtain ⟨rfl, ⟨st1, rfl, hF1, hm1, -, hS1⟩, hnx⟩ := q
      subst nx'
      have hw1 : mi st1 19 = nI t := (hF1.of1 19 (by decide)).trans hw
      have ht1 : ThOk (ma st1 1) t := by rw [hF1.ofa 1 (by decide)]; exact ht
      refine Ok.ladd dX12_bestOf_68 ?_
      refine Ok.lstore dX12_bestOf_69 (by decide) ?_
      refine Ok.aload_n dX12_bestOf_71 rfl ?_
      refine Ok.bipushV (v := nI 9) dX12_bestOf_72 (by decide +kernel) ?_
      refine Ok.iload_n dX12_bestOf_74 rfl ?_
      refine Ok.iconstV (v := nI 1) dX12_bestOf_75 (by decide +kernel) ?_
      refine Ok.isub dX12_bestOf_76 ?_
      rw [hn1]
      refine Ok.callV (My := mX12_bestOf) (n := 2) (ci := 12) dX12_bestOf_77 (ih 9 st1 (by omega) (by omega) ht1 hw1 hm1) encM_0 rfl wd1327 wd80 wd1326 wd46 wd1324 (by decide) (by decide +kernel) (by decide) rfl rfl (Nat.le_of_ble_eq_true rfl) (Nat.le_of_ble_eq_true rfl) (Nat.le_of_ble_eq_true rfl) (fun v h' nx' q => ?_)
      obtain ⟨rfl, ⟨st2, rfl, hF2, hm2, -, hS2⟩, hnx⟩ := q
      subst nx'
      have hw2 : mi st2 19 = nI t := (hF2.of1 19 (by decide)).trans hw1
      have ht2 : ThOk (ma st2 1) t := by rw [hF2.ofa 1 (by decide)]; exact ht1
      refine Ok.lstore dX12_bestOf_80 (by decide) ?_
      refine Ok.aload_n dX12_bestOf_82 rfl ?_
      refine Ok.bipushV (v := nI 18) dX12_bestOf_83 (by decide +kernel) ?_
      refine Ok.iload_n dX12_bestOf_85 rfl ?_
      refine Ok.iconstV (v := nI 1) dX12_bestOf_86 (by decide +kernel) ?_
      refine Ok.isub dX12_bestOf_87 ?_
      rw [hn1]
      refine Ok.callV (My := mX12_bestOf) (n := 2) (ci := 12) dX12_bestOf_88 (ih 18 st2 (by omega) (by omega) ht2 hw2 hm2) encM_0 rfl wd1327 wd80 wd1326 wd46 wd1324 (by decide) (by decide +kernel) (by decide) rfl rfl (Nat.le_of_ble_eq_true rfl) (Nat.le_of_ble_eq_true rfl) (Nat.le_of_ble_eq_true rfl) (fun v h' nx' q => ?_)
      obtain ⟨rfl, ⟨st3, rfl, hF3, hm3, -, hS3⟩, hnx⟩ := q
      subst nx'
      have hw3 : mi st3 19 = nI t := (hF3.of1 19 (by decide)).trans hw2
      have ht3 : ThOk (ma st3 1) t := by rw [hF3.ofa 1 (by decide)]; exact ht2
      refine Ok.ldc2_w (v := 1000) dX12_bestOf_91 wd1295 ?_
      refine Ok.aload_n dX12_bestOf_94 rfl ?_
      refine Ok.aload_n dX12_bestOf_95 rfl ?_
      refine Ok.mget_whose rfl dX12_bestOf_96 ?_
      rw [hw3]
      refine Ok.iconstV (v := nI 3) dX12_bestOf_99 (by decide +kernel) ?_
      refine Ok.callV (My := mX12_value) (n := 2) (ci := 12) dX12_bestOf_100 (ct_value G (d + n + 2) b t 3 st3 h0 nx ht3 (by decide)) encM_0 rfl wd1319 wd80 wd1318 wd44 wd1316 (by decide) (by decide +kernel) (by decide) rfl rfl (Nat.le_of_ble_eq_true rfl) (Nat.le_of_ble_eq_true rfl) (Nat.le_of_ble_eq_true rfl) (fun v h' nx' q => ?_)
      obtain ⟨rfl, rfl, hnx⟩ := q
      subst nx'
      refine Ok.i2l dX12_bestOf_103 ?_
      refine Ok.lmul dX12_bestOf_104 ?_
      refine Ok.lsub dX12_bestOf_105 ?_
      refine Ok.lstore dX12_bestOf_106 (by decide) ?_
      refine Ok.lload dX12_bestOf_108 rfl ?_
      refine Ok.ldc2_w (v := 1000) dX12_bestOf_110 wd1295 ?_
      refine Ok.aload_n dX12_bestOf_113 rfl ?_
      refine Ok.aload_n dX12_bestOf_114 rfl ?_
      refine Ok.mget_whose rfl dX12_bestOf_115 ?_
      rw [hw3]
      refine Ok.iconstV (v := nI 2) dX12_bestOf_118 (by decide +kernel) ?_
      refine Ok.callV (My := mX12_value) (n := 2) (ci := 12) dX12_bestOf_119 (ct_value G (d + n + 2) b t 2 st3 h0 nx ht3 (by decide)) encM_0 rfl wd1319 wd80 wd1318 wd44 wd1316 (by decide) (by decide +kernel) (by decide) rfl rfl (Nat.le_of_ble_eq_true rfl) (Nat.le_of_ble_eq_true rfl) (Nat.le_of_ble_eq_true rfl) (fun v h' nx' q => ?_)
      obtain ⟨rfl, rfl, hnx⟩ := q
      subst nx'
      refine Ok.i2l dX12_bestOf_122 ?_
      refine Ok.lmul dX12_bestOf_123 ?_
      refine Ok.lsub dX12_bestOf_124 ?_
      refine Ok.iload dX12_bestOf_125 rfl ?_
      refine Ok.i2l dX12_bestOf_127 ?_
      refine Ok.lload dX12_bestOf_128 rfl ?_
      refine Ok.lmul dX12_bestOf_130 ?_
      refine Ok.ldc (v := nI 1000000) dX12_bestOf_131 wd1270 ?_
      refine Ok.iload dX12_bestOf_133 rfl ?_
      refine Ok.isub dX12_bestOf_135 ?_
      refine Ok.i2l dX12_bestOf_136 ?_
      refine Ok.lload dX12_bestOf_137 rfl ?_
      refine Ok.lmul dX12_bestOf_139 ?_
      refine Ok.ladd dX12_bestOf_140 ?_
      refine Ok.ldc2_w (v := 1000000) dX12_bestOf_141 wd1332 ?_
      refine Ok.ldiv dX12_bestOf_144 (by decide +kernel) ?_
      refine Ok.ladd dX12_bestOf_145 ?_
      refine Ok.lstore dX12_bestOf_146 (by decide) ?_
      refine Ok.aload_n dX12_bestOf_148 rfl ?_
      refine Ok.mget_bestsAt rfl dX12_bestOf_149 ?_
      refine Ok.iload_n dX12_bestOf_152 rfl ?_
      refine Ok.aload_n dX12_bestOf_153 rfl ?_
      refine Ok.mget_stamp rfl dX12_bestOf_154 ?_
      refine Ok.mast_bestsAtN dX12_bestOf_157 (by omega) ?_
      refine Ok.aload_n dX12_bestOf_158 rfl ?_
      refine Ok.mget_nots rfl dX12_bestOf_159 ?_
      refine Ok.iload_n dX12_bestOf_162 rfl ?_
      refine Ok.lload dX12_bestOf_163 rfl ?_
      refine Ok.mast_notsN dX12_bestOf_165 (by omega) ?_
      refine Ok.aload_n dX12_bestOf_166 rfl ?_
      refine Ok.mget_lookeds rfl dX12_bestOf_167 ?_
      refine Ok.iload_n dX12_bestOf_170 rfl ?_
      refine Ok.lload dX12_bestOf_171 rfl ?_
      refine Ok.mast_lookedsN dX12_bestOf_173 (by omega) ?_
      have F3 : FrM [14, 15, 16, 17] st st3 := (hF1.trans (hF2.trans hF3)).mono (by decide)
      have e18 : mi st3 18 = mi st 18 := F3.of1 18 (by decide)
      have b0 : bP st3 t (n + 1) p = bP st t (n + 1) p := bP_fr F3 (by decide) (by decide) (by decide) (n + 1) p
      have b2 := bP_fr (t := t) hF1 (by decide) (by decide) (by decide) n 9
      have b3 := bP_fr (t := t) (hF1.trans hF2) (by decide) (by decide) (by decide) n 18
      have i1 : ma st3 1 = ma st 1 := F3.ofa 1 (by decide)
      have hNT : 1000 * (mi st 20).toInt64 + brF (ma st 1) t (ma st 12 p) + (bP st t n (p + 1)).1 = (bP st t (n + 1) p).2.1 := rfl
      have hLK : brF (ma st 1) t (ma st 12 p) - 1000 * (valF (ma st3 1) t 2).toInt64 + ((ma st 12 p).toInt64 * (bP st1 t n 9).1 + (nI 1000000 - ma st 12 p).toInt64 * ((bP st2 t n 18).1 - 1000 * (valF (ma st3 1) t 3).toInt64)) / 1000000 = (bP st t (n + 1) p).2.2 := by rw [b2, b3, i1]; rfl
      rw [hNT, hLK]
      have S3 := (hS1.trans (hS2.trans hS3 (hF2.of1 18 (by decide))) (hF1.of1 18 (by decide)))
      have M17 : ∀ (f14 f15 f16 : Nat → Int64), ml st3 15 = f15 → ml st3 16 = f16 → ml st3 14 = f14 → ∀ z : Int64, z = (bP st t (n + 1) p).1 → (fun st' : MS => FrM [14, 15, 16, 17] st st' ∧ MemoOk st' t ∧ (1 ≤ n + 1 → ma st' 17 (9 * p + (n + 1)) = mi st 18) ∧ Stm st st') (msl (msl (msl (msa st3 17 (upK (ma st3 17) (9 * p + (n + 1)) (mi st3 18))) 15 (upK f15 (9 * p + (n + 1)) (bP st t (n + 1) p).2.1)) 16 (upK f16 (9 * p + (n + 1)) (bP st t (n + 1) p).2.2)) 14 (upK f14 (9 * p + (n + 1)) z)) := by
        intro f14 f15 f16 q15 q16 q14 z hz
        subst q14; subst q15; subst q16; subst hz
        have F4 : FrM [14, 15, 16, 17] st3 (msl (msl (msl (msa st3 17 (upK (ma st3 17) (9 * p + (n + 1)) (mi st3 18))) 15 (upK (ml st3 15) (9 * p + (n + 1)) (bP st t (n + 1) p).2.1)) 16 (upK (ml st3 16) (9 * p + (n + 1)) (bP st t (n + 1) p).2.2)) 14 (upK (ml st3 14) (9 * p + (n + 1)) (bP st t (n + 1) p).1)) :=
          ((FrM.msa (ks := [14, 15, 16, 17]) (by decide)).trans ((FrM.msl (ks := [14, 15, 16, 17]) (by decide)).trans ((FrM.msl (ks := [14, 15, 16, 17]) (by decide)).trans (FrM.msl (ks := [14, 15, 16, 17]) (by decide))))).mono (by decide)
        refine ⟨(F3.trans F4).mono (by decide), ?_, fun _ => upK_s.trans e18, fun i => ?_⟩
        · refine memo_put (p := p) hm3 (by omega) h8 F4 (upK_s (f := st3.2.1) (k := 17)) ?_ ?_ ?_
          · rw [b0]; exact ml_msl_s
          · rw [b0]; exact (ml_msl_n (by decide)).trans ((ml_msl_n (by decide)).trans ml_msl_s)
          · rw [b0]; exact (ml_msl_n (by decide)).trans ml_msl_s
        · by_cases e : i = 9 * p + (n + 1)
          · subst e
            exact Or.inr (upK_s.trans e18)
          · rcases S3 i with q | q
            · exact Or.inl ((upK_n e).trans q)
            · exact Or.inr ((upK_n e).trans q)
      refine Ok.aload_n dX12_bestOf_174 rfl ?_
      refine Ok.mget_bests rfl dX12_bestOf_175 ?_
      refine Ok.iload_n dX12_bestOf_178 rfl ?_
      refine Ok.lload dX12_bestOf_179 rfl ?_
      refine Ok.lload dX12_bestOf_181 rfl ?_
      refine Ok.lcmp dX12_bestOf_183 ?_
      have hb : (bP st t (n + 1) p).1 = if (bP st t (n + 1) p).2.1 ≤ (bP st t (n + 1) p).2.2 then (bP st t (n + 1) p).2.2 else (bP st t (n + 1) p).2.1 := rfl
      refine Ok.if_le (tgt := 192) dX12_bestOf_184 (by decide) (fun c184 => ?_) (fun c184 => ?_)
      · have hz : (bP st t (n + 1) p).2.2 = (bP st t (n + 1) p).1 := by rw [hb, if_pos ((lg_cmp_le _ _).mp c184)]
        refine Ok.lload dX12_bestOf_192 rfl ?_
        refine Ok.mast_bestsN dX12_bestOf_194 (by omega) ?_
        refine Ok.aload_n dX12_bestOf_195 rfl ?_
        refine Ok.mget_bests rfl dX12_bestOf_196 ?_
        refine Ok.iload_n dX12_bestOf_199 rfl ?_
        refine Ok.mald_bestsN (v := (bP st t (n + 1) p).1) dX12_bestOf_200 (by omega) ((congrFun ml_msl_s _).trans (upK_s.trans hz)) ?_
        exact Ok.lret dX12_bestOf_201 rfl (Nat.zero_le _) (Nat.zero_le _) ⟨rfl, ⟨_, rfl, M17 _ _ _ rfl (ml_msl_n (by decide)).symm ((ml_msl_n (by decide)).trans (ml_msl_n (by decide))).symm _ hz⟩, rfl⟩
      · have hz : (bP st t (n + 1) p).2.1 = (bP st t (n + 1) p).1 := by rw [hb, if_neg (fun q => c184 ((lg_cmp_le _ _).mpr q))]
        refine Ok.lload dX12_bestOf_187 rfl ?_
        refine Ok.goto (tgt := 194) dX12_bestOf_189 (by decide) ?_
        refine Ok.mast_bestsN dX12_bestOf_194 (by omega) ?_
        refine Ok.aload_n dX12_bestOf_195 rfl ?_
        refine Ok.mget_bests rfl dX12_bestOf_196 ?_
        refine Ok.iload_n dX12_bestOf_199 rfl ?_
        refine Ok.mald_bestsN (v := (bP st t (n + 1) p).1) dX12_bestOf_200 (by omega) ((congrFun ml_msl_s _).trans (upK_s.trans hz)) ?_
        exact Ok.lret dX12_bestOf_201 rfl (Nat.zero_le _) (Nat.zero_le _) ⟨rfl, ⟨_, rfl, M17 _ _ _ rfl (ml_msl_n (by decide)).symm ((ml_msl_n (by decide)).trans (ml_msl_n (by decide))).symm _ hz⟩, rfl⟩
