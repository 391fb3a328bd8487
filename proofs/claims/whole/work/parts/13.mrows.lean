/-! THE REFERENCE: a day's end for all things, what a day brings, the rows of the days to come -/
/-- alike but for known and days -/
def AgS (s s' : Nat → Int32) : Prop := ∀ k : Nat, (k < 1034 ∨ 1050 ≤ k) → s' k = s k
theorem AgS.rf {s : Nat → Int32} : AgS s s := fun _ _ => rfl
theorem AgS.trans {a b c : Nat → Int32} (h1 : AgS a b) (h2 : AgS b c) : AgS a c := fun k hk => (h2 k hk).trans (h1 k hk)
theorem AgS.up {s : Nat → Int32} {k : Nat} {x : Int32} (h1 : 1034 ≤ k) (h2 : k < 1050) : AgS s (upK s k x) := fun j hj => upK_n (by omega)
theorem sN_ag {s s' : Nat → Int32} (h : AgS s s') {k : Nat} (hk : k < 1034 ∨ 1050 ≤ k) : sN s' k = sN s k := by unfold sN; rw [h k hk]
theorem codeL_ag {s s' : Nat → Int32} (h : AgS s s') {a : Nat} (ha : a < 6) (hl : sN s (130 + a) ≤ 140) : codeL s' a = codeL s a := by
  unfold codeL
  rw [sN_ag h (by omega)]
  refine List.map_congr_left (fun j hj => h _ ?_)
  have := List.mem_range.mp hj
  omega
theorem CodeOk_ag {s s' : Nat → Int32} (h : AgS s s') {a : Nat} (ha : a < 6) (hc : CodeOk s a) : CodeOk s' a := by
  obtain ⟨h1, h2, h3⟩ := hc
  refine ⟨?_, ?_, ?_⟩
  · rw [sN_ag h (by omega), h _ (by omega)]; exact h1
  · rw [sN_ag h (by omega)]; exact h2
  · rw [codeL_ag h ha h2]; exact h3
theorem sumF_ag {s s' : Nat → Int32} (h : AgS s s') {a : Nat} (ha : a < 6) (hc : CodeOk s a) : sumF s' a = sumF s a := by
  unfold sumF
  rw [codeL_ag h ha hc.2.1]
theorem ThOk_ag {s s' : Nat → Int32} (h : AgS s s') {t : Nat} (ht : ThOk s t) : ThOk s' t := by
  obtain ⟨h1, h2, h3, h4⟩ := ht
  have e := sN_ag h (k := 1010 + t) (by omega)
  refine ⟨h1, ?_, ?_, ?_⟩
  · rw [e, h _ (by omega)]; exact h2
  · rw [e]; exact h3
  · rw [e]; exact CodeOk_ag h h3 h4
theorem valF_ag {s s' : Nat → Int32} (h : AgS s s') {t w : Nat} (ht : ThOk s t) (hw : w < 4) : valF s' t w = valF s t w := by
  obtain ⟨h1, h2, h3, h4⟩ := ht
  unfold valF
  rw [sN_ag h (k := 1010 + t) (by omega)]
  exact h _ (by omega)
theorem healF_ag {s s' : Nat → Int32} (h : AgS s s') {t : Nat} (ht : ThOk s t) : healF s' t = healF s t := by
  obtain ⟨h1, h2, h3, h4⟩ := ht
  unfold healF
  rw [sN_ag h (k := 1010 + t) (by omega), sumF_ag h h3 h4, h _ (by omega)]
theorem illF_ag {st st' : MS} (h : AgS (ma st 1) (ma st' 1)) (e1 : mi st' 10 = mi st 10) (e2 : mi st' 11 = mi st 11) {t : Nat} (ht : ThOk (ma st 1) t) : illF st' t = illF st t := by
  obtain ⟨h1, h2, h3, h4⟩ := ht
  unfold illF
  rw [sN_ag h (k := 1010 + t) (by omega), sumF_ag h h3 h4, h (1018 + t) (by omega), e1, e2]
theorem overF_ag {st st' : MS} (h : AgS (ma st 1) (ma st' 1)) (e1 : mi st' 10 = mi st 10) (e2 : mi st' 11 = mi st 11) {t : Nat} (ht : ThOk (ma st 1) t) : overF st' t = overF st t := by
  unfold overF
  rw [illF_ag h e1 e2 ht, healF_ag h ht]
def ovStep (st : MS) (t : Nat) : MS := msa st 1 (upK (upK (ma st 1) (1034 + t) (overF st t (ma st 1 (1034 + t)) (ma st 1 (1042 + t)))) (1042 + t) (laterF (ma st 1 (1042 + t))))
def ovS (st : MS) : Nat → MS
  | 0 => st
  | j + 1 => ovStep (ovS st j) j
theorem ovStep_ag {st : MS} {t : Nat} (ht : t < 8) : AgS (ma st 1) (ma (ovStep st t) 1) := by
  unfold ovStep
  rw [ma_msa_s]
  exact (AgS.up (by omega) (by omega)).trans (AgS.up (by omega) (by omega))
theorem ovS_ag {st : MS} : ∀ {j : Nat}, j ≤ 8 → AgS (ma st 1) (ma (ovS st j) 1)
  | 0, _ => AgS.rf
  | j + 1, h => (ovS_ag (by omega)).trans (ovStep_ag (by omega))
theorem FrM.of1 {st st' : MS} {ks : List Nat} (h : FrM ks st st') (k : Nat) (hk : k ∉ ks) : mi st' k = mi st k := (h k hk).1
theorem FrM.ofa {st st' : MS} {ks : List Nat} (h : FrM ks st st') (k : Nat) (hk : k ∉ ks) : ma st' k = ma st k := (h k hk).2.1
theorem FrM.ofl {st st' : MS} {ks : List Nat} (h : FrM ks st st') (k : Nat) (hk : k ∉ ks) : ml st' k = ml st k := (h k hk).2.2
theorem ovStep_fr {st st1 : MS} {t : Nat} (h : FrM [9] st st1) : FrM [9] (ovStep st t) (ovStep st1 t) := fun k hk => by
  unfold ovStep
  rw [overF_fr h (by decide) (by decide) (by decide), h.ofa 1 (by decide)]
  refine ⟨h.of1 k hk, ?_, h.ofl k hk⟩
  by_cases e : k = 1
  · rw [e, ma_msa_s, ma_msa_s]
  · rw [ma_msa_n e, ma_msa_n e]
    exact h.ofa k hk
set_option maxRecDepth 100000 in
set_option maxHeartbeats 4000000 in
theorem over_loop (G : Gx) (d b nt : Nat) (st : MS) (h0 : Hp) (nx : Nat) (hn : ma st 1 1 = nI nt) (hl : nt ≤ 8) (ht : ∀ t, t < nt → ThOk (ma st 1) t) : ∀ (r j : Nat) (st1 : MS), j + r = nt → FrM [9] (ovS st j) st1 → Ok G mX12_over (d + 3) (fun v h' nx' => v = none ∧ (∃ st' : MS, h' = encM G b st' h0 ∧ FrM [9] (ovS st nt) st') ∧ nx' = nx) 2 [some (.ref b), some (.int (nI j))] [] (encM G b st1 h0) nx 0 0 := by
  intro r
  induction r with
  | zero =>
    intro j st1 hj hF
    have hag : AgS (ma st 1) (ma st1 1) := by rw [hF.ofa 1 (by decide)]; exact ovS_ag (by omega)
    have hn1 : ma st1 1 1 = nI nt := (hag 1 (by omega)).trans hn
    refine Ok.iload_n dX12_over_2 rfl ?_
    refine Ok.aload_n dX12_over_3 rfl ?_
    refine Ok.mget_s rfl dX12_over_4 ?_
    refine Ok.iconstV (v := nI 1) dX12_over_7 (by decide +kernel) ?_
    refine Ok.mald_sN dX12_over_8 (by omega) hn1 ?_
    refine Ok.icmp_ge (tgt := 76) dX12_over_9 (by decide) (fun c9 => ?_) (fun c9 => absurd c9 (by rw [nI_leI (by omega) (by omega)]; omega))
    exact Ok.vret dX12_over_76 rfl (Nat.zero_le _) (Nat.zero_le _) ⟨rfl, ⟨_, rfl, by rw [show nt = j by omega]; exact hF⟩, rfl⟩
  | succ r ih =>
    intro j st1 hj hF
    have hag : AgS (ma st 1) (ma st1 1) := by rw [hF.ofa 1 (by decide)]; exact ovS_ag (by omega)
    have hn1 : ma st1 1 1 = nI nt := (hag 1 (by omega)).trans hn
    have htj : ThOk (ma st1 1) j := ThOk_ag hag (ht j (by omega))
    have hj8 : j < 8 := by omega
    refine Ok.iload_n dX12_over_2 rfl ?_
    refine Ok.aload_n dX12_over_3 rfl ?_
    refine Ok.mget_s rfl dX12_over_4 ?_
    refine Ok.iconstV (v := nI 1) dX12_over_7 (by decide +kernel) ?_
    refine Ok.mald_sN dX12_over_8 (by omega) hn1 ?_
    refine Ok.icmp_ge (tgt := 76) dX12_over_9 (by decide) (fun c9 => absurd c9 (by rw [nI_leI (by omega) (by omega)]; omega)) (fun c9 => ?_)
    refine Ok.aload_n dX12_over_12 rfl ?_
    refine Ok.mget_s rfl dX12_over_13 ?_
    refine Ok.sipushV (v := nI 1034) dX12_over_16 (by decide +kernel) ?_
    refine Ok.iload_n dX12_over_19 rfl ?_
    refine Ok.iaddN dX12_over_20 ?_
    refine Ok.aload_n dX12_over_21 rfl ?_
    refine Ok.iload_n dX12_over_22 rfl ?_
    refine Ok.aload_n dX12_over_23 rfl ?_
    refine Ok.mget_s rfl dX12_over_24 ?_
    refine Ok.sipushV (v := nI 1034) dX12_over_27 (by decide +kernel) ?_
    refine Ok.iload_n dX12_over_30 rfl ?_
    refine Ok.iaddN dX12_over_31 ?_
    refine Ok.mald_sN dX12_over_32 (by omega) rfl ?_
    refine Ok.aload_n dX12_over_33 rfl ?_
    refine Ok.mget_s rfl dX12_over_34 ?_
    refine Ok.sipushV (v := nI 1042) dX12_over_37 (by decide +kernel) ?_
    refine Ok.iload_n dX12_over_40 rfl ?_
    refine Ok.iaddN dX12_over_41 ?_
    refine Ok.mald_sN dX12_over_42 (by omega) rfl ?_
    refine Ok.callV (My := mX12_overOf) (n := 3) (ci := 12) dX12_over_43 (ct_overOf G d b j st1 (ma st1 1 (1034 + j)) (ma st1 1 (1042 + j)) h0 nx htj) encM_0 rfl wd1290 wd80 wd1289 wd40 wd1287 (by decide) (by decide +kernel) (by decide) rfl rfl (Nat.le_of_ble_eq_true rfl) (Nat.le_of_ble_eq_true rfl) (Nat.le_of_ble_eq_true rfl) (fun v h' nx' q => ?_)
    obtain ⟨rfl, ⟨st2, rfl, hF2⟩, hnx⟩ := q
    subst nx'
    refine Ok.mast_sN dX12_over_46 (by omega) ?_
    refine Ok.aload_n dX12_over_47 rfl ?_
    refine Ok.mget_s rfl dX12_over_48 ?_
    refine Ok.sipushV (v := nI 1042) dX12_over_51 (by decide +kernel) ?_
    refine Ok.iload_n dX12_over_54 rfl ?_
    refine Ok.iaddN dX12_over_55 ?_
    refine Ok.aload_n dX12_over_56 rfl ?_
    refine Ok.mget_s rfl dX12_over_57 ?_
    refine Ok.sipushV (v := nI 1042) dX12_over_60 (by decide +kernel) ?_
    refine Ok.iload_n dX12_over_63 rfl ?_
    refine Ok.iaddN dX12_over_64 ?_
    refine Ok.mald_sN dX12_over_65 (by omega) (v := ma st1 1 (1042 + j)) (by rw [ma_msa_s, upK_n (by omega), hF2.ofa 1 (by decide)]) ?_
    refine Ok.callS (My := mX12_later) (n := 1) dX12_over_66 (ct_later G (d + 2) (ma st1 1 (1042 + j)) _ _) wd1302 wd80 wd1301 wd1300 (by decide) (by decide +kernel) (by decide) rfl rfl (Nat.le_of_ble_eq_true rfl) (Nat.le_of_ble_eq_true rfl) (Nat.le_of_ble_eq_true rfl) (fun v h' nx' q => ?_)
    obtain ⟨rfl, rfl, hnx⟩ := q
    subst nx'
    refine Ok.mast_sN dX12_over_69 (by omega) ?_
    refine Ok.iinc dX12_over_70 rfl (by decide) ?_
    refine Ok.goto (tgt := 2) dX12_over_73 (by decide) ?_
    rw [msa_msa, ma_msa_s, show nI j + Int32.ofInt 1 = nI (j + 1) from nI_1 j] 
    refine ih (j + 1) _ (by omega) (fun k hk => ?_)
    have e1 := ovStep_fr (t := j) hF
    have e2 : FrM [9] (ovStep st1 j) (msa st2 1 (upK (upK (ma st2 1) (1034 + j) (overF st1 j (ma st1 1 (1034 + j)) (ma st1 1 (1042 + j)))) (1042 + j) (laterF (ma st1 1 (1042 + j))))) := fun k hk => by
      unfold ovStep
      rw [hF2.ofa 1 (by decide)]
      refine ⟨hF2.of1 k hk, ?_, hF2.ofl k hk⟩
      by_cases e : k = 1
      · rw [e, ma_msa_s, ma_msa_s]
      · rw [ma_msa_n e, ma_msa_n e]
        exact hF2.ofa k hk
    exact ((e1.trans e2).mono (by decide)) k hk
set_option maxRecDepth 100000 in
set_option maxHeartbeats 4000000 in
theorem ct_over (G : Gx) (d b nt : Nat) (st : MS) (h0 : Hp) (nx : Nat) (hn : ma st 1 1 = nI nt) (hl : nt ≤ 8) (ht : ∀ t, t < nt → ThOk (ma st 1) t) : Ct G mX12_over (d + 3) (fun v h' nx' => v = none ∧ (∃ st' : MS, h' = encM G b st' h0 ∧ FrM [9] (ovS st nt) st') ∧ nx' = nx) [.ref b] (encM G b st h0) nx := by
  refine Ct.of (ls := [some (.ref b), none]) (by decide +kernel) rfl (Nat.le_of_ble_eq_true rfl) rfl ?_
  refine Ok.iconstV (v := nI 0) dX12_over_0 (by decide +kernel) ?_
  refine Ok.istore_n dX12_over_1 (by decide) ?_
  exact over_loop G d b nt st h0 nx hn hl ht nt 0 st (by omega) FrM.rf
def brF (s : Nat → Int32) (t : Nat) (kn : Int32) : Int64 := kn.toInt64 * (valF s t 0).toInt64 / 1000 - (nI 1000000 - kn).toInt64 * (valF s t 1).toInt64 / 1000
set_option maxRecDepth 100000 in
set_option maxHeartbeats 4000000 in
theorem ct_brings (G : Gx) (d b t : Nat) (st : MS) (kn : Int32) (h0 : Hp) (nx : Nat) (ht : ThOk (ma st 1) t) : Ct G mX12_brings (d + 1) (Same (some (.long (brF (ma st 1) t kn))) (encM G b st h0) nx) [.ref b, .int (nI t), .int kn] (encM G b st h0) nx := by
  refine Ct.of (ls := [some (.ref b), some (.int (nI t)), some (.int kn)]) (by decide +kernel) rfl (Nat.le_of_ble_eq_true rfl) rfl ?_
  refine Ok.iload_n dX12_brings_0 rfl ?_
  refine Ok.i2l dX12_brings_1 ?_
  refine Ok.aload_n dX12_brings_2 rfl ?_
  refine Ok.iload_n dX12_brings_3 rfl ?_
  refine Ok.iconstV (v := nI 0) dX12_brings_4 (by decide +kernel) ?_
  refine Ok.callV (My := mX12_value) (n := 2) (ci := 12) dX12_brings_5 (ct_value G d b t 0 st h0 nx ht (by decide)) encM_0 rfl wd1319 wd80 wd1318 wd44 wd1316 (by decide) (by decide +kernel) (by decide) rfl rfl (Nat.le_of_ble_eq_true rfl) (Nat.le_of_ble_eq_true rfl) (Nat.le_of_ble_eq_true rfl) (fun v h' nx' q => ?_)
  obtain ⟨rfl, rfl, hnx⟩ := q
  subst nx'
  refine Ok.i2l dX12_brings_8 ?_
  refine Ok.lmul dX12_brings_9 ?_
  refine Ok.ldc2_w (v := 1000) dX12_brings_10 wd1295 ?_
  refine Ok.ldiv dX12_brings_13 (by decide +kernel) ?_
  refine Ok.ldc (v := nI 1000000) dX12_brings_14 wd1270 ?_
  refine Ok.iload_n dX12_brings_16 rfl ?_
  refine Ok.isub dX12_brings_17 ?_
  refine Ok.i2l dX12_brings_18 ?_
  refine Ok.aload_n dX12_brings_19 rfl ?_
  refine Ok.iload_n dX12_brings_20 rfl ?_
  refine Ok.iconstV (v := nI 1) dX12_brings_21 (by decide +kernel) ?_
  refine Ok.callV (My := mX12_value) (n := 2) (ci := 12) dX12_brings_22 (ct_value G d b t 1 st h0 nx ht (by decide)) encM_0 rfl wd1319 wd80 wd1318 wd44 wd1316 (by decide) (by decide +kernel) (by decide) rfl rfl (Nat.le_of_ble_eq_true rfl) (Nat.le_of_ble_eq_true rfl) (Nat.le_of_ble_eq_true rfl) (fun v h' nx' q => ?_)
  obtain ⟨rfl, rfl, hnx⟩ := q
  subst nx'
  refine Ok.i2l dX12_brings_25 ?_
  refine Ok.lmul dX12_brings_26 ?_
  refine Ok.ldc2_w (v := 1000) dX12_brings_27 wd1295 ?_
  refine Ok.ldiv dX12_brings_30 (by decide +kernel) ?_
  refine Ok.lsub dX12_brings_31 ?_
  exact Ok.lret dX12_brings_32 rfl (Nat.zero_le _) (Nat.zero_le _) ⟨rfl, rfl, rfl⟩
