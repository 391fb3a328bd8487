/-! THE REFERENCE: those of the greatest worth; whom a plan looks at -/
def KX : List Nat := KW ++ [21]
def pickF (W : Nat → Int32) (set : Int32) : Nat → Int32
  | 0 => -1
  | t + 1 => if bitI set t = nI 0 ∧ (pickF W set t = -1 ∨ W (pickF W set t).toNatClampNeg < W t) then nI t else pickF W set t
theorem pick_s (W : Nat → Int32) (set : Int32) (t : Nat) : pickF W set (t + 1) = if bitI set t = nI 0 ∧ (pickF W set t = -1 ∨ W (pickF W set t).toNatClampNeg < W t) then nI t else pickF W set t := rfl
theorem pick_or (W : Nat → Int32) (set : Int32) : ∀ t : Nat, pickF W set t = -1 ∨ ∃ j : Nat, j < t ∧ pickF W set t = nI j
  | 0 => Or.inl rfl
  | t + 1 => by
    unfold pickF
    split
    · exact Or.inr ⟨t, by omega, rfl⟩
    · rcases pick_or W set t with h | ⟨j, h1, h2⟩
      · exact Or.inl h
      · exact Or.inr ⟨j, by omega, h2⟩
theorem pick_cg {W W' : Nat → Int32} {set : Int32} : ∀ {t : Nat}, t < 2 ^ 31 → (∀ j, j < t → W' j = W j) → pickF W' set t = pickF W set t
  | 0, _, _ => rfl
  | t + 1, ht, h => by
    have ih := pick_cg (W := W) (W' := W') (set := set) (t := t) (by omega) (fun j hj => h j (by omega))
    unfold pickF
    rw [ih, h t (by omega)]
    rcases pick_or W set t with q | ⟨j, h1, h2⟩
    · rw [q]
      simp
    · rw [h2, nI_clamp (by omega), h j (by omega)]
def grF (W : Nat → Int32) (nt : Nat) : Nat → Int32
  | 0 => nI 0
  | n + 1 => grF W nt n ||| (nI 1 <<< (pickF W (grF W nt n) nt &&& 31))
theorem gr_cg {W W' : Nat → Int32} {nt : Nat} (hn : nt < 2 ^ 31) (h : ∀ j, j < nt → W' j = W j) : ∀ n : Nat, grF W' nt n = grF W nt n
  | 0 => rfl
  | n + 1 => by
    unfold grF
    rw [gr_cg hn h n, pick_cg hn h]
set_option maxRecDepth 100000 in
set_option maxHeartbeats 4000000 in
theorem great_in (G : Gx) (d b p nt lk n : Nat) (st : MS) (h0 : Hp) (nx : Nat) (hL : LkOk (ma st 1) nt lk) (nxt : ∀ (x4 x5 x6 : Option Value), Ok G mX12_greatest (d + 1) (Same (some (.int (grF (ma st 21) nt lk))) (encM G b st h0) nx) 34 [some (.ref b), some (.int (nI p)), some (.int (grF (ma st 21) nt (n + 1))), some (.int (nI (n + 1))), x4, x5, x6] [] (encM G b st h0) nx 0 0) : ∀ (r t : Nat) (x6 : Option Value), t + r = nt → Ok G mX12_greatest (d + 1) (Same (some (.int (grF (ma st 21) nt lk))) (encM G b st h0) nx) 48 [some (.ref b), some (.int (nI p)), some (.int (grF (ma st 21) nt n)), some (.int (nI n)), some (.int (pickF (ma st 21) (grF (ma st 21) nt n) t)), some (.int (nI t)), x6] [] (encM G b st h0) nx 0 0 := by
  obtain ⟨h1, h2, h3, h4⟩ := hL
  intro r
  induction r with
  | zero =>
    intro t x6 ht
    have ht : t = nt := by omega
    subst ht
    refine Ok.iload dX12_greatest_48 rfl ?_
    refine Ok.aload_n dX12_greatest_50 rfl ?_
    refine Ok.mget_s rfl dX12_greatest_51 ?_
    refine Ok.iconstV (v := nI 1) dX12_greatest_54 (by decide +kernel) ?_
    refine Ok.mald_sN dX12_greatest_55 (by omega) h1 ?_
    refine Ok.icmp_ge (tgt := 118) dX12_greatest_56 (by decide) (fun c56 => ?_) (fun c56 => absurd c56 (by rw [nI_leI (by omega) (by omega)]; omega))
    refine Ok.iload_n dX12_greatest_118 rfl ?_
    refine Ok.iconstV (v := nI 1) dX12_greatest_119 (by decide +kernel) ?_
    refine Ok.iload dX12_greatest_120 rfl ?_
    refine Ok.ishl dX12_greatest_122 ?_
    refine Ok.ior dX12_greatest_123 ?_
    refine Ok.istore_n dX12_greatest_124 (by decide) ?_
    refine Ok.iinc dX12_greatest_125 rfl (by decide) ?_
    refine Ok.goto (tgt := 34) dX12_greatest_128 (by decide) ?_
    exact (nxt _ _ _).eql (by show lst1 _ _ _ = _; rw [show nI n + Int32.ofInt 1 = nI (n + 1) from nI_1 n]; rfl)
  | succ r ih =>
    intro t x6 ht
    have fin : ∀ (z : Int32) (x6 : Option Value), z = pickF (ma st 21) (grF (ma st 21) nt n) (t + 1) → Ok G mX12_greatest (d + 1) (Same (some (.int (grF (ma st 21) nt lk))) (encM G b st h0) nx) 110 [some (.ref b), some (.int (nI p)), some (.int (grF (ma st 21) nt n)), some (.int (nI n)), some (.int (pickF (ma st 21) (grF (ma st 21) nt n) t)), some (.int (nI t)), x6] [.int z] (encM G b st h0) nx 0 0 := by
      intro z x6 hz
      refine Ok.istore dX12_greatest_110 (by decide) ?_
      refine Ok.iinc dX12_greatest_112 rfl (by decide) ?_
      refine Ok.goto (tgt := 48) dX12_greatest_115 (by decide) ?_
      rw [show nI t + Int32.ofInt 1 = nI (t + 1) from nI_1 t, hz]
      exact ih (t + 1) x6 (by omega)
    refine Ok.iload dX12_greatest_48 rfl ?_
    refine Ok.aload_n dX12_greatest_50 rfl ?_
    refine Ok.mget_s rfl dX12_greatest_51 ?_
    refine Ok.iconstV (v := nI 1) dX12_greatest_54 (by decide +kernel) ?_
    refine Ok.mald_sN dX12_greatest_55 (by omega) h1 ?_
    refine Ok.icmp_ge (tgt := 118) dX12_greatest_56 (by decide) (fun c56 => absurd c56 (by rw [nI_leI (by omega) (by omega)]; omega)) (fun c56 => ?_)
    refine Ok.iload_n dX12_greatest_59 rfl ?_
    refine Ok.iload dX12_greatest_60 rfl ?_
    refine Ok.ishr dX12_greatest_62 ?_
    refine Ok.iconstV (v := nI 1) dX12_greatest_63 (by decide +kernel) ?_
    refine Ok.iand dX12_greatest_64 ?_
    refine Ok.if_ne (tgt := 72) dX12_greatest_65 (by decide) (fun c65 => ?_) (fun c65 => ?_)
    · refine Ok.iconstV (v := nI 0) dX12_greatest_72 (by decide +kernel) ?_
      refine Ok.istore dX12_greatest_73 (by decide) ?_
      refine Ok.iload dX12_greatest_75 rfl ?_
      refine Ok.if_eq (tgt := 108) dX12_greatest_77 (by decide) (fun c77 => ?_) (fun c77 => ?_)
      · refine Ok.iload dX12_greatest_108 rfl ?_
        exact fin _ _ (by rw [pick_s, if_neg (fun q => c65 q.1)])
      · refine Ok.iload dX12_greatest_80 rfl ?_
        refine Ok.iconstV (v := (-1)) dX12_greatest_82 (by decide +kernel) ?_
        refine Ok.icmp_eq (tgt := 103) dX12_greatest_83 (by decide) (fun c83 => ?_) (fun c83 => ?_)
        · refine Ok.iload dX12_greatest_103 rfl ?_
          refine Ok.goto (tgt := 110) dX12_greatest_105 (by decide) ?_
          exact absurd rfl c77
        · refine Ok.aload_n dX12_greatest_86 rfl ?_
          refine Ok.mget_worths rfl dX12_greatest_87 ?_
          refine Ok.iload dX12_greatest_90 rfl ?_
          refine Ok.mald_worthsN dX12_greatest_92 (by omega) rfl ?_
          refine Ok.aload_n dX12_greatest_93 rfl ?_
          refine Ok.mget_worths rfl dX12_greatest_94 ?_
          obtain ⟨j, hj, ej⟩ := (pick_or (ma st 21) (grF (ma st 21) nt n) t).resolve_left c83
          refine Ok.iload (x := nI j) dX12_greatest_97 (show _ = _ from congrArg (fun x => some (some (Value.int x))) ej) ?_
          refine Ok.mald_worthsN dX12_greatest_99 (by omega) rfl ?_
          refine Ok.icmp_le (tgt := 108) dX12_greatest_100 (by decide) (fun c100 => ?_) (fun c100 => ?_)
          · refine Ok.iload dX12_greatest_108 rfl ?_
            exact absurd rfl c77
          · refine Ok.iload dX12_greatest_103 rfl ?_
            refine Ok.goto (tgt := 110) dX12_greatest_105 (by decide) ?_
            exact absurd rfl c77
    · refine Ok.iconstV (v := nI 1) dX12_greatest_68 (by decide +kernel) ?_
      refine Ok.goto (tgt := 73) dX12_greatest_69 (by decide) ?_
      refine Ok.istore dX12_greatest_73 (by decide) ?_
      refine Ok.iload dX12_greatest_75 rfl ?_
      refine Ok.if_eq (tgt := 108) dX12_greatest_77 (by decide) (fun c77 => ?_) (fun c77 => ?_)
      · refine Ok.iload dX12_greatest_108 rfl ?_
        exact absurd c77 (by decide)
      · refine Ok.iload dX12_greatest_80 rfl ?_
        refine Ok.iconstV (v := (-1)) dX12_greatest_82 (by decide +kernel) ?_
        refine Ok.icmp_eq (tgt := 103) dX12_greatest_83 (by decide) (fun c83 => ?_) (fun c83 => ?_)
        · refine Ok.iload dX12_greatest_103 rfl ?_
          refine Ok.goto (tgt := 110) dX12_greatest_105 (by decide) ?_
          exact fin _ _ (by rw [pick_s, if_pos ⟨c65, Or.inl c83⟩])
        · refine Ok.aload_n dX12_greatest_86 rfl ?_
          refine Ok.mget_worths rfl dX12_greatest_87 ?_
          refine Ok.iload dX12_greatest_90 rfl ?_
          refine Ok.mald_worthsN dX12_greatest_92 (by omega) rfl ?_
          refine Ok.aload_n dX12_greatest_93 rfl ?_
          refine Ok.mget_worths rfl dX12_greatest_94 ?_
          obtain ⟨j, hj, ej⟩ := (pick_or (ma st 21) (grF (ma st 21) nt n) t).resolve_left c83
          refine Ok.iload (x := nI j) dX12_greatest_97 (show _ = _ from congrArg (fun x => some (some (Value.int x))) ej) ?_
          refine Ok.mald_worthsN dX12_greatest_99 (by omega) rfl ?_
          refine Ok.icmp_le (tgt := 108) dX12_greatest_100 (by decide) (fun c100 => ?_) (fun c100 => ?_)
          · refine Ok.iload dX12_greatest_108 rfl ?_
            exact fin _ _ (by rw [pick_s, if_neg (fun q => q.2.elim c83 (fun q => Int32.not_lt.mpr c100 (by rw [ej, nI_clamp (by omega)] at q; exact q)))])
          · refine Ok.iload dX12_greatest_103 rfl ?_
            refine Ok.goto (tgt := 110) dX12_greatest_105 (by decide) ?_
            exact fin _ _ (by rw [pick_s, if_pos ⟨c65, Or.inr (by rw [ej, nI_clamp (by omega)]; exact Int32.not_le.mp c100)⟩])
set_option maxRecDepth 100000 in
set_option maxHeartbeats 4000000 in
theorem great_out (G : Gx) (d b p nt lk : Nat) (st : MS) (h0 : Hp) (nx : Nat) (hL : LkOk (ma st 1) nt lk) : ∀ (r n : Nat) (x4 x5 x6 : Option Value), n + r = lk → Ok G mX12_greatest (d + 1) (Same (some (.int (grF (ma st 21) nt lk))) (encM G b st h0) nx) 34 [some (.ref b), some (.int (nI p)), some (.int (grF (ma st 21) nt n)), some (.int (nI n)), x4, x5, x6] [] (encM G b st h0) nx 0 0 := by
  have hL0 := hL
  obtain ⟨h1, h2, h3, h4⟩ := hL
  intro r
  induction r with
  | zero =>
    intro n x4 x5 x6 hn
    have hn : n = lk := by omega
    subst hn
    refine Ok.iload_n dX12_greatest_34 rfl ?_
    refine Ok.aload_n dX12_greatest_35 rfl ?_
    refine Ok.callV (My := mX12_looking) (n := 0) (ci := 12) dX12_greatest_36 (ct_looking G d b st h0 nx) encM_0 rfl wd1376 wd80 wd1375 wd52 wd1373 (by decide) (by decide +kernel) (by decide) rfl rfl (Nat.le_of_ble_eq_true rfl) (Nat.le_of_ble_eq_true rfl) (Nat.le_of_ble_eq_true rfl) (fun v h' nx' q => ?_)
    obtain ⟨rfl, rfl, hnx⟩ := q
    subst nx'
    rw [h3]
    refine Ok.icmp_ge (tgt := 131) dX12_greatest_39 (by decide) (fun c39 => ?_) (fun c39 => absurd c39 (by rw [nI_leI (by omega) (by omega)]; omega))
    refine Ok.iload_n dX12_greatest_131 rfl ?_
    exact Ok.iret dX12_greatest_132 rfl (Nat.zero_le _) (Nat.zero_le _) ⟨rfl, rfl, rfl⟩
  | succ r ih =>
    intro n x4 x5 x6 hn
    refine Ok.iload_n dX12_greatest_34 rfl ?_
    refine Ok.aload_n dX12_greatest_35 rfl ?_
    refine Ok.callV (My := mX12_looking) (n := 0) (ci := 12) dX12_greatest_36 (ct_looking G d b st h0 nx) encM_0 rfl wd1376 wd80 wd1375 wd52 wd1373 (by decide) (by decide +kernel) (by decide) rfl rfl (Nat.le_of_ble_eq_true rfl) (Nat.le_of_ble_eq_true rfl) (Nat.le_of_ble_eq_true rfl) (fun v h' nx' q => ?_)
    obtain ⟨rfl, rfl, hnx⟩ := q
    subst nx'
    rw [h3]
    refine Ok.icmp_ge (tgt := 131) dX12_greatest_39 (by decide) (fun c39 => absurd c39 (by rw [nI_leI (by omega) (by omega)]; omega)) (fun c39 => ?_)
    refine Ok.iconstV (v := (-1)) dX12_greatest_42 (by decide +kernel) ?_
    refine Ok.istore dX12_greatest_43 (by decide) ?_
    refine Ok.iconstV (v := nI 0) dX12_greatest_45 (by decide +kernel) ?_
    refine Ok.istore dX12_greatest_46 (by decide) ?_
    exact great_in G d b p nt lk n st h0 nx hL0 (fun x4 x5 x6 => ih (n + 1) x4 x5 x6 (by omega)) nt 0 _ (by omega)
set_option maxRecDepth 100000 in
set_option maxHeartbeats 4000000 in
theorem great_fill (G : Gx) (d b p nt lk N : Nat) (st : MS) (h0 : Hp) (nx : Nat) (hL : LkOk (ma st 1) nt lk) (hp : PlOk (ma st 1) p) (ht : ∀ t, t < nt → ThOk (ma st 1) t) (hb : N + 1608 < 2 ^ 31) : ∀ (r t : Nat) (st1 : MS) (N1 : Nat), t + r = nt → FrM KX st st1 → StOk st1 N1 → N1 ≤ N + 201 * t → (∀ j, j < t → ma st1 21 j = woF st p j) → Ok G mX12_greatest (d + 10) (fun v h' nx' => v = some (.int (grF (woF st p) nt lk)) ∧ (∃ (st' : MS) (N' : Nat), h' = encM G b st' h0 ∧ FrM KX st st' ∧ StOk st' N' ∧ N' ≤ N + 1608) ∧ nx' = nx) 2 [some (.ref b), some (.int (nI p)), some (.int (nI t)), none, none, none, none] [] (encM G b st1 h0) nx 0 0 := by
  have hL0 := hL
  obtain ⟨h1, h2, h3, h4⟩ := hL
  intro r
  induction r with
  | zero =>
    intro t st1 N1 hr hF hN hle hW
    have hr : t = nt := by omega
    subst hr
    have e1 : ma st1 1 = ma st 1 := hF.ofa 1 (by decide)
    refine Ok.iload_n dX12_greatest_2 rfl ?_
    refine Ok.aload_n dX12_greatest_3 rfl ?_
    refine Ok.mget_s rfl dX12_greatest_4 ?_
    refine Ok.iconstV (v := nI 1) dX12_greatest_7 (by decide +kernel) ?_
    refine Ok.mald_sN dX12_greatest_8 (by omega) ((congrFun e1 1).trans h1) ?_
    refine Ok.icmp_ge (tgt := 30) dX12_greatest_9 (by decide) (fun c9 => ?_) (fun c9 => absurd c9 (by rw [nI_leI (by omega) (by omega)]; omega))
    refine Ok.iconstV (v := nI 0) dX12_greatest_30 (by decide +kernel) ?_
    refine Ok.istore_n dX12_greatest_31 (by decide) ?_
    refine Ok.iconstV (v := nI 0) dX12_greatest_32 (by decide +kernel) ?_
    refine Ok.istore_n dX12_greatest_33 (by decide) ?_
    exact (great_out G (d + 9) b p t lk st1 h0 nx (by rw [e1]; exact hL0) lk 0 none none none (by omega)).weakP (fun v h' nx' q => ⟨q.1.trans (congrArg (fun x => some (Value.int x)) (gr_cg (by omega) hW lk)), ⟨st1, N1, q.2.1, hF, hN, by omega⟩, q.2.2⟩)
  | succ r ih =>
    intro t st1 N1 hr hF hN hle hW
    have e1 : ma st1 1 = ma st 1 := hF.ofa 1 (by decide)
    have hwo : woF st1 p t = woF st p t := woF_fr hF (by decide) (by decide) (by decide)
    refine Ok.iload_n dX12_greatest_2 rfl ?_
    refine Ok.aload_n dX12_greatest_3 rfl ?_
    refine Ok.mget_s rfl dX12_greatest_4 ?_
    refine Ok.iconstV (v := nI 1) dX12_greatest_7 (by decide +kernel) ?_
    refine Ok.mald_sN dX12_greatest_8 (by omega) ((congrFun e1 1).trans h1) ?_
    refine Ok.icmp_ge (tgt := 30) dX12_greatest_9 (by decide) (fun c9 => absurd c9 (by rw [nI_leI (by omega) (by omega)]; omega)) (fun c9 => ?_)
    refine Ok.aload_n dX12_greatest_12 rfl ?_
    refine Ok.mget_worths rfl dX12_greatest_13 ?_
    refine Ok.iload_n dX12_greatest_16 rfl ?_
    refine Ok.aload_n dX12_greatest_17 rfl ?_
    refine Ok.iload_n dX12_greatest_18 rfl ?_
    refine Ok.iload_n dX12_greatest_19 rfl ?_
    refine Ok.callV (My := mX12_worth) (n := 2) (ci := 12) dX12_greatest_20 (ct_worth G d b p t N1 st1 h0 nx (by rw [e1]; exact hp) (by rw [e1]; exact ht t (by omega)) hN (by omega)) encM_0 rfl wd1395 wd80 wd1394 wd56 wd1392 (by decide) (by decide +kernel) (by decide) rfl rfl (Nat.le_of_ble_eq_true rfl) (Nat.le_of_ble_eq_true rfl) (Nat.le_of_ble_eq_true rfl) (fun v h' nx' q => ?_)
    obtain ⟨rfl, ⟨st2, N2, rfl, hF2, hN2, hl2⟩, hnx⟩ := q
    subst nx'
    refine Ok.mast_worthsN dX12_greatest_23 (by omega) ?_
    refine Ok.iinc dX12_greatest_24 rfl (by decide) ?_
    refine Ok.goto (tgt := 2) dX12_greatest_27 (by decide) ?_
    rw [show nI t + Int32.ofInt 1 = nI (t + 1) from nI_1 t]
    refine ih (t + 1) _ N2 (by omega) ((hF.trans (hF2.trans (FrM.msa (ks := [21]) (by decide)))).mono (by decide)) ⟨hN2.1, fun i => by rw [ma_msa_n (by decide)]; exact hN2.2 i⟩ (by omega) (fun j hj => ?_)
    rw [ma_msa_s]
    by_cases e : j = t
    · rw [e, upK_s, hwo]
    · rw [upK_n e, hF2.ofa 21 (by decide)]
      exact hW j (by omega)
set_option maxRecDepth 100000 in
set_option maxHeartbeats 4000000 in
theorem ct_greatest (G : Gx) (d b p nt lk N : Nat) (st : MS) (h0 : Hp) (nx : Nat) (hL : LkOk (ma st 1) nt lk) (hp : PlOk (ma st 1) p) (ht : ∀ t, t < nt → ThOk (ma st 1) t) (hN : StOk st N) (hb : N + 1608 < 2 ^ 31) : Ct G mX12_greatest (d + 10) (fun v h' nx' => v = some (.int (grF (woF st p) nt lk)) ∧ (∃ (st' : MS) (N' : Nat), h' = encM G b st' h0 ∧ FrM KX st st' ∧ StOk st' N' ∧ N' ≤ N + 1608) ∧ nx' = nx) [.ref b, .int (nI p)] (encM G b st h0) nx := by
  refine Ct.of (ls := [some (.ref b), some (.int (nI p)), none, none, none, none, none]) (by decide +kernel) rfl (Nat.le_of_ble_eq_true rfl) rfl ?_
  refine Ok.iconstV (v := nI 0) dX12_greatest_0 (by decide +kernel) ?_
  refine Ok.istore_n dX12_greatest_1 (by decide) ?_
  exact great_fill G d b p nt lk N st h0 nx hL hp ht hb nt 0 st N (by omega) FrM.rf hN (by omega) (fun j hj => by omega)
