theorem here_cg {tp tq : Nat → Int32} {z p : Nat} (hz : z ≤ 120) (h : ∀ i, i < 120 → tq i = tp i) : hereP tq z p = hereP tp z p := by
  unfold hereP
  by_cases c : z ≤ p
  · rw [if_pos c, if_pos c]
  · rw [if_neg c, if_neg c, h p (by omega)]
theorem fg_cg {tp tq : Nat → Int32} {z : Nat} (hz : z ≤ 120) (h : ∀ i, i < 120 → tq i = tp i) : ∀ (r : Nat) (v : Int32) (p : Nat), fgL tq z r v p = fgL tp z r v p
  | 0, _, _ => rfl
  | r + 1, v, p => by
    unfold fgL
    rw [here_cg hz h, fg_cg hz h r]
theorem fr578 {st st' : MS} (h : ∀ k, k ≠ 5 → k ≠ 7 → k ≠ 8 → mi st' k = mi st k) (h2 : ma st' = ma st) (h3 : ml st' = ml st) : FrM [5, 7, 8] st st' := fun k hk => by
  have q : k ≠ 5 ∧ k ≠ 7 ∧ k ≠ 8 := ⟨fun e => hk (by rw [e]; decide), fun e => hk (by rw [e]; decide), fun e => hk (by rw [e]; decide)⟩
  exact ⟨h k q.1 q.2.1 q.2.2, by rw [h2], by rw [h3]⟩
/-- what a reading leaves -/
def Rs (st : MS) (a c d : Nat) (r : Bool × Nat × List Int32) (st' : MS) : Prop := ∃ X : Nat → Int32, FrM [5, 7, 8] (msa st 1 X) st' ∧ mi st' 5 = nI r.2.1 ∧ mi st' 8 = nI d ∧ (r.1 = true → mi st' 7 = nI 0 ∧ X = emR (ma st 1) a c r.2.2) ∧ (r.1 = false → mi st' 7 = nI 1 ∧ AgF a (ma st 1) X)
/-- a reader at work -/
def Rd (st : MS) (tp : Nat → Int32) (z p a c d : Nat) : Prop := AtP st z p ∧ mi st 7 = nI 0 ∧ mi st 8 = nI d ∧ mi st 4 = nI a ∧ a < 6 ∧ ma st 1 (130 + a) = nI c ∧ c ≤ p ∧ ∀ i, i < 120 → tpM st i = tp i
theorem Rs.bad {st st' : MS} {a c d p : Nat} (h : ∀ k, k ≠ 5 → k ≠ 7 → k ≠ 8 → mi st' k = mi st k) (h2 : ma st' = ma st) (h3 : ml st' = ml st) (h5 : mi st' 5 = nI p) (h8 : mi st' 8 = nI d) (h7 : mi st' 7 = nI 1) : Rs st a c d (false, p, []) st' := ⟨ma st 1, by rw [msa_self]; exact fr578 h h2 h3, h5, h8, fun q => absurd q (show ¬ false = true by decide), fun _ => ⟨h7, AgF.rf⟩⟩
section P2
variable {G : Gx} {b : Nat} {h0 : Hp} {nx : Nat}
set_option maxRecDepth 100000 in
set_option maxHeartbeats 4000000 in
theorem f_210W {st : MS} {ce cf cs : Hp → Nat → Nat → Rz Unit} (h7 : mi st 7 = nI 1) {s1 s2 l1 l2 : Int32} : F_X12_factor_210 G ce cf cs (encM G b st h0) nx b s1 s2 b l1 l2 = some ((), encM G b (msi st 5 (s1 + s2)) h0, nx) := by
  have h7' : mi (msi st 5 (s1 + s2)) 7 = nI 1 := by rw [mi_msi_n (by decide)]; exact h7
  have e := f_figW (G := G) (b := b) (h0 := h0) (nx := nx) h7'
  have em := fun x => f_emitsW (G := G) (b := b) (h0 := h0) (nx := nx) h7' x
  unfold F_X12_factor_210 F_X12_factor_231 F_X12_factor_253
  simp (maxSteps := 3000000) (disch := omega) only [e, em, ma_msa_n, ma_msa_s, mi_msi_n, mi_msi_s, ml_msl_n, ml_msl_s, ma_msi, ma_msl, mi_msa, mi_msl, ml_msa, ml_msi, msa_msa, msi_msi, msl_msl, ck_m, gf_s, gf_image, gf_truths, gf_knownRow, gf_daysRow, gf_bests, gf_nots, gf_lookeds, gf_bestsAt, gf_worths, gf_keptKnown, gf_keptDays, gf_round, gf_sums, gf_bestRound, gf_bodies, gf_thrown, gf_hasImage, gf_act, gf_spot, gf_size, gf_isWrong, gf_open, gf_edgeThing, gf_edgeMore, gf_stamp, gf_whose, gf_wage, gf_roundMany, gf_bestSet, gf_ran, gf_kind, gf_who, gf_tellsV, pf_thrown, pf_hasImage, pf_act, pf_spot, pf_size, pf_isWrong, pf_open, pf_edgeThing, pf_edgeMore, pf_stamp, pf_whose, pf_wage, pf_roundMany, pf_bestSet, pf_ran, pf_kind, pf_who, pf_tellsV, al_s, as_s, al_image, as_image, al_truths, as_truths0, as_truths1, al_knownRow, as_knownRow, al_daysRow, as_daysRow, al_bests, as_bests, al_nots, as_nots, al_lookeds, as_lookeds, al_bestsAt, as_bestsAt, al_worths, as_worths, al_keptKnown, as_keptKnown, al_keptDays, as_keptDays, al_round, as_round, al_sums, as_sums, al_bestRound, as_bestRound, al_bodies, as_bodies, cl_some, nm_b, nn_some, qn_some, qn_none, zk_0, zk_1, zk_n0, zk_n1, nI_add, pk_mul, pk_sub, nI_leE, nI_ltE, nI_eqE, nI_lt0, nI_ge0, nI_eq0, nI_gt0, nI_le0, ilt_t, ilt_f, ile_t, ile_f, ieq_t, ieq_f, if_tt, if_ff, Nat.add_sub_cancel]
  repeat' split
  all_goals rfl
set_option maxRecDepth 100000 in
set_option maxHeartbeats 4000000 in
theorem f_210 {st : MS} {tp : Nat → Int32} {z q a c d : Nat} {ce cf cs : Hp → Nat → Nat → Rz Unit} (hR : Rd (msi st 5 (nI q)) tp z q a c d) (hc : c < 140) {s1 s2 l1 l2 : Int32} (hs : s1 + s2 = nI q) : F_X12_factor_210 G ce cf cs (encM G b st h0) nx b s1 s2 b l1 l2 = some ((), encM G b (if isFg tp z q then msa (msi st 5 (nI (fgL tp z 3 (nI 0) q).2)) 1 (emR (ma st 1) a c [(if l1 = nI 100 then nI 0 else nI 1) + nI 2 * opN l2 + nI 8 * (fgL tp z 3 (nI 0) q).1]) else msi (msi st 5 (nI q)) 7 (nI 1)) h0, nx) := by
  obtain ⟨hA, h7, h8, h4, ha, hcn, hcp, htp⟩ := hR
  have e := f_figures (G := G) (b := b) (h0 := h0) (nx := nx) hA h7
  have hg : isFg (tpM (msi st 5 (nI q))) z q = isFg tp z q := by
    unfold isFg
    rw [here_cg hA.2.2.1 htp]
  rw [fg_cg hA.2.2.1 htp, msi_msi] at e
  unfold F_X12_factor_210 F_X12_factor_231 F_X12_factor_253 opN
  rw [hs]
  by_cases c1 : isFg tp z q
  · rw [if_pos (by rw [hg]; exact c1)] at e
    rw [if_pos c1]
    have em := fun x => f_emits (G := G) (b := b) (h0 := h0) (nx := nx) (st := msi st 5 (nI (fgL tp z 3 (nI 0) q).2)) (a := a) (c := c) (by rw [mi_msi_n (by decide)]; rw [mi_msi_n (by decide)] at h7; exact h7) (by rw [mi_msi_n (by decide)]; rw [mi_msi_n (by decide)] at h4; exact h4) ha hcn hc x
    simp (maxSteps := 3000000) (disch := omega) only [e, em, ma_msa_n, ma_msa_s, mi_msi_n, mi_msi_s, ml_msl_n, ml_msl_s, ma_msi, ma_msl, mi_msa, mi_msl, ml_msa, ml_msi, msa_msa, msi_msi, msl_msl, ck_m, gf_s, gf_image, gf_truths, gf_knownRow, gf_daysRow, gf_bests, gf_nots, gf_lookeds, gf_bestsAt, gf_worths, gf_keptKnown, gf_keptDays, gf_round, gf_sums, gf_bestRound, gf_bodies, gf_thrown, gf_hasImage, gf_act, gf_spot, gf_size, gf_isWrong, gf_open, gf_edgeThing, gf_edgeMore, gf_stamp, gf_whose, gf_wage, gf_roundMany, gf_bestSet, gf_ran, gf_kind, gf_who, gf_tellsV, pf_thrown, pf_hasImage, pf_act, pf_spot, pf_size, pf_isWrong, pf_open, pf_edgeThing, pf_edgeMore, pf_stamp, pf_whose, pf_wage, pf_roundMany, pf_bestSet, pf_ran, pf_kind, pf_who, pf_tellsV, al_s, as_s, al_image, as_image, al_truths, as_truths0, as_truths1, al_knownRow, as_knownRow, al_daysRow, as_daysRow, al_bests, as_bests, al_nots, as_nots, al_lookeds, as_lookeds, al_bestsAt, as_bestsAt, al_worths, as_worths, al_keptKnown, as_keptKnown, al_keptDays, as_keptDays, al_round, as_round, al_sums, as_sums, al_bestRound, as_bestRound, al_bodies, as_bodies, cl_some, nm_b, nn_some, qn_some, qn_none, zk_0, zk_1, zk_n0, zk_n1, nI_add, pk_mul, pk_sub, nI_leE, nI_ltE, nI_eqE, nI_lt0, nI_ge0, nI_eq0, nI_gt0, nI_le0, ilt_t, ilt_f, ile_t, ile_f, ieq_t, ieq_f, if_tt, if_ff, Nat.add_sub_cancel]
    by_cases d1 : l1 = nI 100
    · rw [if_pos d1, if_pos d1]
      by_cases d2 : l2 = nI 60
      · rw [if_pos d2, if_pos d2]
        rfl
      · rw [if_neg d2, if_neg d2]
        by_cases d3 : l2 = nI 61
        · rw [if_pos d3, if_pos d3]
          rfl
        · rw [if_neg d3, if_neg d3]
          rfl
    · rw [if_neg d1, if_neg d1]
      by_cases d2 : l2 = nI 60
      · rw [if_pos d2, if_pos d2]
        rfl
      · rw [if_neg d2, if_neg d2]
        by_cases d3 : l2 = nI 61
        · rw [if_pos d3, if_pos d3]
          rfl
        · rw [if_neg d3, if_neg d3]
          rfl
  · rw [if_neg (by rw [hg]; exact c1)] at e
    rw [if_neg c1]
    have em := fun x => f_emitsW (G := G) (b := b) (h0 := h0) (nx := nx) (st := msi (msi st 5 (nI q)) 7 (nI 1)) mi_msi_s x
    simp (maxSteps := 3000000) (disch := omega) only [e, em, ma_msa_n, ma_msa_s, mi_msi_n, mi_msi_s, ml_msl_n, ml_msl_s, ma_msi, ma_msl, mi_msa, mi_msl, ml_msa, ml_msi, msa_msa, msi_msi, msl_msl, ck_m, gf_s, gf_image, gf_truths, gf_knownRow, gf_daysRow, gf_bests, gf_nots, gf_lookeds, gf_bestsAt, gf_worths, gf_keptKnown, gf_keptDays, gf_round, gf_sums, gf_bestRound, gf_bodies, gf_thrown, gf_hasImage, gf_act, gf_spot, gf_size, gf_isWrong, gf_open, gf_edgeThing, gf_edgeMore, gf_stamp, gf_whose, gf_wage, gf_roundMany, gf_bestSet, gf_ran, gf_kind, gf_who, gf_tellsV, pf_thrown, pf_hasImage, pf_act, pf_spot, pf_size, pf_isWrong, pf_open, pf_edgeThing, pf_edgeMore, pf_stamp, pf_whose, pf_wage, pf_roundMany, pf_bestSet, pf_ran, pf_kind, pf_who, pf_tellsV, al_s, as_s, al_image, as_image, al_truths, as_truths0, as_truths1, al_knownRow, as_knownRow, al_daysRow, as_daysRow, al_bests, as_bests, al_nots, as_nots, al_lookeds, as_lookeds, al_bestsAt, as_bestsAt, al_worths, as_worths, al_keptKnown, as_keptKnown, al_keptDays, as_keptDays, al_round, as_round, al_sums, as_sums, al_bestRound, as_bestRound, al_bodies, as_bodies, cl_some, nm_b, nn_some, qn_some, qn_none, zk_0, zk_1, zk_n0, zk_n1, nI_add, pk_mul, pk_sub, nI_leE, nI_ltE, nI_eqE, nI_lt0, nI_ge0, nI_eq0, nI_gt0, nI_le0, ilt_t, ilt_f, ile_t, ile_f, ieq_t, ieq_f, if_tt, if_ff, Nat.add_sub_cancel]
    repeat' split
    all_goals rfl
set_option maxRecDepth 100000 in
set_option maxHeartbeats 4000000 in
theorem f_ts {st : MS} {tp : Nat → Int32} {z p a c d : Nat} {ce cf cs : Hp → Nat → Nat → Rz Unit} (hR : Rd st tp z p a c d) : ∃ st' : MS, F_X12_factor_130 G ce cf cs (encM G b st h0) nx b (if hereP tp z p = nI 100 ∨ hereP tp z p = nI 107 then nI 0 else nI 1) b (hereP tp z p) = some ((), encM G b st' h0, nx) ∧ Rs st a c d (tsP tp z p) st' := by
  obtain ⟨hA, h7, h8, h4, ha, hc, hcp, htp⟩ := hR
  obtain ⟨h5, h6, hz, hpz⟩ := hA
  unfold F_X12_factor_130 tsP
  by_cases c1 : hereP tp z p = nI 100 ∨ hereP tp z p = nI 107
  · rw [if_pos c1, if_pos c1]
    have hin : p < z := here_in (fun q => by rw [q] at c1; exact absurd c1 (by decide))
    have e1 := f_here (G := G) (b := b) (h0 := h0) (nx := nx) (st := msi (msi st 7 (nI 0)) 5 (nI (p + 1))) (z := z) (p := p + 1) ⟨mi_msi_s, h6, hz, by omega⟩
    rw [show hereP (tpM (msi (msi st 7 (nI 0)) 5 (nI (p + 1)))) z (p + 1) = hereP tp z (p + 1) from here_cg hz htp] at e1
    generalize hy : hereP tp z (p + 1) = y at e1 ⊢
    generalize hereP tp z p = x at c1 ⊢
    unfold F_X12_factor_150 F_X12_factor_189 F_X12_factor_185 F_X12_factor_190
    simp (maxSteps := 3000000) (disch := omega) only [h5, e1, ma_msa_n, ma_msa_s, mi_msi_n, mi_msi_s, ml_msl_n, ml_msl_s, ma_msi, ma_msl, mi_msa, mi_msl, ml_msa, ml_msi, msa_msa, msi_msi, msl_msl, ck_m, gf_s, gf_image, gf_truths, gf_knownRow, gf_daysRow, gf_bests, gf_nots, gf_lookeds, gf_bestsAt, gf_worths, gf_keptKnown, gf_keptDays, gf_round, gf_sums, gf_bestRound, gf_bodies, gf_thrown, gf_hasImage, gf_act, gf_spot, gf_size, gf_isWrong, gf_open, gf_edgeThing, gf_edgeMore, gf_stamp, gf_whose, gf_wage, gf_roundMany, gf_bestSet, gf_ran, gf_kind, gf_who, gf_tellsV, pf_thrown, pf_hasImage, pf_act, pf_spot, pf_size, pf_isWrong, pf_open, pf_edgeThing, pf_edgeMore, pf_stamp, pf_whose, pf_wage, pf_roundMany, pf_bestSet, pf_ran, pf_kind, pf_who, pf_tellsV, al_s, as_s, al_image, as_image, al_truths, as_truths0, as_truths1, al_knownRow, as_knownRow, al_daysRow, as_daysRow, al_bests, as_bests, al_nots, as_nots, al_lookeds, as_lookeds, al_bestsAt, as_bestsAt, al_worths, as_worths, al_keptKnown, as_keptKnown, al_keptDays, as_keptDays, al_round, as_round, al_sums, as_sums, al_bestRound, as_bestRound, al_bodies, as_bodies, cl_some, nm_b, nn_some, qn_some, qn_none, zk_0, zk_1, zk_n0, zk_n1, nI_add, pk_mul, pk_sub, nI_leE, nI_ltE, nI_eqE, nI_lt0, nI_ge0, nI_eq0, nI_gt0, nI_le0, ilt_t, ilt_f, ile_t, ile_f, ieq_t, ieq_f, if_tt, if_ff, Nat.add_sub_cancel]
    by_cases c2 : isOp y
    · rw [if_pos c2]
      have hin2 : p + 1 < z := here_in (fun q => by rw [hy] at q; rw [q] at c2; exact absurd c2 (by decide))
      have e2 := f_210 (G := G) (b := b) (h0 := h0) (nx := nx) (st := msi (msi (msi st 7 (nI 0)) 5 (nI (p + 1))) 7 (nI 0)) (tp := tp) (z := z) (q := p + 2) (a := a) (c := c) (d := d) (ce := ce) (cf := cf) (cs := cs) (s1 := nI (p + 1)) (s2 := nI 1) (l1 := x) (l2 := y) ⟨⟨mi_msi_s, h6, hz, by omega⟩, rfl, h8, h4, ha, hc, by omega, htp⟩ (by omega) (by rw [nI_add])
      have go : ∃ st' : MS, F_X12_factor_210 G ce cf cs (encM G b (msi (msi (msi st 7 (nI 0)) 5 (nI (p + 1))) 7 (nI 0)) h0) nx b (nI (p + 1)) (nI 1) b x y = some ((), encM G b st' h0, nx) ∧ Rs st a c d (if isFg tp z (p + 2) then (true, (fgL tp z 3 (nI 0) (p + 2)).2, [(if x = nI 100 then nI 0 else nI 1) + nI 2 * opN y + nI 8 * (fgL tp z 3 (nI 0) (p + 2)).1]) else (false, p + 2, [])) st' := by
        refine ⟨_, e2, ?_⟩
        by_cases c3 : isFg tp z (p + 2)
        · rw [if_pos c3, if_pos c3]
          refine ⟨emR (ma st 1) a c [(if x = nI 100 then nI 0 else nI 1) + nI 2 * opN y + nI 8 * (fgL tp z 3 (nI 0) (p + 2)).1], ?_, by rw [mi_msa, mi_msi_s], h8, fun _ => ⟨rfl, rfl⟩, fun q => absurd q (show ¬ true = false by decide)⟩
          exact fr578 (fun k n5 n7 n8 => by
            show mi (msi (msi (msi (msi st 7 (nI 0)) 5 (nI (p + 1))) 7 (nI 0)) 5 _) k = mi st k
            rw [mi_msi_n n5, mi_msi_n n7, mi_msi_n n5, mi_msi_n n7]) rfl rfl
        · rw [if_neg c3, if_neg c3]
          exact Rs.bad (fun k n5 n7 n8 => by rw [mi_msi_n n7, mi_msi_n n5, mi_msi_n n7, mi_msi_n n5, mi_msi_n n7]) rfl rfl (by rw [mi_msi_n (by decide), mi_msi_s]) h8 mi_msi_s
      rcases c2 with c2 | c2 | c2
      · rw [if_pos c2]
        exact go
      · rw [if_neg (by rw [c2]; decide), if_pos c2]
        exact go
      · rw [if_neg (by rw [c2]; decide), if_neg (by rw [c2]; decide), if_pos c2]
        exact go
    · rw [if_neg c2, if_neg (fun q => c2 (Or.inl q)), if_neg (fun q => c2 (Or.inr (Or.inl q))), if_neg (fun q => c2 (Or.inr (Or.inr q)))]
      rw [f_210W mi_msi_s]
      refine ⟨_, rfl, ?_⟩
      exact Rs.bad (fun k n5 n7 n8 => by rw [mi_msi_n n5, mi_msi_n n7, mi_msi_n n5, mi_msi_n n7]) rfl rfl (by rw [mi_msi_s, nI_add]) h8 (by rw [mi_msi_n (by decide), mi_msi_s])
  · rw [if_neg c1, if_neg c1]
    have e1 := f_here (G := G) (b := b) (h0 := h0) (nx := nx) (st := msi (msi st 7 (nI 1)) 5 (nI (p + 0))) (z := z) (p := p) ⟨mi_msi_s, h6, hz, by omega⟩
    generalize hereP tp z p = x at c1 ⊢
    unfold F_X12_factor_150 F_X12_factor_189 F_X12_factor_185 F_X12_factor_190
    simp (maxSteps := 3000000) (disch := omega) only [h5, e1, ma_msa_n, ma_msa_s, mi_msi_n, mi_msi_s, ml_msl_n, ml_msl_s, ma_msi, ma_msl, mi_msa, mi_msl, ml_msa, ml_msi, msa_msa, msi_msi, msl_msl, ck_m, gf_s, gf_image, gf_truths, gf_knownRow, gf_daysRow, gf_bests, gf_nots, gf_lookeds, gf_bestsAt, gf_worths, gf_keptKnown, gf_keptDays, gf_round, gf_sums, gf_bestRound, gf_bodies, gf_thrown, gf_hasImage, gf_act, gf_spot, gf_size, gf_isWrong, gf_open, gf_edgeThing, gf_edgeMore, gf_stamp, gf_whose, gf_wage, gf_roundMany, gf_bestSet, gf_ran, gf_kind, gf_who, gf_tellsV, pf_thrown, pf_hasImage, pf_act, pf_spot, pf_size, pf_isWrong, pf_open, pf_edgeThing, pf_edgeMore, pf_stamp, pf_whose, pf_wage, pf_roundMany, pf_bestSet, pf_ran, pf_kind, pf_who, pf_tellsV, al_s, as_s, al_image, as_image, al_truths, as_truths0, as_truths1, al_knownRow, as_knownRow, al_daysRow, as_daysRow, al_bests, as_bests, al_nots, as_nots, al_lookeds, as_lookeds, al_bestsAt, as_bestsAt, al_worths, as_worths, al_keptKnown, as_keptKnown, al_keptDays, as_keptDays, al_round, as_round, al_sums, as_sums, al_bestRound, as_bestRound, al_bodies, as_bodies, cl_some, nm_b, nn_some, qn_some, qn_none, zk_0, zk_1, zk_n0, zk_n1, nI_add, pk_mul, pk_sub, nI_leE, nI_ltE, nI_eqE, nI_lt0, nI_ge0, nI_eq0, nI_gt0, nI_le0, ilt_t, ilt_f, ile_t, ile_f, ieq_t, ieq_f, if_tt, if_ff, Nat.add_sub_cancel]
    rw [f_210W mi_msi_s]
    refine ⟨_, rfl, ?_⟩
    exact Rs.bad (fun k n5 n7 n8 => by rw [mi_msi_n n5, mi_msi_n n7, mi_msi_n n5, mi_msi_n n7]) rfl rfl (by rw [mi_msi_s, nI_add]; rfl) h8 (by rw [mi_msi_n (by decide), mi_msi_s])
set_option maxRecDepth 100000 in
set_option maxHeartbeats 4000000 in
theorem f_factorW {st : MS} {m : Nat} (h7 : mi st 7 = nI 1) : F_X12_factor G (m + 1) (encM G b st h0) nx b = some ((), encM G b st h0, nx) := by
  rw [F_X12_factor_s]
  unfold B_X12_factor
  simp (maxSteps := 3000000) (disch := omega) only [h7, ma_msa_n, ma_msa_s, mi_msi_n, mi_msi_s, ml_msl_n, ml_msl_s, ma_msi, ma_msl, mi_msa, mi_msl, ml_msa, ml_msi, msa_msa, msi_msi, msl_msl, ck_m, gf_s, gf_image, gf_truths, gf_knownRow, gf_daysRow, gf_bests, gf_nots, gf_lookeds, gf_bestsAt, gf_worths, gf_keptKnown, gf_keptDays, gf_round, gf_sums, gf_bestRound, gf_bodies, gf_thrown, gf_hasImage, gf_act, gf_spot, gf_size, gf_isWrong, gf_open, gf_edgeThing, gf_edgeMore, gf_stamp, gf_whose, gf_wage, gf_roundMany, gf_bestSet, gf_ran, gf_kind, gf_who, gf_tellsV, pf_thrown, pf_hasImage, pf_act, pf_spot, pf_size, pf_isWrong, pf_open, pf_edgeThing, pf_edgeMore, pf_stamp, pf_whose, pf_wage, pf_roundMany, pf_bestSet, pf_ran, pf_kind, pf_who, pf_tellsV, al_s, as_s, al_image, as_image, al_truths, as_truths0, as_truths1, al_knownRow, as_knownRow, al_daysRow, as_daysRow, al_bests, as_bests, al_nots, as_nots, al_lookeds, as_lookeds, al_bestsAt, as_bestsAt, al_worths, as_worths, al_keptKnown, as_keptKnown, al_keptDays, as_keptDays, al_round, as_round, al_sums, as_sums, al_bestRound, as_bestRound, al_bodies, as_bodies, cl_some, nm_b, nn_some, qn_some, qn_none, zk_0, zk_1, zk_n0, zk_n1, nI_add, pk_mul, pk_sub, nI_leE, nI_ltE, nI_eqE, nI_lt0, nI_ge0, nI_eq0, nI_gt0, nI_le0, ilt_t, ilt_f, ile_t, ile_f, ieq_t, ieq_f, if_tt, if_ff, Nat.add_sub_cancel]
set_option maxRecDepth 100000 in
set_option maxHeartbeats 4000000 in
theorem f_everyW {st : MS} {m : Nat} (h7 : mi st 7 = nI 1) : F_X12_every G (m + 2) (encM G b st h0) nx b = some ((), encM G b st h0, nx) := by
  have e := f_factorW (G := G) (b := b) (h0 := h0) (nx := nx) (m := m) h7
  rw [F_X12_every_s]
  unfold B_X12_every
  simp (maxSteps := 3000000) (disch := omega) only [e, ma_msa_n, ma_msa_s, mi_msi_n, mi_msi_s, ml_msl_n, ml_msl_s, ma_msi, ma_msl, mi_msa, mi_msl, ml_msa, ml_msi, msa_msa, msi_msi, msl_msl, ck_m, gf_s, gf_image, gf_truths, gf_knownRow, gf_daysRow, gf_bests, gf_nots, gf_lookeds, gf_bestsAt, gf_worths, gf_keptKnown, gf_keptDays, gf_round, gf_sums, gf_bestRound, gf_bodies, gf_thrown, gf_hasImage, gf_act, gf_spot, gf_size, gf_isWrong, gf_open, gf_edgeThing, gf_edgeMore, gf_stamp, gf_whose, gf_wage, gf_roundMany, gf_bestSet, gf_ran, gf_kind, gf_who, gf_tellsV, pf_thrown, pf_hasImage, pf_act, pf_spot, pf_size, pf_isWrong, pf_open, pf_edgeThing, pf_edgeMore, pf_stamp, pf_whose, pf_wage, pf_roundMany, pf_bestSet, pf_ran, pf_kind, pf_who, pf_tellsV, al_s, as_s, al_image, as_image, al_truths, as_truths0, as_truths1, al_knownRow, as_knownRow, al_daysRow, as_daysRow, al_bests, as_bests, al_nots, as_nots, al_lookeds, as_lookeds, al_bestsAt, as_bestsAt, al_worths, as_worths, al_keptKnown, as_keptKnown, al_keptDays, as_keptDays, al_round, as_round, al_sums, as_sums, al_bestRound, as_bestRound, al_bodies, as_bodies, cl_some, nm_b, nn_some, qn_some, qn_none, zk_0, zk_1, zk_n0, zk_n1, nI_add, pk_mul, pk_sub, nI_leE, nI_ltE, nI_eqE, nI_lt0, nI_ge0, nI_eq0, nI_gt0, nI_le0, ilt_t, ilt_f, ile_t, ile_f, ieq_t, ieq_f, if_tt, if_ff, Nat.add_sub_cancel]
  rw [show fuelL = 2047 + 1 from rfl, F_X12_every_4_s]
  unfold F_X12_every_43
  simp (maxSteps := 3000000) (disch := omega) only [h7, ma_msa_n, ma_msa_s, mi_msi_n, mi_msi_s, ml_msl_n, ml_msl_s, ma_msi, ma_msl, mi_msa, mi_msl, ml_msa, ml_msi, msa_msa, msi_msi, msl_msl, ck_m, gf_s, gf_image, gf_truths, gf_knownRow, gf_daysRow, gf_bests, gf_nots, gf_lookeds, gf_bestsAt, gf_worths, gf_keptKnown, gf_keptDays, gf_round, gf_sums, gf_bestRound, gf_bodies, gf_thrown, gf_hasImage, gf_act, gf_spot, gf_size, gf_isWrong, gf_open, gf_edgeThing, gf_edgeMore, gf_stamp, gf_whose, gf_wage, gf_roundMany, gf_bestSet, gf_ran, gf_kind, gf_who, gf_tellsV, pf_thrown, pf_hasImage, pf_act, pf_spot, pf_size, pf_isWrong, pf_open, pf_edgeThing, pf_edgeMore, pf_stamp, pf_whose, pf_wage, pf_roundMany, pf_bestSet, pf_ran, pf_kind, pf_who, pf_tellsV, al_s, as_s, al_image, as_image, al_truths, as_truths0, as_truths1, al_knownRow, as_knownRow, al_daysRow, as_daysRow, al_bests, as_bests, al_nots, as_nots, al_lookeds, as_lookeds, al_bestsAt, as_bestsAt, al_worths, as_worths, al_keptKnown, as_keptKnown, al_keptDays, as_keptDays, al_round, as_round, al_sums, as_sums, al_bestRound, as_bestRound, al_bodies, as_bodies, cl_some, nm_b, nn_some, qn_some, qn_none, zk_0, zk_1, zk_n0, zk_n1, nI_add, pk_mul, pk_sub, nI_leE, nI_ltE, nI_eqE, nI_lt0, nI_ge0, nI_eq0, nI_gt0, nI_le0, ilt_t, ilt_f, ile_t, ile_f, ieq_t, ieq_f, if_tt, if_ff, Nat.add_sub_cancel]
set_option maxRecDepth 100000 in
set_option maxHeartbeats 4000000 in
theorem f_someW {st : MS} {m : Nat} (h7 : mi st 7 = nI 1) : F_X12_some G (m + 3) (encM G b st h0) nx b = some ((), encM G b st h0, nx) := by
  have e := f_everyW (G := G) (b := b) (h0 := h0) (nx := nx) (m := m) h7
  rw [F_X12_some_s]
  unfold B_X12_some
  simp (maxSteps := 3000000) (disch := omega) only [e, ma_msa_n, ma_msa_s, mi_msi_n, mi_msi_s, ml_msl_n, ml_msl_s, ma_msi, ma_msl, mi_msa, mi_msl, ml_msa, ml_msi, msa_msa, msi_msi, msl_msl, ck_m, gf_s, gf_image, gf_truths, gf_knownRow, gf_daysRow, gf_bests, gf_nots, gf_lookeds, gf_bestsAt, gf_worths, gf_keptKnown, gf_keptDays, gf_round, gf_sums, gf_bestRound, gf_bodies, gf_thrown, gf_hasImage, gf_act, gf_spot, gf_size, gf_isWrong, gf_open, gf_edgeThing, gf_edgeMore, gf_stamp, gf_whose, gf_wage, gf_roundMany, gf_bestSet, gf_ran, gf_kind, gf_who, gf_tellsV, pf_thrown, pf_hasImage, pf_act, pf_spot, pf_size, pf_isWrong, pf_open, pf_edgeThing, pf_edgeMore, pf_stamp, pf_whose, pf_wage, pf_roundMany, pf_bestSet, pf_ran, pf_kind, pf_who, pf_tellsV, al_s, as_s, al_image, as_image, al_truths, as_truths0, as_truths1, al_knownRow, as_knownRow, al_daysRow, as_daysRow, al_bests, as_bests, al_nots, as_nots, al_lookeds, as_lookeds, al_bestsAt, as_bestsAt, al_worths, as_worths, al_keptKnown, as_keptKnown, al_keptDays, as_keptDays, al_round, as_round, al_sums, as_sums, al_bestRound, as_bestRound, al_bodies, as_bodies, cl_some, nm_b, nn_some, qn_some, qn_none, zk_0, zk_1, zk_n0, zk_n1, nI_add, pk_mul, pk_sub, nI_leE, nI_ltE, nI_eqE, nI_lt0, nI_ge0, nI_eq0, nI_gt0, nI_le0, ilt_t, ilt_f, ile_t, ile_f, ieq_t, ieq_f, if_tt, if_ff, Nat.add_sub_cancel]
  rw [show fuelL = 2047 + 1 from rfl, F_X12_some_4_s]
  unfold F_X12_some_43
  simp (maxSteps := 3000000) (disch := omega) only [h7, ma_msa_n, ma_msa_s, mi_msi_n, mi_msi_s, ml_msl_n, ml_msl_s, ma_msi, ma_msl, mi_msa, mi_msl, ml_msa, ml_msi, msa_msa, msi_msi, msl_msl, ck_m, gf_s, gf_image, gf_truths, gf_knownRow, gf_daysRow, gf_bests, gf_nots, gf_lookeds, gf_bestsAt, gf_worths, gf_keptKnown, gf_keptDays, gf_round, gf_sums, gf_bestRound, gf_bodies, gf_thrown, gf_hasImage, gf_act, gf_spot, gf_size, gf_isWrong, gf_open, gf_edgeThing, gf_edgeMore, gf_stamp, gf_whose, gf_wage, gf_roundMany, gf_bestSet, gf_ran, gf_kind, gf_who, gf_tellsV, pf_thrown, pf_hasImage, pf_act, pf_spot, pf_size, pf_isWrong, pf_open, pf_edgeThing, pf_edgeMore, pf_stamp, pf_whose, pf_wage, pf_roundMany, pf_bestSet, pf_ran, pf_kind, pf_who, pf_tellsV, al_s, as_s, al_image, as_image, al_truths, as_truths0, as_truths1, al_knownRow, as_knownRow, al_daysRow, as_daysRow, al_bests, as_bests, al_nots, as_nots, al_lookeds, as_lookeds, al_bestsAt, as_bestsAt, al_worths, as_worths, al_keptKnown, as_keptKnown, al_keptDays, as_keptDays, al_round, as_round, al_sums, as_sums, al_bestRound, as_bestRound, al_bodies, as_bodies, cl_some, nm_b, nn_some, qn_some, qn_none, zk_0, zk_1, zk_n0, zk_n1, nI_add, pk_mul, pk_sub, nI_leE, nI_ltE, nI_eqE, nI_lt0, nI_ge0, nI_eq0, nI_gt0, nI_le0, ilt_t, ilt_f, ile_t, ile_f, ieq_t, ieq_f, if_tt, if_ff, Nat.add_sub_cancel]
end P2
