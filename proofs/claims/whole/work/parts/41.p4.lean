theorem Rs.pre {st st1 st' : MS} {a c d : Nat} {r : Bool × Nat × List Int32} (h : Rs st1 a c d r st') (h1 : ∀ k, k ≠ 5 → k ≠ 7 → k ≠ 8 → mi st1 k = mi st k) (h2 : ma st1 = ma st) (h3 : ml st1 = ml st) : Rs st a c d r st' := by
  obtain ⟨X, f, q5, q8, qt, qf⟩ := h
  have e : ma st1 1 = ma st 1 := by rw [h2]
  have f2 := fr_cg1 (f := X) (fr578 h1 h2 h3)
  exact ⟨X, (f2.trans f).mono (by decide), q5, q8, by rw [← e]; exact qt, by rw [← e]; exact qf⟩
theorem Rs.w {st st' : MS} {a c d : Nat} {r : Bool × Nat × List Int32} (h : Rs st a c d r st') (ok : ¬ r.1 = true) : mi st' 7 = nI 1 := by
  obtain ⟨X, f, q5, q8, qt, qf⟩ := h
  exact (qf (by cases hb : r.1; rfl; exact absurd hb ok)).1
theorem Rs.no {st st' : MS} {a c d : Nat} {r : Bool × Nat × List Int32} (h : Rs st a c d r st') (ok : ¬ r.1 = true) : Rs st a c d (false, r.2.1, []) st' := by
  obtain ⟨X, f, q5, q8, qt, qf⟩ := h
  exact ⟨X, f, q5, q8, fun q => absurd q (show ¬ false = true by decide), fun _ => qf (by cases hb : r.1; rfl; exact absurd hb ok)⟩
theorem Rs.nil {st : MS} {tp : Nat → Int32} {z p a c d : Nat} (h : Rd st tp z p a c d) : Rs st a c d (true, p, []) st := ⟨ma st 1, by rw [msa_self]; exact FrM.rf, h.1.1, h.2.2.1, fun _ => ⟨h.2.1, rfl⟩, fun q => absurd q (show ¬ true = false by decide)⟩
theorem Rs.emit {st : MS} {tp : Nat → Int32} {z p a c d : Nat} (h : Rd st tp z p a c d) (x : Int32) : Rs st a c d (true, p, [x]) (msa st 1 (emR (ma st 1) a c [x])) := ⟨emR (ma st 1) a c [x], FrM.rf, h.1.1, h.2.2.1, fun _ => ⟨h.2.1, rfl⟩, fun q => absurd q (show ¬ true = false by decide)⟩
theorem Rs.out {st st' : MS} {a c d e : Nat} {r : Bool × Nat × List Int32} (h : Rs st a c e r st') : Rs st a c d r (msi st' 8 (nI d)) := by
  obtain ⟨X, f, q5, q8, qt, qf⟩ := h
  exact ⟨X, (f.trans (FrM.msi (k := 8) (ks := [5, 7, 8]) (by decide))).mono (by decide), by rw [mi_msi_n (by decide)]; exact q5, mi_msi_s, fun q => by rw [mi_msi_n (by decide)]; exact qt q, fun q => by rw [mi_msi_n (by decide)]; exact qf q⟩
theorem Rs.must {st : MS} {tp : Nat → Int32} {z p a c d : Nat} (h : Rd st tp z p a c d) (x : Int32) : Rs st a c d (if hereP tp z p = x then (true, p + 1, []) else (false, p, [])) (if hereP tp z p = x then spW st (p + 1) (nI 0) else spW st p (nI 1)) := by
  by_cases c1 : hereP tp z p = x
  · rw [if_pos c1, if_pos c1]
    refine ⟨ma st 1, ?_, mi_msi_s, h.2.2.1, fun _ => ⟨rfl, rfl⟩, fun q => absurd q (show ¬ true = false by decide)⟩
    rw [msa_self]
    exact fr578 (fun k n5 n7 n8 => by unfold spW; rw [mi_msi_n n5, mi_msi_n n7]) rfl rfl
  · rw [if_neg c1, if_neg c1]
    exact Rs.bad (fun k n5 n7 n8 => by unfold spW; rw [mi_msi_n n5, mi_msi_n n7]) rfl rfl mi_msi_s h.2.2.1 rfl
/-- after a step noted, the place may stay behind the count by one -/
theorem Rs.rd' {st st' : MS} {tp : Nat → Int32} {z p a c d : Nat} {x : Int32} (h : Rs st a c d (true, p, [x]) st') (hR : Rd st tp z p a c d) (hc : c < p) : Rd st' tp z p a (c + 1) d ∧ ma st' 1 = emR (ma st 1) a c [x] := by
  obtain ⟨⟨h5, h6, hz1, hp1⟩, h7, h8, h4, ha, hcn, hcp, htp⟩ := hR
  obtain ⟨X, f, q5, q8, qt, _⟩ := h
  obtain ⟨q7, hX⟩ := qt rfl
  have e1 : ma st' 1 = emR (ma st 1) a c [x] := by rw [f.ofa 1 (by decide), ma_msa_s, hX]
  refine ⟨⟨⟨q5, (f.of1 6 (by decide)).trans h6, hz1, hp1⟩, q7, q8, (f.of1 4 (by decide)).trans h4, ha, by rw [e1]; exact emR_cn [x] _ _ hcn, by omega, fun i hi => ?_⟩, e1⟩
  rw [← htp i hi]
  unfold tpM
  rw [e1]
  exact emR_ag [x] (ma st 1) c ha (by show c + 1 ≤ 140; omega) (10 + i) (by omega) (by omega) (by omega)
section P4
variable {G : Gx} {b : Nat} {h0 : Hp} {nx : Nat}
set_option maxRecDepth 100000 in
set_option maxHeartbeats 4000000 in
theorem f_pz3 {st : MS} {tp : Nat → Int32} {z p a c d n mg ml : Nat} (hR : Rd st tp z p a c d) (hl : z - p < ml) (ihS : ∀ (st : MS), Rd st tp z (p + 1) a c d → p < z → ∃ st' : MS, F_X12_factor G mg (encM G b st h0) nx b = some ((), encM G b st' h0, nx) ∧ Rs st a c d (pz tp z n 0 d (p + 1)) st') (ihL : ∀ (st : MS) (c q ml : Nat), p < q → q ≤ z → z - q < ml → Rd st tp z q a c d → ∃ st' : MS, F_X12_every_4 G (F_X12_every G mg) (F_X12_factor G mg) (F_X12_some G mg) ml (encM G b st h0) nx b = some ((), encM G b st' h0, nx) ∧ Rs st a c d (pz tp z n 3 d q) st') : ∃ st' : MS, F_X12_every_4 G (F_X12_every G mg) (F_X12_factor G mg) (F_X12_some G mg) ml (encM G b st h0) nx b = some ((), encM G b st' h0, nx) ∧ Rs st a c d (pz tp z (n + 1) 3 d p) st' := by
  obtain ⟨ml, rfl⟩ : ∃ q, ml = q + 1 := ⟨ml - 1, by omega⟩
  have hR0 := hR
  obtain ⟨hA, h7, h8, h4, ha, hc, hcp, htp⟩ := hR
  obtain ⟨h5, h6, hz, hpz⟩ := hA
  have e1 := f_here (G := G) (b := b) (h0 := h0) (nx := nx) (st := st) (z := z) (p := p) ⟨h5, h6, hz, hpz⟩
  rw [here_cg hz htp] at e1
  rw [F_X12_every_4_s, pz_e3]
  unfold F_X12_every_43
  simp (maxSteps := 3000000) (disch := omega) only [h7, e1, ma_msa_n, ma_msa_s, mi_msi_n, mi_msi_s, ml_msl_n, ml_msl_s, ma_msi, ma_msl, mi_msa, mi_msl, ml_msa, ml_msi, msa_msa, msi_msi, msl_msl, ck_m, gf_s, gf_image, gf_truths, gf_knownRow, gf_daysRow, gf_bests, gf_nots, gf_lookeds, gf_bestsAt, gf_worths, gf_keptKnown, gf_keptDays, gf_round, gf_sums, gf_bestRound, gf_bodies, gf_thrown, gf_hasImage, gf_act, gf_spot, gf_size, gf_isWrong, gf_open, gf_edgeThing, gf_edgeMore, gf_stamp, gf_whose, gf_wage, gf_roundMany, gf_bestSet, gf_ran, gf_kind, gf_who, gf_tellsV, pf_thrown, pf_hasImage, pf_act, pf_spot, pf_size, pf_isWrong, pf_open, pf_edgeThing, pf_edgeMore, pf_stamp, pf_whose, pf_wage, pf_roundMany, pf_bestSet, pf_ran, pf_kind, pf_who, pf_tellsV, al_s, as_s, al_image, as_image, al_truths, as_truths0, as_truths1, al_knownRow, as_knownRow, al_daysRow, as_daysRow, al_bests, as_bests, al_nots, as_nots, al_lookeds, as_lookeds, al_bestsAt, as_bestsAt, al_worths, as_worths, al_keptKnown, as_keptKnown, al_keptDays, as_keptDays, al_round, as_round, al_sums, as_sums, al_bestRound, as_bestRound, al_bodies, as_bodies, cl_some, nm_b, nn_some, qn_some, qn_none, zk_0, zk_1, zk_n0, zk_n1, nI_add, pk_mul, pk_sub, nI_leE, nI_ltE, nI_eqE, nI_lt0, nI_ge0, nI_eq0, nI_gt0, nI_le0, ilt_t, ilt_f, ile_t, ile_f, ieq_t, ieq_f, if_tt, if_ff, Nat.add_sub_cancel]
  by_cases c1 : hereP tp z p = nI 38
  · rw [if_pos c1, if_pos c1]
    have hin : p < z := here_in (fun q => by rw [q] at c1; exact absurd c1 (by decide))
    obtain ⟨st2, e2, r2⟩ := ihS (msi st 5 (nI (p + 1))) ⟨⟨mi_msi_s, h6, hz, by omega⟩, h7, h8, h4, ha, hc, by omega, htp⟩ hin
    have r2 := r2.pre (st := st) (fun k n5 _ _ => mi_msi_n n5) rfl rfl
    obtain ⟨o1, o2, o3⟩ := pz_ok (tp := tp) (z := z) n 0 d (p + 1) (by omega)
    generalize pz tp z n 0 d (p + 1) = r at r2 o1 o2 o3 ⊢
    by_cases ok : r.1 = true
    · rw [if_pos ok]
      obtain ⟨o4, _⟩ := o3 ok
      obtain ⟨rd2, es2⟩ := r2.rd hR0 ok (by omega) o2
      have em := f_emits (G := G) (b := b) (h0 := h0) (nx := nx) (st := st2) (a := a) (c := c + r.2.2.length) rd2.2.1 rd2.2.2.2.1 ha rd2.2.2.2.2.2.1 (by omega) (-2)
      have r3 := Rs.emit rd2 (-2)
      obtain ⟨rd3, _⟩ := r3.rd' rd2 (by omega)
      obtain ⟨st4, e4, r4⟩ := ihL _ _ r.2.1 ml (by omega) o2 (by omega) rd3
      refine ⟨st4, ?_, (r2.seq ok (r3.seq rfl r4 ha (by show c + r.2.2.length + 1 ≤ 140; omega) (code := -2 :: (pz tp z n 3 d r.2.1).2.2) (fun _ => rfl)) ha (by omega) (fun _ => rfl))⟩
      simp (maxSteps := 3000000) (disch := omega) only [h5, e2, em, ma_msa_n, ma_msa_s, mi_msi_n, mi_msi_s, ml_msl_n, ml_msl_s, ma_msi, ma_msl, mi_msa, mi_msl, ml_msa, ml_msi, msa_msa, msi_msi, msl_msl, ck_m, gf_s, gf_image, gf_truths, gf_knownRow, gf_daysRow, gf_bests, gf_nots, gf_lookeds, gf_bestsAt, gf_worths, gf_keptKnown, gf_keptDays, gf_round, gf_sums, gf_bestRound, gf_bodies, gf_thrown, gf_hasImage, gf_act, gf_spot, gf_size, gf_isWrong, gf_open, gf_edgeThing, gf_edgeMore, gf_stamp, gf_whose, gf_wage, gf_roundMany, gf_bestSet, gf_ran, gf_kind, gf_who, gf_tellsV, pf_thrown, pf_hasImage, pf_act, pf_spot, pf_size, pf_isWrong, pf_open, pf_edgeThing, pf_edgeMore, pf_stamp, pf_whose, pf_wage, pf_roundMany, pf_bestSet, pf_ran, pf_kind, pf_who, pf_tellsV, al_s, as_s, al_image, as_image, al_truths, as_truths0, as_truths1, al_knownRow, as_knownRow, al_daysRow, as_daysRow, al_bests, as_bests, al_nots, as_nots, al_lookeds, as_lookeds, al_bestsAt, as_bestsAt, al_worths, as_worths, al_keptKnown, as_keptKnown, al_keptDays, as_keptDays, al_round, as_round, al_sums, as_sums, al_bestRound, as_bestRound, al_bodies, as_bodies, cl_some, nm_b, nn_some, qn_some, qn_none, zk_0, zk_1, zk_n0, zk_n1, nI_add, pk_mul, pk_sub, nI_leE, nI_ltE, nI_eqE, nI_lt0, nI_ge0, nI_eq0, nI_gt0, nI_le0, ilt_t, ilt_f, ile_t, ile_f, ieq_t, ieq_f, if_tt, if_ff, Nat.add_sub_cancel]
      exact e4
    · rw [if_neg ok]
      obtain ⟨ml, rfl⟩ : ∃ q, ml = q + 1 := ⟨ml - 1, by omega⟩
      have w7 := r2.w ok
      have em := f_emitsW (G := G) (b := b) (h0 := h0) (nx := nx) w7 (-2)
      refine ⟨st2, ?_, r2.no ok⟩
      simp (maxSteps := 3000000) (disch := omega) only [h5, e2, em, ma_msa_n, ma_msa_s, mi_msi_n, mi_msi_s, ml_msl_n, ml_msl_s, ma_msi, ma_msl, mi_msa, mi_msl, ml_msa, ml_msi, msa_msa, msi_msi, msl_msl, ck_m, gf_s, gf_image, gf_truths, gf_knownRow, gf_daysRow, gf_bests, gf_nots, gf_lookeds, gf_bestsAt, gf_worths, gf_keptKnown, gf_keptDays, gf_round, gf_sums, gf_bestRound, gf_bodies, gf_thrown, gf_hasImage, gf_act, gf_spot, gf_size, gf_isWrong, gf_open, gf_edgeThing, gf_edgeMore, gf_stamp, gf_whose, gf_wage, gf_roundMany, gf_bestSet, gf_ran, gf_kind, gf_who, gf_tellsV, pf_thrown, pf_hasImage, pf_act, pf_spot, pf_size, pf_isWrong, pf_open, pf_edgeThing, pf_edgeMore, pf_stamp, pf_whose, pf_wage, pf_roundMany, pf_bestSet, pf_ran, pf_kind, pf_who, pf_tellsV, al_s, as_s, al_image, as_image, al_truths, as_truths0, as_truths1, al_knownRow, as_knownRow, al_daysRow, as_daysRow, al_bests, as_bests, al_nots, as_nots, al_lookeds, as_lookeds, al_bestsAt, as_bestsAt, al_worths, as_worths, al_keptKnown, as_keptKnown, al_keptDays, as_keptDays, al_round, as_round, al_sums, as_sums, al_bestRound, as_bestRound, al_bodies, as_bodies, cl_some, nm_b, nn_some, qn_some, qn_none, zk_0, zk_1, zk_n0, zk_n1, nI_add, pk_mul, pk_sub, nI_leE, nI_ltE, nI_eqE, nI_lt0, nI_ge0, nI_eq0, nI_gt0, nI_le0, ilt_t, ilt_f, ile_t, ile_f, ieq_t, ieq_f, if_tt, if_ff, Nat.add_sub_cancel]
      rw [F_X12_every_4_s]
      unfold F_X12_every_43
      simp (maxSteps := 3000000) (disch := omega) only [w7, ma_msa_n, ma_msa_s, mi_msi_n, mi_msi_s, ml_msl_n, ml_msl_s, ma_msi, ma_msl, mi_msa, mi_msl, ml_msa, ml_msi, msa_msa, msi_msi, msl_msl, ck_m, gf_s, gf_image, gf_truths, gf_knownRow, gf_daysRow, gf_bests, gf_nots, gf_lookeds, gf_bestsAt, gf_worths, gf_keptKnown, gf_keptDays, gf_round, gf_sums, gf_bestRound, gf_bodies, gf_thrown, gf_hasImage, gf_act, gf_spot, gf_size, gf_isWrong, gf_open, gf_edgeThing, gf_edgeMore, gf_stamp, gf_whose, gf_wage, gf_roundMany, gf_bestSet, gf_ran, gf_kind, gf_who, gf_tellsV, pf_thrown, pf_hasImage, pf_act, pf_spot, pf_size, pf_isWrong, pf_open, pf_edgeThing, pf_edgeMore, pf_stamp, pf_whose, pf_wage, pf_roundMany, pf_bestSet, pf_ran, pf_kind, pf_who, pf_tellsV, al_s, as_s, al_image, as_image, al_truths, as_truths0, as_truths1, al_knownRow, as_knownRow, al_daysRow, as_daysRow, al_bests, as_bests, al_nots, as_nots, al_lookeds, as_lookeds, al_bestsAt, as_bestsAt, al_worths, as_worths, al_keptKnown, as_keptKnown, al_keptDays, as_keptDays, al_round, as_round, al_sums, as_sums, al_bestRound, as_bestRound, al_bodies, as_bodies, cl_some, nm_b, nn_some, qn_some, qn_none, zk_0, zk_1, zk_n0, zk_n1, nI_add, pk_mul, pk_sub, nI_leE, nI_ltE, nI_eqE, nI_lt0, nI_ge0, nI_eq0, nI_gt0, nI_le0, ilt_t, ilt_f, ile_t, ile_f, ieq_t, ieq_f, if_tt, if_ff, Nat.add_sub_cancel]
  · rw [if_neg c1, if_neg c1]
    exact ⟨st, rfl, Rs.nil hR0⟩
set_option maxRecDepth 100000 in
set_option maxHeartbeats 4000000 in
theorem f_pz4 {st : MS} {tp : Nat → Int32} {z p a c d n mg ml : Nat} (hR : Rd st tp z p a c d) (hl : z - p < ml) (ihS : ∀ (st : MS), Rd st tp z (p + 1) a c d → p < z → ∃ st' : MS, F_X12_every G mg (encM G b st h0) nx b = some ((), encM G b st' h0, nx) ∧ Rs st a c d (pz tp z n 1 d (p + 1)) st') (ihL : ∀ (st : MS) (c q ml : Nat), p < q → q ≤ z → z - q < ml → Rd st tp z q a c d → ∃ st' : MS, F_X12_some_4 G (F_X12_every G mg) (F_X12_factor G mg) (F_X12_some G mg) ml (encM G b st h0) nx b = some ((), encM G b st' h0, nx) ∧ Rs st a c d (pz tp z n 4 d q) st') : ∃ st' : MS, F_X12_some_4 G (F_X12_every G mg) (F_X12_factor G mg) (F_X12_some G mg) ml (encM G b st h0) nx b = some ((), encM G b st' h0, nx) ∧ Rs st a c d (pz tp z (n + 1) 4 d p) st' := by
  obtain ⟨ml, rfl⟩ : ∃ q, ml = q + 1 := ⟨ml - 1, by omega⟩
  have hR0 := hR
  obtain ⟨hA, h7, h8, h4, ha, hc, hcp, htp⟩ := hR
  obtain ⟨h5, h6, hz, hpz⟩ := hA
  have e1 := f_here (G := G) (b := b) (h0 := h0) (nx := nx) (st := st) (z := z) (p := p) ⟨h5, h6, hz, hpz⟩
  rw [here_cg hz htp] at e1
  rw [F_X12_some_4_s, pz_e4 (k := 0)]
  unfold F_X12_some_43
  simp (maxSteps := 3000000) (disch := omega) only [h7, e1, ma_msa_n, ma_msa_s, mi_msi_n, mi_msi_s, ml_msl_n, ml_msl_s, ma_msi, ma_msl, mi_msa, mi_msl, ml_msa, ml_msi, msa_msa, msi_msi, msl_msl, ck_m, gf_s, gf_image, gf_truths, gf_knownRow, gf_daysRow, gf_bests, gf_nots, gf_lookeds, gf_bestsAt, gf_worths, gf_keptKnown, gf_keptDays, gf_round, gf_sums, gf_bestRound, gf_bodies, gf_thrown, gf_hasImage, gf_act, gf_spot, gf_size, gf_isWrong, gf_open, gf_edgeThing, gf_edgeMore, gf_stamp, gf_whose, gf_wage, gf_roundMany, gf_bestSet, gf_ran, gf_kind, gf_who, gf_tellsV, pf_thrown, pf_hasImage, pf_act, pf_spot, pf_size, pf_isWrong, pf_open, pf_edgeThing, pf_edgeMore, pf_stamp, pf_whose, pf_wage, pf_roundMany, pf_bestSet, pf_ran, pf_kind, pf_who, pf_tellsV, al_s, as_s, al_image, as_image, al_truths, as_truths0, as_truths1, al_knownRow, as_knownRow, al_daysRow, as_daysRow, al_bests, as_bests, al_nots, as_nots, al_lookeds, as_lookeds, al_bestsAt, as_bestsAt, al_worths, as_worths, al_keptKnown, as_keptKnown, al_keptDays, as_keptDays, al_round, as_round, al_sums, as_sums, al_bestRound, as_bestRound, al_bodies, as_bodies, cl_some, nm_b, nn_some, qn_some, qn_none, zk_0, zk_1, zk_n0, zk_n1, nI_add, pk_mul, pk_sub, nI_leE, nI_ltE, nI_eqE, nI_lt0, nI_ge0, nI_eq0, nI_gt0, nI_le0, ilt_t, ilt_f, ile_t, ile_f, ieq_t, ieq_f, if_tt, if_ff, Nat.add_sub_cancel]
  by_cases c1 : hereP tp z p = nI 124
  · rw [if_pos c1, if_pos c1]
    have hin : p < z := here_in (fun q => by rw [q] at c1; exact absurd c1 (by decide))
    obtain ⟨st2, e2, r2⟩ := ihS (msi st 5 (nI (p + 1))) ⟨⟨mi_msi_s, h6, hz, by omega⟩, h7, h8, h4, ha, hc, by omega, htp⟩ hin
    have r2 := r2.pre (st := st) (fun k n5 _ _ => mi_msi_n n5) rfl rfl
    obtain ⟨o1, o2, o3⟩ := pz_ok (tp := tp) (z := z) n 1 d (p + 1) (by omega)
    generalize pz tp z n 1 d (p + 1) = r at r2 o1 o2 o3 ⊢
    by_cases ok : r.1 = true
    · rw [if_pos ok]
      obtain ⟨o4, _⟩ := o3 ok
      obtain ⟨rd2, es2⟩ := r2.rd hR0 ok (by omega) o2
      have em := f_emits (G := G) (b := b) (h0 := h0) (nx := nx) (st := st2) (a := a) (c := c + r.2.2.length) rd2.2.1 rd2.2.2.2.1 ha rd2.2.2.2.2.2.1 (by omega) (-3)
      have r3 := Rs.emit rd2 (-3)
      obtain ⟨rd3, _⟩ := r3.rd' rd2 (by omega)
      obtain ⟨st4, e4, r4⟩ := ihL _ _ r.2.1 ml (by omega) o2 (by omega) rd3
      refine ⟨st4, ?_, (r2.seq ok (r3.seq rfl r4 ha (by show c + r.2.2.length + 1 ≤ 140; omega) (code := -3 :: (pz tp z n 4 d r.2.1).2.2) (fun _ => rfl)) ha (by omega) (fun _ => rfl))⟩
      simp (maxSteps := 3000000) (disch := omega) only [h5, e2, em, ma_msa_n, ma_msa_s, mi_msi_n, mi_msi_s, ml_msl_n, ml_msl_s, ma_msi, ma_msl, mi_msa, mi_msl, ml_msa, ml_msi, msa_msa, msi_msi, msl_msl, ck_m, gf_s, gf_image, gf_truths, gf_knownRow, gf_daysRow, gf_bests, gf_nots, gf_lookeds, gf_bestsAt, gf_worths, gf_keptKnown, gf_keptDays, gf_round, gf_sums, gf_bestRound, gf_bodies, gf_thrown, gf_hasImage, gf_act, gf_spot, gf_size, gf_isWrong, gf_open, gf_edgeThing, gf_edgeMore, gf_stamp, gf_whose, gf_wage, gf_roundMany, gf_bestSet, gf_ran, gf_kind, gf_who, gf_tellsV, pf_thrown, pf_hasImage, pf_act, pf_spot, pf_size, pf_isWrong, pf_open, pf_edgeThing, pf_edgeMore, pf_stamp, pf_whose, pf_wage, pf_roundMany, pf_bestSet, pf_ran, pf_kind, pf_who, pf_tellsV, al_s, as_s, al_image, as_image, al_truths, as_truths0, as_truths1, al_knownRow, as_knownRow, al_daysRow, as_daysRow, al_bests, as_bests, al_nots, as_nots, al_lookeds, as_lookeds, al_bestsAt, as_bestsAt, al_worths, as_worths, al_keptKnown, as_keptKnown, al_keptDays, as_keptDays, al_round, as_round, al_sums, as_sums, al_bestRound, as_bestRound, al_bodies, as_bodies, cl_some, nm_b, nn_some, qn_some, qn_none, zk_0, zk_1, zk_n0, zk_n1, nI_add, pk_mul, pk_sub, nI_leE, nI_ltE, nI_eqE, nI_lt0, nI_ge0, nI_eq0, nI_gt0, nI_le0, ilt_t, ilt_f, ile_t, ile_f, ieq_t, ieq_f, if_tt, if_ff, Nat.add_sub_cancel]
      exact e4
    · rw [if_neg ok]
      obtain ⟨ml, rfl⟩ : ∃ q, ml = q + 1 := ⟨ml - 1, by omega⟩
      have w7 := r2.w ok
      have em := f_emitsW (G := G) (b := b) (h0 := h0) (nx := nx) w7 (-3)
      refine ⟨st2, ?_, r2.no ok⟩
      simp (maxSteps := 3000000) (disch := omega) only [h5, e2, em, ma_msa_n, ma_msa_s, mi_msi_n, mi_msi_s, ml_msl_n, ml_msl_s, ma_msi, ma_msl, mi_msa, mi_msl, ml_msa, ml_msi, msa_msa, msi_msi, msl_msl, ck_m, gf_s, gf_image, gf_truths, gf_knownRow, gf_daysRow, gf_bests, gf_nots, gf_lookeds, gf_bestsAt, gf_worths, gf_keptKnown, gf_keptDays, gf_round, gf_sums, gf_bestRound, gf_bodies, gf_thrown, gf_hasImage, gf_act, gf_spot, gf_size, gf_isWrong, gf_open, gf_edgeThing, gf_edgeMore, gf_stamp, gf_whose, gf_wage, gf_roundMany, gf_bestSet, gf_ran, gf_kind, gf_who, gf_tellsV, pf_thrown, pf_hasImage, pf_act, pf_spot, pf_size, pf_isWrong, pf_open, pf_edgeThing, pf_edgeMore, pf_stamp, pf_whose, pf_wage, pf_roundMany, pf_bestSet, pf_ran, pf_kind, pf_who, pf_tellsV, al_s, as_s, al_image, as_image, al_truths, as_truths0, as_truths1, al_knownRow, as_knownRow, al_daysRow, as_daysRow, al_bests, as_bests, al_nots, as_nots, al_lookeds, as_lookeds, al_bestsAt, as_bestsAt, al_worths, as_worths, al_keptKnown, as_keptKnown, al_keptDays, as_keptDays, al_round, as_round, al_sums, as_sums, al_bestRound, as_bestRound, al_bodies, as_bodies, cl_some, nm_b, nn_some, qn_some, qn_none, zk_0, zk_1, zk_n0, zk_n1, nI_add, pk_mul, pk_sub, nI_leE, nI_ltE, nI_eqE, nI_lt0, nI_ge0, nI_eq0, nI_gt0, nI_le0, ilt_t, ilt_f, ile_t, ile_f, ieq_t, ieq_f, if_tt, if_ff, Nat.add_sub_cancel]
      rw [F_X12_some_4_s]
      unfold F_X12_some_43
      simp (maxSteps := 3000000) (disch := omega) only [w7, ma_msa_n, ma_msa_s, mi_msi_n, mi_msi_s, ml_msl_n, ml_msl_s, ma_msi, ma_msl, mi_msa, mi_msl, ml_msa, ml_msi, msa_msa, msi_msi, msl_msl, ck_m, gf_s, gf_image, gf_truths, gf_knownRow, gf_daysRow, gf_bests, gf_nots, gf_lookeds, gf_bestsAt, gf_worths, gf_keptKnown, gf_keptDays, gf_round, gf_sums, gf_bestRound, gf_bodies, gf_thrown, gf_hasImage, gf_act, gf_spot, gf_size, gf_isWrong, gf_open, gf_edgeThing, gf_edgeMore, gf_stamp, gf_whose, gf_wage, gf_roundMany, gf_bestSet, gf_ran, gf_kind, gf_who, gf_tellsV, pf_thrown, pf_hasImage, pf_act, pf_spot, pf_size, pf_isWrong, pf_open, pf_edgeThing, pf_edgeMore, pf_stamp, pf_whose, pf_wage, pf_roundMany, pf_bestSet, pf_ran, pf_kind, pf_who, pf_tellsV, al_s, as_s, al_image, as_image, al_truths, as_truths0, as_truths1, al_knownRow, as_knownRow, al_daysRow, as_daysRow, al_bests, as_bests, al_nots, as_nots, al_lookeds, as_lookeds, al_bestsAt, as_bestsAt, al_worths, as_worths, al_keptKnown, as_keptKnown, al_keptDays, as_keptDays, al_round, as_round, al_sums, as_sums, al_bestRound, as_bestRound, al_bodies, as_bodies, cl_some, nm_b, nn_some, qn_some, qn_none, zk_0, zk_1, zk_n0, zk_n1, nI_add, pk_mul, pk_sub, nI_leE, nI_ltE, nI_eqE, nI_lt0, nI_ge0, nI_eq0, nI_gt0, nI_le0, ilt_t, ilt_f, ile_t, ile_f, ieq_t, ieq_f, if_tt, if_ff, Nat.add_sub_cancel]
  · rw [if_neg c1, if_neg c1]
    exact ⟨st, rfl, Rs.nil hR0⟩
set_option maxRecDepth 100000 in
set_option maxHeartbeats 4000000 in
theorem f_pz1 {st : MS} {tp : Nat → Int32} {z p a c d n mg : Nat} (hR : Rd st tp z p a c d) (ihS : ∃ st' : MS, F_X12_factor G mg (encM G b st h0) nx b = some ((), encM G b st' h0, nx) ∧ Rs st a c d (pz tp z n 0 d p) st') (ihL : ∀ (st : MS) (c q : Nat), p < q → q ≤ z → Rd st tp z q a c d → ∃ st' : MS, F_X12_every_4 G (F_X12_every G mg) (F_X12_factor G mg) (F_X12_some G mg) fuelL (encM G b st h0) nx b = some ((), encM G b st' h0, nx) ∧ Rs st a c d (pz tp z n 3 d q) st') : ∃ st' : MS, F_X12_every G (mg + 1) (encM G b st h0) nx b = some ((), encM G b st' h0, nx) ∧ Rs st a c d (pz tp z (n + 1) 1 d p) st' := by
  have hR0 := hR
  obtain ⟨hA, h7, h8, h4, ha, hc, hcp, htp⟩ := hR
  obtain ⟨h5, h6, hz, hpz⟩ := hA
  rw [F_X12_every_s, pz_e1]
  unfold B_X12_every
  obtain ⟨st2, e2, r2⟩ := ihS
  obtain ⟨o1, o2, o3⟩ := pz_ok (tp := tp) (z := z) n 0 d p hpz
  generalize pz tp z n 0 d p = r at r2 o1 o2 o3 ⊢
  by_cases ok : r.1 = true
  · rw [if_pos ok]
    obtain ⟨o4, o5⟩ := o3 ok
    obtain ⟨rd2, es2⟩ := r2.rd hR0 ok (by omega) o2
    obtain ⟨st4, e4, r4⟩ := ihL st2 _ r.2.1 (o5 (by omega)) o2 rd2
    refine ⟨st4, ?_, r2.seq ok r4 ha (by omega) (fun _ => rfl)⟩
    simp (maxSteps := 3000000) (disch := omega) only [e2, ma_msa_n, ma_msa_s, mi_msi_n, mi_msi_s, ml_msl_n, ml_msl_s, ma_msi, ma_msl, mi_msa, mi_msl, ml_msa, ml_msi, msa_msa, msi_msi, msl_msl, ck_m, gf_s, gf_image, gf_truths, gf_knownRow, gf_daysRow, gf_bests, gf_nots, gf_lookeds, gf_bestsAt, gf_worths, gf_keptKnown, gf_keptDays, gf_round, gf_sums, gf_bestRound, gf_bodies, gf_thrown, gf_hasImage, gf_act, gf_spot, gf_size, gf_isWrong, gf_open, gf_edgeThing, gf_edgeMore, gf_stamp, gf_whose, gf_wage, gf_roundMany, gf_bestSet, gf_ran, gf_kind, gf_who, gf_tellsV, pf_thrown, pf_hasImage, pf_act, pf_spot, pf_size, pf_isWrong, pf_open, pf_edgeThing, pf_edgeMore, pf_stamp, pf_whose, pf_wage, pf_roundMany, pf_bestSet, pf_ran, pf_kind, pf_who, pf_tellsV, al_s, as_s, al_image, as_image, al_truths, as_truths0, as_truths1, al_knownRow, as_knownRow, al_daysRow, as_daysRow, al_bests, as_bests, al_nots, as_nots, al_lookeds, as_lookeds, al_bestsAt, as_bestsAt, al_worths, as_worths, al_keptKnown, as_keptKnown, al_keptDays, as_keptDays, al_round, as_round, al_sums, as_sums, al_bestRound, as_bestRound, al_bodies, as_bodies, cl_some, nm_b, nn_some, qn_some, qn_none, zk_0, zk_1, zk_n0, zk_n1, nI_add, pk_mul, pk_sub, nI_leE, nI_ltE, nI_eqE, nI_lt0, nI_ge0, nI_eq0, nI_gt0, nI_le0, ilt_t, ilt_f, ile_t, ile_f, ieq_t, ieq_f, if_tt, if_ff, Nat.add_sub_cancel]
    exact e4
  · rw [if_neg ok]
    have w7 := r2.w ok
    refine ⟨st2, ?_, r2.no ok⟩
    simp (maxSteps := 3000000) (disch := omega) only [e2, ma_msa_n, ma_msa_s, mi_msi_n, mi_msi_s, ml_msl_n, ml_msl_s, ma_msi, ma_msl, mi_msa, mi_msl, ml_msa, ml_msi, msa_msa, msi_msi, msl_msl, ck_m, gf_s, gf_image, gf_truths, gf_knownRow, gf_daysRow, gf_bests, gf_nots, gf_lookeds, gf_bestsAt, gf_worths, gf_keptKnown, gf_keptDays, gf_round, gf_sums, gf_bestRound, gf_bodies, gf_thrown, gf_hasImage, gf_act, gf_spot, gf_size, gf_isWrong, gf_open, gf_edgeThing, gf_edgeMore, gf_stamp, gf_whose, gf_wage, gf_roundMany, gf_bestSet, gf_ran, gf_kind, gf_who, gf_tellsV, pf_thrown, pf_hasImage, pf_act, pf_spot, pf_size, pf_isWrong, pf_open, pf_edgeThing, pf_edgeMore, pf_stamp, pf_whose, pf_wage, pf_roundMany, pf_bestSet, pf_ran, pf_kind, pf_who, pf_tellsV, al_s, as_s, al_image, as_image, al_truths, as_truths0, as_truths1, al_knownRow, as_knownRow, al_daysRow, as_daysRow, al_bests, as_bests, al_nots, as_nots, al_lookeds, as_lookeds, al_bestsAt, as_bestsAt, al_worths, as_worths, al_keptKnown, as_keptKnown, al_keptDays, as_keptDays, al_round, as_round, al_sums, as_sums, al_bestRound, as_bestRound, al_bodies, as_bodies, cl_some, nm_b, nn_some, qn_some, qn_none, zk_0, zk_1, zk_n0, zk_n1, nI_add, pk_mul, pk_sub, nI_leE, nI_ltE, nI_eqE, nI_lt0, nI_ge0, nI_eq0, nI_gt0, nI_le0, ilt_t, ilt_f, ile_t, ile_f, ieq_t, ieq_f, if_tt, if_ff, Nat.add_sub_cancel]
    rw [show fuelL = 2047 + 1 from rfl, F_X12_every_4_s]
    unfold F_X12_every_43
    simp (maxSteps := 3000000) (disch := omega) only [w7, ma_msa_n, ma_msa_s, mi_msi_n, mi_msi_s, ml_msl_n, ml_msl_s, ma_msi, ma_msl, mi_msa, mi_msl, ml_msa, ml_msi, msa_msa, msi_msi, msl_msl, ck_m, gf_s, gf_image, gf_truths, gf_knownRow, gf_daysRow, gf_bests, gf_nots, gf_lookeds, gf_bestsAt, gf_worths, gf_keptKnown, gf_keptDays, gf_round, gf_sums, gf_bestRound, gf_bodies, gf_thrown, gf_hasImage, gf_act, gf_spot, gf_size, gf_isWrong, gf_open, gf_edgeThing, gf_edgeMore, gf_stamp, gf_whose, gf_wage, gf_roundMany, gf_bestSet, gf_ran, gf_kind, gf_who, gf_tellsV, pf_thrown, pf_hasImage, pf_act, pf_spot, pf_size, pf_isWrong, pf_open, pf_edgeThing, pf_edgeMore, pf_stamp, pf_whose, pf_wage, pf_roundMany, pf_bestSet, pf_ran, pf_kind, pf_who, pf_tellsV, al_s, as_s, al_image, as_image, al_truths, as_truths0, as_truths1, al_knownRow, as_knownRow, al_daysRow, as_daysRow, al_bests, as_bests, al_nots, as_nots, al_lookeds, as_lookeds, al_bestsAt, as_bestsAt, al_worths, as_worths, al_keptKnown, as_keptKnown, al_keptDays, as_keptDays, al_round, as_round, al_sums, as_sums, al_bestRound, as_bestRound, al_bodies, as_bodies, cl_some, nm_b, nn_some, qn_some, qn_none, zk_0, zk_1, zk_n0, zk_n1, nI_add, pk_mul, pk_sub, nI_leE, nI_ltE, nI_eqE, nI_lt0, nI_ge0, nI_eq0, nI_gt0, nI_le0, ilt_t, ilt_f, ile_t, ile_f, ieq_t, ieq_f, if_tt, if_ff, Nat.add_sub_cancel]
set_option maxRecDepth 100000 in
set_option maxHeartbeats 4000000 in
theorem f_pz2 {st : MS} {tp : Nat → Int32} {z p a c d n mg : Nat} (hR : Rd st tp z p a c d) (ihS : ∃ st' : MS, F_X12_every G mg (encM G b st h0) nx b = some ((), encM G b st' h0, nx) ∧ Rs st a c d (pz tp z n 1 d p) st') (ihL : ∀ (st : MS) (c q : Nat), p < q → q ≤ z → Rd st tp z q a c d → ∃ st' : MS, F_X12_some_4 G (F_X12_every G mg) (F_X12_factor G mg) (F_X12_some G mg) fuelL (encM G b st h0) nx b = some ((), encM G b st' h0, nx) ∧ Rs st a c d (pz tp z n 4 d q) st') : ∃ st' : MS, F_X12_some G (mg + 1) (encM G b st h0) nx b = some ((), encM G b st' h0, nx) ∧ Rs st a c d (pz tp z (n + 1) 2 d p) st' := by
  have hR0 := hR
  obtain ⟨hA, h7, h8, h4, ha, hc, hcp, htp⟩ := hR
  obtain ⟨h5, h6, hz, hpz⟩ := hA
  rw [F_X12_some_s, pz_e2]
  unfold B_X12_some
  obtain ⟨st2, e2, r2⟩ := ihS
  obtain ⟨o1, o2, o3⟩ := pz_ok (tp := tp) (z := z) n 1 d p hpz
  generalize pz tp z n 1 d p = r at r2 o1 o2 o3 ⊢
  by_cases ok : r.1 = true
  · rw [if_pos ok]
    obtain ⟨o4, o5⟩ := o3 ok
    obtain ⟨rd2, es2⟩ := r2.rd hR0 ok (by omega) o2
    obtain ⟨st4, e4, r4⟩ := ihL st2 _ r.2.1 (o5 (by omega)) o2 rd2
    refine ⟨st4, ?_, r2.seq ok r4 ha (by omega) (fun _ => rfl)⟩
    simp (maxSteps := 3000000) (disch := omega) only [e2, ma_msa_n, ma_msa_s, mi_msi_n, mi_msi_s, ml_msl_n, ml_msl_s, ma_msi, ma_msl, mi_msa, mi_msl, ml_msa, ml_msi, msa_msa, msi_msi, msl_msl, ck_m, gf_s, gf_image, gf_truths, gf_knownRow, gf_daysRow, gf_bests, gf_nots, gf_lookeds, gf_bestsAt, gf_worths, gf_keptKnown, gf_keptDays, gf_round, gf_sums, gf_bestRound, gf_bodies, gf_thrown, gf_hasImage, gf_act, gf_spot, gf_size, gf_isWrong, gf_open, gf_edgeThing, gf_edgeMore, gf_stamp, gf_whose, gf_wage, gf_roundMany, gf_bestSet, gf_ran, gf_kind, gf_who, gf_tellsV, pf_thrown, pf_hasImage, pf_act, pf_spot, pf_size, pf_isWrong, pf_open, pf_edgeThing, pf_edgeMore, pf_stamp, pf_whose, pf_wage, pf_roundMany, pf_bestSet, pf_ran, pf_kind, pf_who, pf_tellsV, al_s, as_s, al_image, as_image, al_truths, as_truths0, as_truths1, al_knownRow, as_knownRow, al_daysRow, as_daysRow, al_bests, as_bests, al_nots, as_nots, al_lookeds, as_lookeds, al_bestsAt, as_bestsAt, al_worths, as_worths, al_keptKnown, as_keptKnown, al_keptDays, as_keptDays, al_round, as_round, al_sums, as_sums, al_bestRound, as_bestRound, al_bodies, as_bodies, cl_some, nm_b, nn_some, qn_some, qn_none, zk_0, zk_1, zk_n0, zk_n1, nI_add, pk_mul, pk_sub, nI_leE, nI_ltE, nI_eqE, nI_lt0, nI_ge0, nI_eq0, nI_gt0, nI_le0, ilt_t, ilt_f, ile_t, ile_f, ieq_t, ieq_f, if_tt, if_ff, Nat.add_sub_cancel]
    exact e4
  · rw [if_neg ok]
    have w7 := r2.w ok
    refine ⟨st2, ?_, r2.no ok⟩
    simp (maxSteps := 3000000) (disch := omega) only [e2, ma_msa_n, ma_msa_s, mi_msi_n, mi_msi_s, ml_msl_n, ml_msl_s, ma_msi, ma_msl, mi_msa, mi_msl, ml_msa, ml_msi, msa_msa, msi_msi, msl_msl, ck_m, gf_s, gf_image, gf_truths, gf_knownRow, gf_daysRow, gf_bests, gf_nots, gf_lookeds, gf_bestsAt, gf_worths, gf_keptKnown, gf_keptDays, gf_round, gf_sums, gf_bestRound, gf_bodies, gf_thrown, gf_hasImage, gf_act, gf_spot, gf_size, gf_isWrong, gf_open, gf_edgeThing, gf_edgeMore, gf_stamp, gf_whose, gf_wage, gf_roundMany, gf_bestSet, gf_ran, gf_kind, gf_who, gf_tellsV, pf_thrown, pf_hasImage, pf_act, pf_spot, pf_size, pf_isWrong, pf_open, pf_edgeThing, pf_edgeMore, pf_stamp, pf_whose, pf_wage, pf_roundMany, pf_bestSet, pf_ran, pf_kind, pf_who, pf_tellsV, al_s, as_s, al_image, as_image, al_truths, as_truths0, as_truths1, al_knownRow, as_knownRow, al_daysRow, as_daysRow, al_bests, as_bests, al_nots, as_nots, al_lookeds, as_lookeds, al_bestsAt, as_bestsAt, al_worths, as_worths, al_keptKnown, as_keptKnown, al_keptDays, as_keptDays, al_round, as_round, al_sums, as_sums, al_bestRound, as_bestRound, al_bodies, as_bodies, cl_some, nm_b, nn_some, qn_some, qn_none, zk_0, zk_1, zk_n0, zk_n1, nI_add, pk_mul, pk_sub, nI_leE, nI_ltE, nI_eqE, nI_lt0, nI_ge0, nI_eq0, nI_gt0, nI_le0, ilt_t, ilt_f, ile_t, ile_f, ieq_t, ieq_f, if_tt, if_ff, Nat.add_sub_cancel]
    rw [show fuelL = 2047 + 1 from rfl, F_X12_some_4_s]
    unfold F_X12_some_43
    simp (maxSteps := 3000000) (disch := omega) only [w7, ma_msa_n, ma_msa_s, mi_msi_n, mi_msi_s, ml_msl_n, ml_msl_s, ma_msi, ma_msl, mi_msa, mi_msl, ml_msa, ml_msi, msa_msa, msi_msi, msl_msl, ck_m, gf_s, gf_image, gf_truths, gf_knownRow, gf_daysRow, gf_bests, gf_nots, gf_lookeds, gf_bestsAt, gf_worths, gf_keptKnown, gf_keptDays, gf_round, gf_sums, gf_bestRound, gf_bodies, gf_thrown, gf_hasImage, gf_act, gf_spot, gf_size, gf_isWrong, gf_open, gf_edgeThing, gf_edgeMore, gf_stamp, gf_whose, gf_wage, gf_roundMany, gf_bestSet, gf_ran, gf_kind, gf_who, gf_tellsV, pf_thrown, pf_hasImage, pf_act, pf_spot, pf_size, pf_isWrong, pf_open, pf_edgeThing, pf_edgeMore, pf_stamp, pf_whose, pf_wage, pf_roundMany, pf_bestSet, pf_ran, pf_kind, pf_who, pf_tellsV, al_s, as_s, al_image, as_image, al_truths, as_truths0, as_truths1, al_knownRow, as_knownRow, al_daysRow, as_daysRow, al_bests, as_bests, al_nots, as_nots, al_lookeds, as_lookeds, al_bestsAt, as_bestsAt, al_worths, as_worths, al_keptKnown, as_keptKnown, al_keptDays, as_keptDays, al_round, as_round, al_sums, as_sums, al_bestRound, as_bestRound, al_bodies, as_bodies, cl_some, nm_b, nn_some, qn_some, qn_none, zk_0, zk_1, zk_n0, zk_n1, nI_add, pk_mul, pk_sub, nI_leE, nI_ltE, nI_eqE, nI_lt0, nI_ge0, nI_eq0, nI_gt0, nI_le0, ilt_t, ilt_f, ile_t, ile_f, ieq_t, ieq_f, if_tt, if_ff, Nat.add_sub_cancel]
end P4
