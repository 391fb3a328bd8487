/-! THE REFERENCE: means asked for -/
/-- a valid picture of the book -/
def BOk (st : MS) (nt np lk td : Nat) : Prop := LkOk (ma st 1) nt lk ∧ lk ≤ 3 ∧ (∀ t, t < nt → ThOk (ma st 1) t) ∧ ma st 1 2 = nI np ∧ np ≤ 12 ∧ (∀ p, p < np → PrOk (ma st 1) p) ∧ ma st 1 3 = nI td ∧ td < 60000
theorem BOk.same {st st' : MS} {nt np lk td : Nat} (h : BOk st nt np lk td) (e : ma st' 1 = ma st 1) : BOk st' nt np lk td := by
  unfold BOk
  rw [e]
  exact h
theorem bIn_nI {p : Int32} {np : Nat} (hn : np < 2 ^ 31) (h : ¬ bIn p (nI 0) (nI np - nI 1) = 0) : ∃ j : Nat, j < np ∧ p = nI j := by
  have hh : nI 0 ≤ p ∧ p ≤ nI np - nI 1 := by
    unfold bIn at h
    by_cases c : nI 0 ≤ p ∧ p ≤ nI np - nI 1
    · exact c
    · rw [if_neg c] at h
      exact absurd rfl h
  obtain ⟨h1, h2⟩ := hh
  obtain ⟨j, hj, rfl⟩ := nI_of (x := p) (fun q => (Int32.not_lt.mpr (by rw [← nI_0]; exact h1)) q)
  by_cases c : np = 0
  · subst c
    exact absurd (Int32.le_trans h1 h2) (by decide)
  · rw [pk_sub (by omega)] at h2
    have := (nI_leI hj (by omega)).mp h2
    exact ⟨j, by omega, rfl⟩
theorem bIn_lh {d : Int32} {lo hi : Nat} (hl : lo < 2 ^ 31) (hh : hi < 2 ^ 31) (h : ¬ bIn d (nI lo) (nI hi) = 0) : ∃ j : Nat, lo ≤ j ∧ j ≤ hi ∧ d = nI j := by
  have hh2 : nI lo ≤ d ∧ d ≤ nI hi := by
    unfold bIn at h
    by_cases c : nI lo ≤ d ∧ d ≤ nI hi
    · exact c
    · rw [if_neg c] at h
      exact absurd rfl h
  obtain ⟨h1, h2⟩ := hh2
  have h0 : (0 : Int32) ≤ d := Int32.le_trans (nI_pos' hl) h1
  obtain ⟨j, hj, rfl⟩ := nI_of (x := d) (fun q => (Int32.not_lt.mpr h0) q)
  exact ⟨j, (nI_leI hl hj).mp h1, (nI_leI hj hh).mp h2, rfl⟩
theorem ovP_cg {S0 S1 : MS} (h10 : mi S1 10 = mi S0 10) (h11 : mi S1 11 = mi S0 11) {s : Nat → Int32} : ∀ j : Nat, ovP S1 s j = ovP S0 s j
  | 0 => rfl
  | j + 1 => by
    unfold ovP
    rw [ovP_cg h10 h11 j, overF_same (st := msa S0 1 (ovP S0 s j)) (st' := msa S1 1 (ovP S0 s j)) (by rw [ma_msa_s, ma_msa_s]) h10 h11]
theorem meG_cg {S0 S1 : MS} (h10 : mi S1 10 = mi S0 10) (h11 : mi S1 11 = mi S0 11) {nt : Nat} {ch ch1 : (Nat → Int32) → Nat → Int32} (hc : ch1 = ch) : ∀ (left dd : Nat) (s : Nat → Int32), meG S1 nt ch1 left dd s = meG S0 nt ch left dd s
  | 0, _, _ => rfl
  | left + 1, dd, s => by
    unfold meG
    rw [hc, show (fun s' => meG S1 nt ch left (dd + 1) (ovP S1 s' nt)) = fun s' => meG S0 nt ch left (dd + 1) (ovP S0 s' nt) from funext fun s' => by rw [ovP_cg h10 h11 nt, meG_cg h10 h11 rfl left (dd + 1)]]
theorem beG_cg {S0 S1 : MS} (h10 : mi S1 10 = mi S0 10) (h11 : mi S1 11 = mi S0 11) {nt lk : Nat} : ∀ (left : Nat) (s : Nat → Int32), beG S1 nt lk left s = beG S0 nt lk left s
  | 0, _ => rfl
  | left + 1, s => by
    unfold beG
    rw [show (fun set => loG nt set (fun s' => beG S1 nt lk left (ovP S1 s' nt)) nt s) = fun set => loG nt set (fun s' => beG S0 nt lk left (ovP S0 s' nt)) nt s from funext fun set => congrArg (fun k => loG nt set k nt s) (funext fun s' => by rw [ovP_cg h10 h11 nt, beG_cg h10 h11 left])]
/-- the least long: no answer -/
def noJ : Int64 := -9223372036854775808
def plC (st : MS) (nt lk p : Nat) (s : Nat → Int32) (dd : Nat) : Int32 := whF (msa st 1 s) p dd nt lk
theorem plC_cg {st st1 : MS} {ks : List Nat} (h : FrM ks st st1) (h1 : 1 ∉ ks) (h2 : 10 ∉ ks) (h3 : 11 ∉ ks) {nt lk p : Nat} : plC st1 nt lk p = plC st nt lk p := funext fun s => funext fun dd => whF_fr (fr_cg1 (f := s) h) h1 h2 h3
/-- mean of a plan -/
def meanF (st : MS) (nt lk td : Nat) (p d : Int32) : Int64 := if bIn p (nI 0) (ma st 1 2 - nI 1) = 0 then noJ else if bIn d (nI 1) (nI 3) = 0 then noJ else meG st nt (plC st nt lk p.toNatClampNeg) d.toNatClampNeg td (ma st 1)
/-- what the asked means leave as it was -/
def KM : List Nat := 25 :: KL
theorem meanF_cg {st st1 : MS} {ks : List Nat} (h : FrM ks st st1) (h1 : 1 ∉ ks) (h2 : 10 ∉ ks) (h3 : 11 ∉ ks) {nt lk td : Nat} {p d : Int32} : meanF st1 nt lk td p d = meanF st nt lk td p d := by
  unfold meanF
  rw [h.ofa 1 h1, plC_cg h h1 h2 h3, meG_cg (h.of1 10 h2) (h.of1 11 h3) rfl]
set_option maxRecDepth 100000 in
set_option maxHeartbeats 4000000 in
theorem f_mean {G : Gx} {b : Nat} {h0 : Hp} {nx : Nat} {st : MS} {nt np lk td N : Nat} (hB : BOk st nt np lk td) (hN : StOk st N) (hb : N + 117384 < 2 ^ 31) (p d : Int32) : ∃ (st' : MS) (N' : Nat), F_X12_mean G (encM G b st h0) nx b p d = some (meanF st nt lk td p d, encM G b st' h0, nx) ∧ FrM KM st st' ∧ StOk st' N' ∧ N' ≤ N + 117384 := by
  obtain ⟨hL, hl3, ht, h2, hnp, hp, h3, htd⟩ := hB
  unfold F_X12_mean F_X12_mean_17 meanF
  simp (maxSteps := 3000000) (disch := omega) only [f_isPlan, f_in, ma_msa_n, ma_msa_s, mi_msi_n, mi_msi_s, ml_msl_n, ml_msl_s, ma_msi, ma_msl, mi_msa, mi_msl, ml_msa, ml_msi, msa_msa, msi_msi, msl_msl, ck_m, gf_s, gf_image, gf_truths, gf_knownRow, gf_daysRow, gf_bests, gf_nots, gf_lookeds, gf_bestsAt, gf_worths, gf_keptKnown, gf_keptDays, gf_round, gf_sums, gf_bestRound, gf_bodies, gf_thrown, gf_hasImage, gf_act, gf_spot, gf_size, gf_isWrong, gf_open, gf_edgeThing, gf_edgeMore, gf_stamp, gf_whose, gf_wage, gf_roundMany, gf_bestSet, gf_ran, gf_kind, gf_who, gf_tellsV, pf_thrown, pf_hasImage, pf_act, pf_spot, pf_size, pf_isWrong, pf_open, pf_edgeThing, pf_edgeMore, pf_stamp, pf_whose, pf_wage, pf_roundMany, pf_bestSet, pf_ran, pf_kind, pf_who, pf_tellsV, al_s, as_s, al_image, as_image, al_truths, as_truths0, as_truths1, al_knownRow, as_knownRow, al_daysRow, as_daysRow, al_bests, as_bests, al_nots, as_nots, al_lookeds, as_lookeds, al_bestsAt, as_bestsAt, al_worths, as_worths, al_keptKnown, as_keptKnown, al_keptDays, as_keptDays, al_round, as_round, al_sums, as_sums, al_bestRound, as_bestRound, al_bodies, as_bodies, cl_some, nm_b, nn_some, qn_some, qn_none, zk_0, zk_1, zk_n0, zk_n1, nI_add, pk_mul, pk_sub, nI_leE, nI_ltE, nI_eqE, nI_lt0, nI_ge0, nI_eq0, nI_gt0, nI_le0, ilt_t, ilt_f, ile_t, ile_f, ieq_t, ieq_f, if_tt, if_ff, Nat.add_sub_cancel]
  rw [h2]
  by_cases c1 : bIn p (nI 0) (nI np - nI 1) = 0
  · rw [if_pos c1, if_pos c1]
    exact ⟨st, N, rfl, FrM.rf, hN, by omega⟩
  · rw [if_neg c1, if_neg c1]
    by_cases c2 : bIn d (nI 1) (nI 3) = 0
    · rw [if_pos c2, if_pos c2]
      exact ⟨st, N, rfl, FrM.rf, hN, by omega⟩
    · rw [if_neg c2, if_neg c2]
      obtain ⟨p, hp1, rfl⟩ := bIn_nI (by omega) c1
      obtain ⟨d, hd1, hd3, rfl⟩ := bIn_lh (by omega) (by omega) c2
      rw [nI_clamp (by omega), nI_clamp (by omega)]
      have fr0 : FrM [25] st (msi st 25 (nI 0)) := FrM.msi (by decide)
      have hMF : MF nt d ≤ 64 := by
        have hn := hL.2.1
        rcases (show d = 1 ∨ d = 2 ∨ d = 3 by omega) with rfl | rfl | rfl <;> (simp only [MF]; omega)
      have hw : wG 1608 d ≤ 117384 := by
        rcases (show d = 1 ∨ d = 2 ∨ d = 3 by omega) with rfl | rfl | rfl <;> decide
      obtain ⟨st', N', e, m1, m2, m3, m4⟩ := f_meanCh (G := G) (b := b) (h0 := h0) (nx := nx) (S0 := msi st 25 (nI 0)) (nt := nt) (wc := 1608) (d0 := 0) (pl := nI p) hL.1 hL.2.1 ht (ch_plan (S0 := msi st 25 (nI 0)) hL hl3 ht (hp p hp1) mi_msi_s) d td 64 hd3 (by omega) (by omega) hMF (msi st 25 (nI 0)) N ⟨FX.rf, AgN.rf⟩ (StOk_fr fr0 (by decide) (by decide) hN) (by omega)
      simp (maxSteps := 3000000) (disch := omega) only [h3, e, ma_msa_n, ma_msa_s, mi_msi_n, mi_msi_s, ml_msl_n, ml_msl_s, ma_msi, ma_msl, mi_msa, mi_msl, ml_msa, ml_msi, msa_msa, msi_msi, msl_msl, ck_m, gf_s, gf_image, gf_truths, gf_knownRow, gf_daysRow, gf_bests, gf_nots, gf_lookeds, gf_bestsAt, gf_worths, gf_keptKnown, gf_keptDays, gf_round, gf_sums, gf_bestRound, gf_bodies, gf_thrown, gf_hasImage, gf_act, gf_spot, gf_size, gf_isWrong, gf_open, gf_edgeThing, gf_edgeMore, gf_stamp, gf_whose, gf_wage, gf_roundMany, gf_bestSet, gf_ran, gf_kind, gf_who, gf_tellsV, pf_thrown, pf_hasImage, pf_act, pf_spot, pf_size, pf_isWrong, pf_open, pf_edgeThing, pf_edgeMore, pf_stamp, pf_whose, pf_wage, pf_roundMany, pf_bestSet, pf_ran, pf_kind, pf_who, pf_tellsV, al_s, as_s, al_image, as_image, al_truths, as_truths0, as_truths1, al_knownRow, as_knownRow, al_daysRow, as_daysRow, al_bests, as_bests, al_nots, as_nots, al_lookeds, as_lookeds, al_bestsAt, as_bestsAt, al_worths, as_worths, al_keptKnown, as_keptKnown, al_keptDays, as_keptDays, al_round, as_round, al_sums, as_sums, al_bestRound, as_bestRound, al_bodies, as_bodies, cl_some, nm_b, nn_some, qn_some, qn_none, zk_0, zk_1, zk_n0, zk_n1, nI_add, pk_mul, pk_sub, nI_leE, nI_ltE, nI_eqE, nI_lt0, nI_ge0, nI_eq0, nI_gt0, nI_le0, ilt_t, ilt_f, ile_t, ile_f, ieq_t, ieq_f, if_tt, if_ff, Nat.add_sub_cancel]
      refine ⟨st', N', ?_, (fr0.trans m1).mono (by decide), m2, by omega⟩
      rw [meG_cg (S0 := st) (S1 := msi st 25 (nI 0)) (fr0.of1 10 (by decide)) (fr0.of1 11 (by decide)) (show (fun s dd => whF (msa (msi st 25 (nI 0)) 1 s) p dd nt lk) = plC st nt lk p from plC_cg (st1 := msi st 25 (nI 0)) fr0 (by decide) (by decide) (by decide)) d td]
/-- the best of all, and its first set -/
def allS (st : MS) (nt lk d : Nat) : Int32 := (bsS (fun set => loG nt set (fun s' => beG st nt lk (d - 1) (ovP st s' nt)) nt (ma st 1)) lk (2 ^ nt)).2.2
set_option maxRecDepth 100000 in
set_option maxHeartbeats 4000000 in
theorem f_allOf {G : Gx} {b : Nat} {h0 : Hp} {nx : Nat} {st : MS} {nt np lk td N d : Nat} (hB : BOk st nt np lk td) (hN : StOk st N) (hb : N < 2 ^ 31) (hd1 : 1 ≤ d) (hd3 : d ≤ 3) : ∃ (st' : MS) (N' : Nat), F_X12_allOf G (encM G b st h0) nx b (nI d) = some (beG st nt lk d (ma st 1), encM G b st' h0, nx) ∧ FrM KM st st' ∧ StOk st' N' ∧ N' ≤ N ∧ mi st' 26 = allS st nt lk d := by
  obtain ⟨hL, hl3, ht, h2, hnp, hp, h3, htd⟩ := hB
  have fr0 : FrM [25] st (msi st 25 (nI 0)) := FrM.msi (by decide)
  have hMF : MF nt d ≤ 64 := by
    have hn := hL.2.1
    rcases (show d = 1 ∨ d = 2 ∨ d = 3 by omega) with rfl | rfl | rfl <;> (simp only [MF]; omega)
  obtain ⟨st', N', e, ⟨m1, m2, m3, m4⟩, m5⟩ := f_meanBest (G := G) (b := b) (h0 := h0) (nx := nx) (S0 := msi st 25 (nI 0)) hL ht mi_msi_s d td 64 hd3 hMF (msi st 25 (nI 0)) N ⟨FX.rf, AgN.rf⟩ (StOk_fr fr0 (by decide) (by decide) hN) hb
  unfold F_X12_allOf
  simp (maxSteps := 3000000) (disch := omega) only [h3, e, ma_msa_n, ma_msa_s, mi_msi_n, mi_msi_s, ml_msl_n, ml_msl_s, ma_msi, ma_msl, mi_msa, mi_msl, ml_msa, ml_msi, msa_msa, msi_msi, msl_msl, ck_m, gf_s, gf_image, gf_truths, gf_knownRow, gf_daysRow, gf_bests, gf_nots, gf_lookeds, gf_bestsAt, gf_worths, gf_keptKnown, gf_keptDays, gf_round, gf_sums, gf_bestRound, gf_bodies, gf_thrown, gf_hasImage, gf_act, gf_spot, gf_size, gf_isWrong, gf_open, gf_edgeThing, gf_edgeMore, gf_stamp, gf_whose, gf_wage, gf_roundMany, gf_bestSet, gf_ran, gf_kind, gf_who, gf_tellsV, pf_thrown, pf_hasImage, pf_act, pf_spot, pf_size, pf_isWrong, pf_open, pf_edgeThing, pf_edgeMore, pf_stamp, pf_whose, pf_wage, pf_roundMany, pf_bestSet, pf_ran, pf_kind, pf_who, pf_tellsV, al_s, as_s, al_image, as_image, al_truths, as_truths0, as_truths1, al_knownRow, as_knownRow, al_daysRow, as_daysRow, al_bests, as_bests, al_nots, as_nots, al_lookeds, as_lookeds, al_bestsAt, as_bestsAt, al_worths, as_worths, al_keptKnown, as_keptKnown, al_keptDays, as_keptDays, al_round, as_round, al_sums, as_sums, al_bestRound, as_bestRound, al_bodies, as_bodies, cl_some, nm_b, nn_some, qn_some, qn_none, zk_0, zk_1, zk_n0, zk_n1, nI_add, pk_mul, pk_sub, nI_leE, nI_ltE, nI_eqE, nI_lt0, nI_ge0, nI_eq0, nI_gt0, nI_le0, ilt_t, ilt_f, ile_t, ile_f, ieq_t, ieq_f, if_tt, if_ff, Nat.add_sub_cancel]
  refine ⟨st', N', ?_, (fr0.trans m1).mono (by decide), m2, by omega, ?_⟩
  · rw [beG_cg (S0 := st) (S1 := msi st 25 (nI 0)) (fr0.of1 10 (by decide)) (fr0.of1 11 (by decide))]
  · rw [m5 hd1]
    unfold allS
    rw [show (fun set => loG nt set (fun s' => beG (msi st 25 (nI 0)) nt lk (d - 1) (ovP (msi st 25 (nI 0)) s' nt)) nt (ma (msi st 25 (nI 0)) 1)) = (fun set => loG nt set (fun s' => beG st nt lk (d - 1) (ovP st s' nt)) nt (ma st 1)) from funext fun set => congrArg (fun k => loG nt set k nt (ma st 1)) (funext fun s' => by rw [ovP_cg (S0 := st) (S1 := msi st 25 (nI 0)) (fr0.of1 10 (by decide)) (fr0.of1 11 (by decide)) nt, beG_cg (S0 := st) (S1 := msi st 25 (nI 0)) (fr0.of1 10 (by decide)) (fr0.of1 11 (by decide))])]
/-- all -/
def allF (st : MS) (nt lk : Nat) (d w : Int32) : Int64 := if bIn d (nI 1) (nI 2) = 0 then noJ else if bIn w (nI 0) (nI 1) = 0 then noJ else if nt = 0 then noJ else if w = 0 then beG st nt lk d.toNatClampNeg (ma st 1) else (allS st nt lk d.toNatClampNeg).toInt64
set_option maxRecDepth 100000 in
set_option maxHeartbeats 4000000 in
theorem f_all {G : Gx} {b : Nat} {h0 : Hp} {nx : Nat} {st : MS} {nt np lk td N : Nat} (hB : BOk st nt np lk td) (hN : StOk st N) (hb : N < 2 ^ 31) (d w : Int32) : ∃ (st' : MS) (N' : Nat), F_X12_all G (encM G b st h0) nx b d w = some (allF st nt lk d w, encM G b st' h0, nx) ∧ FrM KM st st' ∧ StOk st' N' ∧ N' ≤ N := by
  have h1 := hB.1.1
  have hn := hB.1.2.1
  unfold F_X12_all F_X12_all_27 F_X12_all_50 allF
  simp (maxSteps := 3000000) (disch := omega) only [f_in, ma_msa_n, ma_msa_s, mi_msi_n, mi_msi_s, ml_msl_n, ml_msl_s, ma_msi, ma_msl, mi_msa, mi_msl, ml_msa, ml_msi, msa_msa, msi_msi, msl_msl, ck_m, gf_s, gf_image, gf_truths, gf_knownRow, gf_daysRow, gf_bests, gf_nots, gf_lookeds, gf_bestsAt, gf_worths, gf_keptKnown, gf_keptDays, gf_round, gf_sums, gf_bestRound, gf_bodies, gf_thrown, gf_hasImage, gf_act, gf_spot, gf_size, gf_isWrong, gf_open, gf_edgeThing, gf_edgeMore, gf_stamp, gf_whose, gf_wage, gf_roundMany, gf_bestSet, gf_ran, gf_kind, gf_who, gf_tellsV, pf_thrown, pf_hasImage, pf_act, pf_spot, pf_size, pf_isWrong, pf_open, pf_edgeThing, pf_edgeMore, pf_stamp, pf_whose, pf_wage, pf_roundMany, pf_bestSet, pf_ran, pf_kind, pf_who, pf_tellsV, al_s, as_s, al_image, as_image, al_truths, as_truths0, as_truths1, al_knownRow, as_knownRow, al_daysRow, as_daysRow, al_bests, as_bests, al_nots, as_nots, al_lookeds, as_lookeds, al_bestsAt, as_bestsAt, al_worths, as_worths, al_keptKnown, as_keptKnown, al_keptDays, as_keptDays, al_round, as_round, al_sums, as_sums, al_bestRound, as_bestRound, al_bodies, as_bodies, cl_some, nm_b, nn_some, qn_some, qn_none, zk_0, zk_1, zk_n0, zk_n1, nI_add, pk_mul, pk_sub, nI_leE, nI_ltE, nI_eqE, nI_lt0, nI_ge0, nI_eq0, nI_gt0, nI_le0, ilt_t, ilt_f, ile_t, ile_f, ieq_t, ieq_f, if_tt, if_ff, Nat.add_sub_cancel]
  by_cases c1 : bIn d (nI 1) (nI 2) = 0
  · rw [if_pos c1, if_pos c1]
    exact ⟨st, N, rfl, FrM.rf, hN, Nat.le_refl _⟩
  · rw [if_neg c1, if_neg c1]
    by_cases c2 : bIn w (nI 0) (nI 1) = 0
    · rw [if_pos c2, if_pos c2]
      exact ⟨st, N, rfl, FrM.rf, hN, Nat.le_refl _⟩
    · rw [if_neg c2, if_neg c2]
      by_cases c3 : nt = 0
      · simp (maxSteps := 3000000) (disch := omega) only [h1, ma_msa_n, ma_msa_s, mi_msi_n, mi_msi_s, ml_msl_n, ml_msl_s, ma_msi, ma_msl, mi_msa, mi_msl, ml_msa, ml_msi, msa_msa, msi_msi, msl_msl, ck_m, gf_s, gf_image, gf_truths, gf_knownRow, gf_daysRow, gf_bests, gf_nots, gf_lookeds, gf_bestsAt, gf_worths, gf_keptKnown, gf_keptDays, gf_round, gf_sums, gf_bestRound, gf_bodies, gf_thrown, gf_hasImage, gf_act, gf_spot, gf_size, gf_isWrong, gf_open, gf_edgeThing, gf_edgeMore, gf_stamp, gf_whose, gf_wage, gf_roundMany, gf_bestSet, gf_ran, gf_kind, gf_who, gf_tellsV, pf_thrown, pf_hasImage, pf_act, pf_spot, pf_size, pf_isWrong, pf_open, pf_edgeThing, pf_edgeMore, pf_stamp, pf_whose, pf_wage, pf_roundMany, pf_bestSet, pf_ran, pf_kind, pf_who, pf_tellsV, al_s, as_s, al_image, as_image, al_truths, as_truths0, as_truths1, al_knownRow, as_knownRow, al_daysRow, as_daysRow, al_bests, as_bests, al_nots, as_nots, al_lookeds, as_lookeds, al_bestsAt, as_bestsAt, al_worths, as_worths, al_keptKnown, as_keptKnown, al_keptDays, as_keptDays, al_round, as_round, al_sums, as_sums, al_bestRound, as_bestRound, al_bodies, as_bodies, cl_some, nm_b, nn_some, qn_some, qn_none, zk_0, zk_1, zk_n0, zk_n1, nI_add, pk_mul, pk_sub, nI_leE, nI_ltE, nI_eqE, nI_lt0, nI_ge0, nI_eq0, nI_gt0, nI_le0, ilt_t, ilt_f, ile_t, ile_f, ieq_t, ieq_f, if_tt, if_ff, Nat.add_sub_cancel]
        exact ⟨st, N, rfl, FrM.rf, hN, Nat.le_refl _⟩
      · simp (maxSteps := 3000000) (disch := omega) only [h1, ma_msa_n, ma_msa_s, mi_msi_n, mi_msi_s, ml_msl_n, ml_msl_s, ma_msi, ma_msl, mi_msa, mi_msl, ml_msa, ml_msi, msa_msa, msi_msi, msl_msl, ck_m, gf_s, gf_image, gf_truths, gf_knownRow, gf_daysRow, gf_bests, gf_nots, gf_lookeds, gf_bestsAt, gf_worths, gf_keptKnown, gf_keptDays, gf_round, gf_sums, gf_bestRound, gf_bodies, gf_thrown, gf_hasImage, gf_act, gf_spot, gf_size, gf_isWrong, gf_open, gf_edgeThing, gf_edgeMore, gf_stamp, gf_whose, gf_wage, gf_roundMany, gf_bestSet, gf_ran, gf_kind, gf_who, gf_tellsV, pf_thrown, pf_hasImage, pf_act, pf_spot, pf_size, pf_isWrong, pf_open, pf_edgeThing, pf_edgeMore, pf_stamp, pf_whose, pf_wage, pf_roundMany, pf_bestSet, pf_ran, pf_kind, pf_who, pf_tellsV, al_s, as_s, al_image, as_image, al_truths, as_truths0, as_truths1, al_knownRow, as_knownRow, al_daysRow, as_daysRow, al_bests, as_bests, al_nots, as_nots, al_lookeds, as_lookeds, al_bestsAt, as_bestsAt, al_worths, as_worths, al_keptKnown, as_keptKnown, al_keptDays, as_keptDays, al_round, as_round, al_sums, as_sums, al_bestRound, as_bestRound, al_bodies, as_bodies, cl_some, nm_b, nn_some, qn_some, qn_none, zk_0, zk_1, zk_n0, zk_n1, nI_add, pk_mul, pk_sub, nI_leE, nI_ltE, nI_eqE, nI_lt0, nI_ge0, nI_eq0, nI_gt0, nI_le0, ilt_t, ilt_f, ile_t, ile_f, ieq_t, ieq_f, if_tt, if_ff, Nat.add_sub_cancel]
        obtain ⟨d, hd1, hd3, rfl⟩ := bIn_lh (by omega) (by omega) c1
        rw [nI_clamp (by omega)]
        obtain ⟨st', N', e, m1, m2, m3, m4⟩ := f_allOf (G := G) (b := b) (h0 := h0) (nx := nx) hB hN hb hd1 (by omega)
        refine ⟨st', N', ?_, m1, m2, m3⟩
        by_cases c4 : w = 0
        · simp (maxSteps := 3000000) (disch := omega) only [e, ma_msa_n, ma_msa_s, mi_msi_n, mi_msi_s, ml_msl_n, ml_msl_s, ma_msi, ma_msl, mi_msa, mi_msl, ml_msa, ml_msi, msa_msa, msi_msi, msl_msl, ck_m, gf_s, gf_image, gf_truths, gf_knownRow, gf_daysRow, gf_bests, gf_nots, gf_lookeds, gf_bestsAt, gf_worths, gf_keptKnown, gf_keptDays, gf_round, gf_sums, gf_bestRound, gf_bodies, gf_thrown, gf_hasImage, gf_act, gf_spot, gf_size, gf_isWrong, gf_open, gf_edgeThing, gf_edgeMore, gf_stamp, gf_whose, gf_wage, gf_roundMany, gf_bestSet, gf_ran, gf_kind, gf_who, gf_tellsV, pf_thrown, pf_hasImage, pf_act, pf_spot, pf_size, pf_isWrong, pf_open, pf_edgeThing, pf_edgeMore, pf_stamp, pf_whose, pf_wage, pf_roundMany, pf_bestSet, pf_ran, pf_kind, pf_who, pf_tellsV, al_s, as_s, al_image, as_image, al_truths, as_truths0, as_truths1, al_knownRow, as_knownRow, al_daysRow, as_daysRow, al_bests, as_bests, al_nots, as_nots, al_lookeds, as_lookeds, al_bestsAt, as_bestsAt, al_worths, as_worths, al_keptKnown, as_keptKnown, al_keptDays, as_keptDays, al_round, as_round, al_sums, as_sums, al_bestRound, as_bestRound, al_bodies, as_bodies, cl_some, nm_b, nn_some, qn_some, qn_none, zk_0, zk_1, zk_n0, zk_n1, nI_add, pk_mul, pk_sub, nI_leE, nI_ltE, nI_eqE, nI_lt0, nI_ge0, nI_eq0, nI_gt0, nI_le0, ilt_t, ilt_f, ile_t, ile_f, ieq_t, ieq_f, if_tt, if_ff, Nat.add_sub_cancel]
          rw [if_pos c4, if_pos c4]
        · simp (maxSteps := 3000000) (disch := omega) only [e, m4, ma_msa_n, ma_msa_s, mi_msi_n, mi_msi_s, ml_msl_n, ml_msl_s, ma_msi, ma_msl, mi_msa, mi_msl, ml_msa, ml_msi, msa_msa, msi_msi, msl_msl, ck_m, gf_s, gf_image, gf_truths, gf_knownRow, gf_daysRow, gf_bests, gf_nots, gf_lookeds, gf_bestsAt, gf_worths, gf_keptKnown, gf_keptDays, gf_round, gf_sums, gf_bestRound, gf_bodies, gf_thrown, gf_hasImage, gf_act, gf_spot, gf_size, gf_isWrong, gf_open, gf_edgeThing, gf_edgeMore, gf_stamp, gf_whose, gf_wage, gf_roundMany, gf_bestSet, gf_ran, gf_kind, gf_who, gf_tellsV, pf_thrown, pf_hasImage, pf_act, pf_spot, pf_size, pf_isWrong, pf_open, pf_edgeThing, pf_edgeMore, pf_stamp, pf_whose, pf_wage, pf_roundMany, pf_bestSet, pf_ran, pf_kind, pf_who, pf_tellsV, al_s, as_s, al_image, as_image, al_truths, as_truths0, as_truths1, al_knownRow, as_knownRow, al_daysRow, as_daysRow, al_bests, as_bests, al_nots, as_nots, al_lookeds, as_lookeds, al_bestsAt, as_bestsAt, al_worths, as_worths, al_keptKnown, as_keptKnown, al_keptDays, as_keptDays, al_round, as_round, al_sums, as_sums, al_bestRound, as_bestRound, al_bodies, as_bodies, cl_some, nm_b, nn_some, qn_some, qn_none, zk_0, zk_1, zk_n0, zk_n1, nI_add, pk_mul, pk_sub, nI_leE, nI_ltE, nI_eqE, nI_lt0, nI_ge0, nI_eq0, nI_gt0, nI_le0, ilt_t, ilt_f, ile_t, ile_f, ieq_t, ieq_f, if_tt, if_ff, Nat.add_sub_cancel]
          rw [if_neg c4, if_neg c4]
/-- loses -/
def losesF (st : MS) (nt lk td : Nat) (p d : Int32) : Int64 := if bIn p (nI 0) (ma st 1 2 - nI 1) = 0 then noJ else if bIn d (nI 1) (nI 2) = 0 then noJ else if nt = 0 then noJ else beG st nt lk d.toNatClampNeg (ma st 1) - meanF st nt lk td p d
set_option maxRecDepth 100000 in
set_option maxHeartbeats 4000000 in
theorem f_loses {G : Gx} {b : Nat} {h0 : Hp} {nx : Nat} {st : MS} {nt np lk td N : Nat} (hB : BOk st nt np lk td) (hN : StOk st N) (hb : N + 117384 < 2 ^ 31) (p d : Int32) : ∃ (st' : MS) (N' : Nat), F_X12_loses G (encM G b st h0) nx b p d = some (losesF st nt lk td p d, encM G b st' h0, nx) ∧ FrM KM st st' ∧ StOk st' N' ∧ N' ≤ N + 117384 := by
  have h1 := hB.1.1
  have hn := hB.1.2.1
  unfold F_X12_loses F_X12_loses_26 losesF
  simp (maxSteps := 3000000) (disch := omega) only [f_in, f_isPlan, ma_msa_n, ma_msa_s, mi_msi_n, mi_msi_s, ml_msl_n, ml_msl_s, ma_msi, ma_msl, mi_msa, mi_msl, ml_msa, ml_msi, msa_msa, msi_msi, msl_msl, ck_m, gf_s, gf_image, gf_truths, gf_knownRow, gf_daysRow, gf_bests, gf_nots, gf_lookeds, gf_bestsAt, gf_worths, gf_keptKnown, gf_keptDays, gf_round, gf_sums, gf_bestRound, gf_bodies, gf_thrown, gf_hasImage, gf_act, gf_spot, gf_size, gf_isWrong, gf_open, gf_edgeThing, gf_edgeMore, gf_stamp, gf_whose, gf_wage, gf_roundMany, gf_bestSet, gf_ran, gf_kind, gf_who, gf_tellsV, pf_thrown, pf_hasImage, pf_act, pf_spot, pf_size, pf_isWrong, pf_open, pf_edgeThing, pf_edgeMore, pf_stamp, pf_whose, pf_wage, pf_roundMany, pf_bestSet, pf_ran, pf_kind, pf_who, pf_tellsV, al_s, as_s, al_image, as_image, al_truths, as_truths0, as_truths1, al_knownRow, as_knownRow, al_daysRow, as_daysRow, al_bests, as_bests, al_nots, as_nots, al_lookeds, as_lookeds, al_bestsAt, as_bestsAt, al_worths, as_worths, al_keptKnown, as_keptKnown, al_keptDays, as_keptDays, al_round, as_round, al_sums, as_sums, al_bestRound, as_bestRound, al_bodies, as_bodies, cl_some, nm_b, nn_some, qn_some, qn_none, zk_0, zk_1, zk_n0, zk_n1, nI_add, pk_mul, pk_sub, nI_leE, nI_ltE, nI_eqE, nI_lt0, nI_ge0, nI_eq0, nI_gt0, nI_le0, ilt_t, ilt_f, ile_t, ile_f, ieq_t, ieq_f, if_tt, if_ff, Nat.add_sub_cancel]
  by_cases c1 : bIn p (nI 0) (ma st 1 2 - nI 1) = 0
  · rw [if_pos c1, if_pos c1]
    exact ⟨st, N, rfl, FrM.rf, hN, by omega⟩
  · rw [if_neg c1, if_neg c1]
    by_cases c2 : bIn d (nI 1) (nI 2) = 0
    · rw [if_pos c2, if_pos c2]
      exact ⟨st, N, rfl, FrM.rf, hN, by omega⟩
    · rw [if_neg c2, if_neg c2]
      by_cases c3 : nt = 0
      · simp (maxSteps := 3000000) (disch := omega) only [h1, ma_msa_n, ma_msa_s, mi_msi_n, mi_msi_s, ml_msl_n, ml_msl_s, ma_msi, ma_msl, mi_msa, mi_msl, ml_msa, ml_msi, msa_msa, msi_msi, msl_msl, ck_m, gf_s, gf_image, gf_truths, gf_knownRow, gf_daysRow, gf_bests, gf_nots, gf_lookeds, gf_bestsAt, gf_worths, gf_keptKnown, gf_keptDays, gf_round, gf_sums, gf_bestRound, gf_bodies, gf_thrown, gf_hasImage, gf_act, gf_spot, gf_size, gf_isWrong, gf_open, gf_edgeThing, gf_edgeMore, gf_stamp, gf_whose, gf_wage, gf_roundMany, gf_bestSet, gf_ran, gf_kind, gf_who, gf_tellsV, pf_thrown, pf_hasImage, pf_act, pf_spot, pf_size, pf_isWrong, pf_open, pf_edgeThing, pf_edgeMore, pf_stamp, pf_whose, pf_wage, pf_roundMany, pf_bestSet, pf_ran, pf_kind, pf_who, pf_tellsV, al_s, as_s, al_image, as_image, al_truths, as_truths0, as_truths1, al_knownRow, as_knownRow, al_daysRow, as_daysRow, al_bests, as_bests, al_nots, as_nots, al_lookeds, as_lookeds, al_bestsAt, as_bestsAt, al_worths, as_worths, al_keptKnown, as_keptKnown, al_keptDays, as_keptDays, al_round, as_round, al_sums, as_sums, al_bestRound, as_bestRound, al_bodies, as_bodies, cl_some, nm_b, nn_some, qn_some, qn_none, zk_0, zk_1, zk_n0, zk_n1, nI_add, pk_mul, pk_sub, nI_leE, nI_ltE, nI_eqE, nI_lt0, nI_ge0, nI_eq0, nI_gt0, nI_le0, ilt_t, ilt_f, ile_t, ile_f, ieq_t, ieq_f, if_tt, if_ff, Nat.add_sub_cancel]
        exact ⟨st, N, rfl, FrM.rf, hN, by omega⟩
      · simp (maxSteps := 3000000) (disch := omega) only [h1, ma_msa_n, ma_msa_s, mi_msi_n, mi_msi_s, ml_msl_n, ml_msl_s, ma_msi, ma_msl, mi_msa, mi_msl, ml_msa, ml_msi, msa_msa, msi_msi, msl_msl, ck_m, gf_s, gf_image, gf_truths, gf_knownRow, gf_daysRow, gf_bests, gf_nots, gf_lookeds, gf_bestsAt, gf_worths, gf_keptKnown, gf_keptDays, gf_round, gf_sums, gf_bestRound, gf_bodies, gf_thrown, gf_hasImage, gf_act, gf_spot, gf_size, gf_isWrong, gf_open, gf_edgeThing, gf_edgeMore, gf_stamp, gf_whose, gf_wage, gf_roundMany, gf_bestSet, gf_ran, gf_kind, gf_who, gf_tellsV, pf_thrown, pf_hasImage, pf_act, pf_spot, pf_size, pf_isWrong, pf_open, pf_edgeThing, pf_edgeMore, pf_stamp, pf_whose, pf_wage, pf_roundMany, pf_bestSet, pf_ran, pf_kind, pf_who, pf_tellsV, al_s, as_s, al_image, as_image, al_truths, as_truths0, as_truths1, al_knownRow, as_knownRow, al_daysRow, as_daysRow, al_bests, as_bests, al_nots, as_nots, al_lookeds, as_lookeds, al_bestsAt, as_bestsAt, al_worths, as_worths, al_keptKnown, as_keptKnown, al_keptDays, as_keptDays, al_round, as_round, al_sums, as_sums, al_bestRound, as_bestRound, al_bodies, as_bodies, cl_some, nm_b, nn_some, qn_some, qn_none, zk_0, zk_1, zk_n0, zk_n1, nI_add, pk_mul, pk_sub, nI_leE, nI_ltE, nI_eqE, nI_lt0, nI_ge0, nI_eq0, nI_gt0, nI_le0, ilt_t, ilt_f, ile_t, ile_f, ieq_t, ieq_f, if_tt, if_ff, Nat.add_sub_cancel]
        obtain ⟨d, hd1, hd3, rfl⟩ := bIn_lh (by omega) (by omega) c2
        rw [nI_clamp (by omega)]
        obtain ⟨st', N', e, m1, m2, m3, m4⟩ := f_allOf (G := G) (b := b) (h0 := h0) (nx := nx) hB hN (by omega) hd1 (by omega)
        obtain ⟨st2, N2, e2, q1, q2, q3⟩ := f_mean (G := G) (b := b) (h0 := h0) (nx := nx) (hB.same (m1.ofa 1 (by decide))) m2 (by omega) p (nI d)
        rw [meanF_cg m1 (by decide) (by decide) (by decide)] at e2
        refine ⟨st2, N2, ?_, (m1.trans q1).mono (by decide), q2, by omega⟩
        simp (maxSteps := 3000000) (disch := omega) only [e, e2, ma_msa_n, ma_msa_s, mi_msi_n, mi_msi_s, ml_msl_n, ml_msl_s, ma_msi, ma_msl, mi_msa, mi_msl, ml_msa, ml_msi, msa_msa, msi_msi, msl_msl, ck_m, gf_s, gf_image, gf_truths, gf_knownRow, gf_daysRow, gf_bests, gf_nots, gf_lookeds, gf_bestsAt, gf_worths, gf_keptKnown, gf_keptDays, gf_round, gf_sums, gf_bestRound, gf_bodies, gf_thrown, gf_hasImage, gf_act, gf_spot, gf_size, gf_isWrong, gf_open, gf_edgeThing, gf_edgeMore, gf_stamp, gf_whose, gf_wage, gf_roundMany, gf_bestSet, gf_ran, gf_kind, gf_who, gf_tellsV, pf_thrown, pf_hasImage, pf_act, pf_spot, pf_size, pf_isWrong, pf_open, pf_edgeThing, pf_edgeMore, pf_stamp, pf_whose, pf_wage, pf_roundMany, pf_bestSet, pf_ran, pf_kind, pf_who, pf_tellsV, al_s, as_s, al_image, as_image, al_truths, as_truths0, as_truths1, al_knownRow, as_knownRow, al_daysRow, as_daysRow, al_bests, as_bests, al_nots, as_nots, al_lookeds, as_lookeds, al_bestsAt, as_bestsAt, al_worths, as_worths, al_keptKnown, as_keptKnown, al_keptDays, as_keptDays, al_round, as_round, al_sums, as_sums, al_bestRound, as_bestRound, al_bodies, as_bodies, cl_some, nm_b, nn_some, qn_some, qn_none, zk_0, zk_1, zk_n0, zk_n1, nI_add, pk_mul, pk_sub, nI_leE, nI_ltE, nI_eqE, nI_lt0, nI_ge0, nI_eq0, nI_gt0, nI_le0, ilt_t, ilt_f, ile_t, ile_f, ieq_t, ieq_f, if_tt, if_ff, Nat.add_sub_cancel]
/-! THE REFERENCE: the best round -/
/-- the things of round x, the last first -/
def rdA (nt many x : Nat) (i : Nat) : Nat := x / nt ^ (many - 1 - i) % nt
def rdC (nt many td x : Nat) (s : Nat → Int32) (dd : Nat) : Int32 := nI 1 <<< (nI (rdA nt many x ((dd - td) % many)) &&& 31)
def rdV (st : MS) (nt td many x : Nat) : Int64 := meG st nt (rdC nt many td x) 3 td (ma st 1)
/-- the first greatest of n -/
def rnS (f : Nat → Int64) : Nat → Int64 × Nat
  | 0 => (0, 0)
  | n + 1 => if n = 0 ∨ ¬ f n ≤ (rnS f n).1 then (f n, n) else rnS f n
def roundF (st : MS) (nt td : Nat) (m w : Int32) : Int64 := if bIn m (nI 1) (nI 3) = 0 then noJ else if bIn w (-1) (m - nI 1) = 0 then noJ else if nt = 0 then noJ else if w = -1 then (rnS (rdV st nt td m.toNatClampNeg) (nt ^ m.toNatClampNeg)).1 else (nI (rdA nt m.toNatClampNeg (rnS (rdV st nt td m.toNatClampNeg) (nt ^ m.toNatClampNeg)).2 w.toNatClampNeg)).toInt64
/-- what the round's search leaves as it was -/
def KR : List Nat := [24, 28] ++ KM
theorem pow_le3 {nt many : Nat} (hn : nt ≤ 8) (hm : many ≤ 3) : nt ^ many ≤ 512 := by
  calc nt ^ many ≤ 8 ^ many := Nat.pow_le_pow_left hn many
    _ ≤ 8 ^ 3 := Nat.pow_le_pow_right (by decide) hm
    _ = 512 := by decide
/-- the powers -/
theorem f_round38 {G : Gx} {b : Nat} {h0 : Hp} {nx : Nat} {st : MS} {nt many : Nat} {w : Int32} (h1 : ma st 1 1 = nI nt) (hm : many ≤ 3) : ∀ (r i m : Nat), i + r = many → r < m → F_X12_round_38 G m (encM G b st h0) nx b (nI many) w (nI (nt ^ i)) (nI i) = F_X12_round_65 G fuelL (encM G b st h0) nx b (nI many) w (nI (nt ^ many)) 0 (nI 0) := by
  intro r
  induction r with
  | zero =>
    intro i m hr hm2
    obtain ⟨m, rfl⟩ : ∃ q, m = q + 1 := ⟨m - 1, by omega⟩
    have hr : i = many := by omega
    subst hr
    rw [F_X12_round_38_s]
    simp (maxSteps := 3000000) (disch := omega) only [ma_msa_n, ma_msa_s, mi_msi_n, mi_msi_s, ml_msl_n, ml_msl_s, ma_msi, ma_msl, mi_msa, mi_msl, ml_msa, ml_msi, msa_msa, msi_msi, msl_msl, ck_m, gf_s, gf_image, gf_truths, gf_knownRow, gf_daysRow, gf_bests, gf_nots, gf_lookeds, gf_bestsAt, gf_worths, gf_keptKnown, gf_keptDays, gf_round, gf_sums, gf_bestRound, gf_bodies, gf_thrown, gf_hasImage, gf_act, gf_spot, gf_size, gf_isWrong, gf_open, gf_edgeThing, gf_edgeMore, gf_stamp, gf_whose, gf_wage, gf_roundMany, gf_bestSet, gf_ran, gf_kind, gf_who, gf_tellsV, pf_thrown, pf_hasImage, pf_act, pf_spot, pf_size, pf_isWrong, pf_open, pf_edgeThing, pf_edgeMore, pf_stamp, pf_whose, pf_wage, pf_roundMany, pf_bestSet, pf_ran, pf_kind, pf_who, pf_tellsV, al_s, as_s, al_image, as_image, al_truths, as_truths0, as_truths1, al_knownRow, as_knownRow, al_daysRow, as_daysRow, al_bests, as_bests, al_nots, as_nots, al_lookeds, as_lookeds, al_bestsAt, as_bestsAt, al_worths, as_worths, al_keptKnown, as_keptKnown, al_keptDays, as_keptDays, al_round, as_round, al_sums, as_sums, al_bestRound, as_bestRound, al_bodies, as_bodies, cl_some, nm_b, nn_some, qn_some, qn_none, zk_0, zk_1, zk_n0, zk_n1, nI_add, pk_mul, pk_sub, nI_leE, nI_ltE, nI_eqE, nI_lt0, nI_ge0, nI_eq0, nI_gt0, nI_le0, ilt_t, ilt_f, ile_t, ile_f, ieq_t, ieq_f, if_tt, if_ff, Nat.add_sub_cancel]
  | succ r ih =>
    intro i m hr hm2
    obtain ⟨m, rfl⟩ : ∃ q, m = q + 1 := ⟨m - 1, by omega⟩
    rw [F_X12_round_38_s]
    simp (maxSteps := 3000000) (disch := omega) only [h1, ma_msa_n, ma_msa_s, mi_msi_n, mi_msi_s, ml_msl_n, ml_msl_s, ma_msi, ma_msl, mi_msa, mi_msl, ml_msa, ml_msi, msa_msa, msi_msi, msl_msl, ck_m, gf_s, gf_image, gf_truths, gf_knownRow, gf_daysRow, gf_bests, gf_nots, gf_lookeds, gf_bestsAt, gf_worths, gf_keptKnown, gf_keptDays, gf_round, gf_sums, gf_bestRound, gf_bodies, gf_thrown, gf_hasImage, gf_act, gf_spot, gf_size, gf_isWrong, gf_open, gf_edgeThing, gf_edgeMore, gf_stamp, gf_whose, gf_wage, gf_roundMany, gf_bestSet, gf_ran, gf_kind, gf_who, gf_tellsV, pf_thrown, pf_hasImage, pf_act, pf_spot, pf_size, pf_isWrong, pf_open, pf_edgeThing, pf_edgeMore, pf_stamp, pf_whose, pf_wage, pf_roundMany, pf_bestSet, pf_ran, pf_kind, pf_who, pf_tellsV, al_s, as_s, al_image, as_image, al_truths, as_truths0, as_truths1, al_knownRow, as_knownRow, al_daysRow, as_daysRow, al_bests, as_bests, al_nots, as_nots, al_lookeds, as_lookeds, al_bestsAt, as_bestsAt, al_worths, as_worths, al_keptKnown, as_keptKnown, al_keptDays, as_keptDays, al_round, as_round, al_sums, as_sums, al_bestRound, as_bestRound, al_bodies, as_bodies, cl_some, nm_b, nn_some, qn_some, qn_none, zk_0, zk_1, zk_n0, zk_n1, nI_add, pk_mul, pk_sub, nI_leE, nI_ltE, nI_eqE, nI_lt0, nI_ge0, nI_eq0, nI_gt0, nI_le0, ilt_t, ilt_f, ile_t, ile_f, ieq_t, ieq_f, if_tt, if_ff, Nat.add_sub_cancel]
    have := ih (i + 1) m (by omega) (by omega)
    rw [Nat.pow_succ] at this
    exact this
/-- a round's array laid -/
theorem f_round80 {G : Gx} {b : Nat} {h0 : Hp} {nx : Nat} {nt many x : Nat} {best : Int64} {w l3 : Int32} {k65 : Hp → Nat → Nat → Int32 → Int32 → Int32 → Int64 → Int32 → Rz Int64} {st : MS} (h1 : ma st 1 1 = nI nt) (hn : nt ≤ 8) (hn0 : 0 < nt) (hm : many ≤ 3) (hx : x < 512) : ∀ (r m : Nat) (f : Nat → Int32), r ≤ many → r < m → (∀ i, r ≤ i → i < many → f i = nI (rdA nt many x i)) → ∃ f' : Nat → Int32, F_X12_round_80 G k65 m (encM G b (msa st 24 f) h0) nx b (nI many) w l3 best (nI x) (nI (x / nt ^ (many - r))) (nI r - nI 1) = F_X12_round_80 G k65 1 (encM G b (msa st 24 f') h0) nx b (nI many) w l3 best (nI x) (nI (x / nt ^ many)) (-1) ∧ (∀ i, i < many → f' i = nI (rdA nt many x i)) := by
  intro r
  induction r with
  | zero =>
    intro m f hr hm2 hf
    obtain ⟨m, rfl⟩ : ∃ q, m = q + 1 := ⟨m - 1, by omega⟩
    refine ⟨f, ?_, fun i hi => hf i (by omega) hi⟩
    rw [F_X12_round_80_s, F_X12_round_80_s, Nat.sub_zero, show nI 0 - nI 1 = (-1 : Int32) by decide]
    rw [if_pos (show (-1 : Int32) < 0 by decide), if_pos (show (-1 : Int32) < 0 by decide)]
  | succ r ih =>
    intro m f hr hm2 hf
    obtain ⟨m, rfl⟩ : ∃ q, m = q + 1 := ⟨m - 1, by omega⟩
    have hq : x / nt ^ (many - (r + 1)) < 2 ^ 31 := Nat.lt_of_le_of_lt (Nat.div_le_self _ _) (by omega)
    rw [pk_sub (show 1 ≤ r + 1 by omega), Nat.add_sub_cancel, F_X12_round_80_s]
    have a1 : ma (msa st 24 f) 1 1 = nI nt := by rw [ma_msa_n (by decide)]; exact h1
    simp (maxSteps := 3000000) (disch := omega) only [a1, h1, dzI_n, ma_msa_n, ma_msa_s, mi_msi_n, mi_msi_s, ml_msl_n, ml_msl_s, ma_msi, ma_msl, mi_msa, mi_msl, ml_msa, ml_msi, msa_msa, msi_msi, msl_msl, ck_m, gf_s, gf_image, gf_truths, gf_knownRow, gf_daysRow, gf_bests, gf_nots, gf_lookeds, gf_bestsAt, gf_worths, gf_keptKnown, gf_keptDays, gf_round, gf_sums, gf_bestRound, gf_bodies, gf_thrown, gf_hasImage, gf_act, gf_spot, gf_size, gf_isWrong, gf_open, gf_edgeThing, gf_edgeMore, gf_stamp, gf_whose, gf_wage, gf_roundMany, gf_bestSet, gf_ran, gf_kind, gf_who, gf_tellsV, pf_thrown, pf_hasImage, pf_act, pf_spot, pf_size, pf_isWrong, pf_open, pf_edgeThing, pf_edgeMore, pf_stamp, pf_whose, pf_wage, pf_roundMany, pf_bestSet, pf_ran, pf_kind, pf_who, pf_tellsV, al_s, as_s, al_image, as_image, al_truths, as_truths0, as_truths1, al_knownRow, as_knownRow, al_daysRow, as_daysRow, al_bests, as_bests, al_nots, as_nots, al_lookeds, as_lookeds, al_bestsAt, as_bestsAt, al_worths, as_worths, al_keptKnown, as_keptKnown, al_keptDays, as_keptDays, al_round, as_round, al_sums, as_sums, al_bestRound, as_bestRound, al_bodies, as_bodies, cl_some, nm_b, nn_some, qn_some, qn_none, zk_0, zk_1, zk_n0, zk_n1, nI_add, pk_mul, pk_sub, nI_leE, nI_ltE, nI_eqE, nI_lt0, nI_ge0, nI_eq0, nI_gt0, nI_le0, ilt_t, ilt_f, ile_t, ile_f, ieq_t, ieq_f, if_tt, if_ff, Nat.add_sub_cancel]
    rw [pk_rem hq hn0 (by omega), pk_div hq hn0 (by omega), Nat.div_div_eq_div_mul, ← Nat.pow_succ, show (many - (r + 1)).succ = many - r by omega, show nI r + -1 = nI r - nI 1 from (Int32.sub_eq_add_neg (nI r) (nI 1)).symm]
    have := ih m (upK f r (nI (x / nt ^ (many - (r + 1)) % nt))) (by omega) (by omega) (fun i h1 h2 => by
      by_cases c : i = r
      · subst c
        rw [upK_s]
        unfold rdA
        rw [show many - 1 - i = many - (i + 1) by omega]
      · rw [upK_n c]
        exact hf i (by omega) h2)
    exact this
theorem f_round157 {G : Gx} {b : Nat} {h0 : Hp} {nx : Nat} {many : Nat} {best : Int64} {w l3 l6 : Int32} {k65 : Hp → Nat → Nat → Int32 → Int32 → Int32 → Int64 → Int32 → Rz Int64} {st : MS} (hm : many ≤ 3) : ∀ (r i m : Nat) (g : Nat → Int32), i + r = many → r < m → (∀ j, j < i → g j = ma st 24 j) → ∃ g' : Nat → Int32, F_X12_round_157 G k65 m (encM G b (msa st 28 g) h0) nx b (nI many) w l3 best l6 (nI i) = F_X12_round_183 G k65 (encM G b (msa st 28 g') h0) nx b (nI many) w l3 best l6 ∧ (∀ j, j < many → g' j = ma st 24 j) := by
  intro r
  induction r with
  | zero =>
    intro i m g hr hm2 hg
    obtain ⟨m, rfl⟩ : ∃ q, m = q + 1 := ⟨m - 1, by omega⟩
    have hr : i = many := by omega
    subst hr
    refine ⟨g, ?_, hg⟩
    rw [F_X12_round_157_s]
    simp (maxSteps := 3000000) (disch := omega) only [ma_msa_n, ma_msa_s, mi_msi_n, mi_msi_s, ml_msl_n, ml_msl_s, ma_msi, ma_msl, mi_msa, mi_msl, ml_msa, ml_msi, msa_msa, msi_msi, msl_msl, ck_m, gf_s, gf_image, gf_truths, gf_knownRow, gf_daysRow, gf_bests, gf_nots, gf_lookeds, gf_bestsAt, gf_worths, gf_keptKnown, gf_keptDays, gf_round, gf_sums, gf_bestRound, gf_bodies, gf_thrown, gf_hasImage, gf_act, gf_spot, gf_size, gf_isWrong, gf_open, gf_edgeThing, gf_edgeMore, gf_stamp, gf_whose, gf_wage, gf_roundMany, gf_bestSet, gf_ran, gf_kind, gf_who, gf_tellsV, pf_thrown, pf_hasImage, pf_act, pf_spot, pf_size, pf_isWrong, pf_open, pf_edgeThing, pf_edgeMore, pf_stamp, pf_whose, pf_wage, pf_roundMany, pf_bestSet, pf_ran, pf_kind, pf_who, pf_tellsV, al_s, as_s, al_image, as_image, al_truths, as_truths0, as_truths1, al_knownRow, as_knownRow, al_daysRow, as_daysRow, al_bests, as_bests, al_nots, as_nots, al_lookeds, as_lookeds, al_bestsAt, as_bestsAt, al_worths, as_worths, al_keptKnown, as_keptKnown, al_keptDays, as_keptDays, al_round, as_round, al_sums, as_sums, al_bestRound, as_bestRound, al_bodies, as_bodies, cl_some, nm_b, nn_some, qn_some, qn_none, zk_0, zk_1, zk_n0, zk_n1, nI_add, pk_mul, pk_sub, nI_leE, nI_ltE, nI_eqE, nI_lt0, nI_ge0, nI_eq0, nI_gt0, nI_le0, ilt_t, ilt_f, ile_t, ile_f, ieq_t, ieq_f, if_tt, if_ff, Nat.add_sub_cancel]
  | succ r ih =>
    intro i m g hr hm2 hg
    obtain ⟨m, rfl⟩ : ∃ q, m = q + 1 := ⟨m - 1, by omega⟩
    rw [F_X12_round_157_s]
    simp (maxSteps := 3000000) (disch := omega) only [ma_msa_n, ma_msa_s, mi_msi_n, mi_msi_s, ml_msl_n, ml_msl_s, ma_msi, ma_msl, mi_msa, mi_msl, ml_msa, ml_msi, msa_msa, msi_msi, msl_msl, ck_m, gf_s, gf_image, gf_truths, gf_knownRow, gf_daysRow, gf_bests, gf_nots, gf_lookeds, gf_bestsAt, gf_worths, gf_keptKnown, gf_keptDays, gf_round, gf_sums, gf_bestRound, gf_bodies, gf_thrown, gf_hasImage, gf_act, gf_spot, gf_size, gf_isWrong, gf_open, gf_edgeThing, gf_edgeMore, gf_stamp, gf_whose, gf_wage, gf_roundMany, gf_bestSet, gf_ran, gf_kind, gf_who, gf_tellsV, pf_thrown, pf_hasImage, pf_act, pf_spot, pf_size, pf_isWrong, pf_open, pf_edgeThing, pf_edgeMore, pf_stamp, pf_whose, pf_wage, pf_roundMany, pf_bestSet, pf_ran, pf_kind, pf_who, pf_tellsV, al_s, as_s, al_image, as_image, al_truths, as_truths0, as_truths1, al_knownRow, as_knownRow, al_daysRow, as_daysRow, al_bests, as_bests, al_nots, as_nots, al_lookeds, as_lookeds, al_bestsAt, as_bestsAt, al_worths, as_worths, al_keptKnown, as_keptKnown, al_keptDays, as_keptDays, al_round, as_round, al_sums, as_sums, al_bestRound, as_bestRound, al_bodies, as_bodies, cl_some, nm_b, nn_some, qn_some, qn_none, zk_0, zk_1, zk_n0, zk_n1, nI_add, pk_mul, pk_sub, nI_leE, nI_ltE, nI_eqE, nI_lt0, nI_ge0, nI_eq0, nI_gt0, nI_le0, ilt_t, ilt_f, ile_t, ile_f, ieq_t, ieq_f, if_tt, if_ff, Nat.add_sub_cancel]
    exact ih (i + 1) m _ (by omega) (by omega) (fun j hj => by
      by_cases c : j = i
      · subst c
        exact upK_s
      · rw [upK_n c]
        exact hg j (by omega))
set_option maxRecDepth 100000 in
set_option maxHeartbeats 4000000 in
theorem f_round65 {G : Gx} {b : Nat} {h0 : Hp} {nx : Nat} {S : MS} {nt np lk td many N : Nat} {w : Int32} (hB : BOk S nt np lk td) (hn0 : 0 < nt) (h1m : 1 ≤ many) (hm : many ≤ 3) (hw : w = -1 ∨ ∃ j : Nat, j < many ∧ w = nI j) (hb : N < 2 ^ 31) : ∀ (r x m : Nat) (st : MS) (Nc : Nat), x + r = nt ^ many → r < m → FrM KR S st → StOk st Nc → Nc ≤ N → (0 < x → ∀ i, i < many → ma st 28 i = nI (rdA nt many (rnS (rdV S nt td many) x).2 i)) → ∃ (st' : MS) (N' : Nat), F_X12_round_65 G m (encM G b st h0) nx b (nI many) w (nI (nt ^ many)) (rnS (rdV S nt td many) x).1 (nI x) = some (if w = -1 then (rnS (rdV S nt td many) (nt ^ many)).1 else (nI (rdA nt many (rnS (rdV S nt td many) (nt ^ many)).2 w.toNatClampNeg)).toInt64, encM G b st' h0, nx) ∧ FrM KR S st' ∧ StOk st' N' ∧ N' ≤ N := by
  obtain ⟨hL, hl3, ht, h2, hnp, hp, h3, htd⟩ := hB
  have hn := hL.2.1
  have hpw := pow_le3 hn hm
  have hp0 : 0 < nt ^ many := Nat.pow_pos hn0
  generalize hf : rdV S nt td many = f
  intro r
  induction r with
  | zero =>
    intro x m st Nc hr hm2 hF hN hNc hg
    obtain ⟨m, rfl⟩ : ∃ q, m = q + 1 := ⟨m - 1, by omega⟩
    have hr : x = nt ^ many := by omega
    subst hr
    have hg := hg hp0
    refine ⟨msi st 25 (nI 0), Nc, ?_, (hF.trans (FrM.msi (k := 25) (ks := KR) (by decide))).mono (by decide), StOk_fr (FrM.msi (k := 25) (ks := [25]) (by decide)) (by decide) (by decide) hN, hNc⟩
    rw [F_X12_round_65_s]
    unfold F_X12_round_211
    simp (maxSteps := 3000000) (disch := omega) only [ma_msa_n, ma_msa_s, mi_msi_n, mi_msi_s, ml_msl_n, ml_msl_s, ma_msi, ma_msl, mi_msa, mi_msl, ml_msa, ml_msi, msa_msa, msi_msi, msl_msl, ck_m, gf_s, gf_image, gf_truths, gf_knownRow, gf_daysRow, gf_bests, gf_nots, gf_lookeds, gf_bestsAt, gf_worths, gf_keptKnown, gf_keptDays, gf_round, gf_sums, gf_bestRound, gf_bodies, gf_thrown, gf_hasImage, gf_act, gf_spot, gf_size, gf_isWrong, gf_open, gf_edgeThing, gf_edgeMore, gf_stamp, gf_whose, gf_wage, gf_roundMany, gf_bestSet, gf_ran, gf_kind, gf_who, gf_tellsV, pf_thrown, pf_hasImage, pf_act, pf_spot, pf_size, pf_isWrong, pf_open, pf_edgeThing, pf_edgeMore, pf_stamp, pf_whose, pf_wage, pf_roundMany, pf_bestSet, pf_ran, pf_kind, pf_who, pf_tellsV, al_s, as_s, al_image, as_image, al_truths, as_truths0, as_truths1, al_knownRow, as_knownRow, al_daysRow, as_daysRow, al_bests, as_bests, al_nots, as_nots, al_lookeds, as_lookeds, al_bestsAt, as_bestsAt, al_worths, as_worths, al_keptKnown, as_keptKnown, al_keptDays, as_keptDays, al_round, as_round, al_sums, as_sums, al_bestRound, as_bestRound, al_bodies, as_bodies, cl_some, nm_b, nn_some, qn_some, qn_none, zk_0, zk_1, zk_n0, zk_n1, nI_add, pk_mul, pk_sub, nI_leE, nI_ltE, nI_eqE, nI_lt0, nI_ge0, nI_eq0, nI_gt0, nI_le0, ilt_t, ilt_f, ile_t, ile_f, ieq_t, ieq_f, if_tt, if_ff, Nat.add_sub_cancel]
    rcases hw with rfl | ⟨j, hj, rfl⟩
    · rw [if_pos rfl, if_pos rfl]
    · have c : ¬ nI j = -1 := fun q => by
        have h2 : (0 : Int32) ≤ nI j := nI_pos' (by omega)
        rw [q] at h2
        exact absurd h2 (by decide)
      rw [if_neg c, if_neg c, nI_clamp (by omega), ← hg j hj]
      simp (maxSteps := 3000000) (disch := omega) only [ma_msa_n, ma_msa_s, mi_msi_n, mi_msi_s, ml_msl_n, ml_msl_s, ma_msi, ma_msl, mi_msa, mi_msl, ml_msa, ml_msi, msa_msa, msi_msi, msl_msl, ck_m, gf_s, gf_image, gf_truths, gf_knownRow, gf_daysRow, gf_bests, gf_nots, gf_lookeds, gf_bestsAt, gf_worths, gf_keptKnown, gf_keptDays, gf_round, gf_sums, gf_bestRound, gf_bodies, gf_thrown, gf_hasImage, gf_act, gf_spot, gf_size, gf_isWrong, gf_open, gf_edgeThing, gf_edgeMore, gf_stamp, gf_whose, gf_wage, gf_roundMany, gf_bestSet, gf_ran, gf_kind, gf_who, gf_tellsV, pf_thrown, pf_hasImage, pf_act, pf_spot, pf_size, pf_isWrong, pf_open, pf_edgeThing, pf_edgeMore, pf_stamp, pf_whose, pf_wage, pf_roundMany, pf_bestSet, pf_ran, pf_kind, pf_who, pf_tellsV, al_s, as_s, al_image, as_image, al_truths, as_truths0, as_truths1, al_knownRow, as_knownRow, al_daysRow, as_daysRow, al_bests, as_bests, al_nots, as_nots, al_lookeds, as_lookeds, al_bestsAt, as_bestsAt, al_worths, as_worths, al_keptKnown, as_keptKnown, al_keptDays, as_keptDays, al_round, as_round, al_sums, as_sums, al_bestRound, as_bestRound, al_bodies, as_bodies, cl_some, nm_b, nn_some, qn_some, qn_none, zk_0, zk_1, zk_n0, zk_n1, nI_add, pk_mul, pk_sub, nI_leE, nI_ltE, nI_eqE, nI_lt0, nI_ge0, nI_eq0, nI_gt0, nI_le0, ilt_t, ilt_f, ile_t, ile_f, ieq_t, ieq_f, if_tt, if_ff, Nat.add_sub_cancel]
  | succ r ih =>
    intro x m st Nc hr hm2 hF hN hNc hg
    obtain ⟨m, rfl⟩ : ∃ q, m = q + 1 := ⟨m - 1, by omega⟩
    have s1 : ma st 1 = ma S 1 := hF.ofa 1 (by decide)
    have a1 : ma st 1 1 = nI nt := by rw [s1]; exact hL.1
    have a3 : ma st 1 3 = nI td := by rw [s1]; exact h3
    have es : rnS f (x + 1) = if x = 0 ∨ ¬ f x ≤ (rnS f x).1 then (f x, x) else rnS f x := rfl
    generalize hR : rnS f x = R at es hg ⊢
    obtain ⟨best, arg⟩ := R
    rw [F_X12_round_65_s]
    simp (maxSteps := 3000000) (disch := omega) only [ma_msa_n, ma_msa_s, mi_msi_n, mi_msi_s, ml_msl_n, ml_msl_s, ma_msi, ma_msl, mi_msa, mi_msl, ml_msa, ml_msi, msa_msa, msi_msi, msl_msl, ck_m, gf_s, gf_image, gf_truths, gf_knownRow, gf_daysRow, gf_bests, gf_nots, gf_lookeds, gf_bestsAt, gf_worths, gf_keptKnown, gf_keptDays, gf_round, gf_sums, gf_bestRound, gf_bodies, gf_thrown, gf_hasImage, gf_act, gf_spot, gf_size, gf_isWrong, gf_open, gf_edgeThing, gf_edgeMore, gf_stamp, gf_whose, gf_wage, gf_roundMany, gf_bestSet, gf_ran, gf_kind, gf_who, gf_tellsV, pf_thrown, pf_hasImage, pf_act, pf_spot, pf_size, pf_isWrong, pf_open, pf_edgeThing, pf_edgeMore, pf_stamp, pf_whose, pf_wage, pf_roundMany, pf_bestSet, pf_ran, pf_kind, pf_who, pf_tellsV, al_s, as_s, al_image, as_image, al_truths, as_truths0, as_truths1, al_knownRow, as_knownRow, al_daysRow, as_daysRow, al_bests, as_bests, al_nots, as_nots, al_lookeds, as_lookeds, al_bestsAt, as_bestsAt, al_worths, as_worths, al_keptKnown, as_keptKnown, al_keptDays, as_keptDays, al_round, as_round, al_sums, as_sums, al_bestRound, as_bestRound, al_bodies, as_bodies, cl_some, nm_b, nn_some, qn_some, qn_none, zk_0, zk_1, zk_n0, zk_n1, nI_add, pk_mul, pk_sub, nI_leE, nI_ltE, nI_eqE, nI_lt0, nI_ge0, nI_eq0, nI_gt0, nI_le0, ilt_t, ilt_f, ile_t, ile_f, ieq_t, ieq_f, if_tt, if_ff, Nat.add_sub_cancel]
    rw [show nI (many - 1) = nI many - nI 1 from (pk_sub h1m).symm]
    obtain ⟨f1, e1, q1⟩ := f_round80 (G := G) (b := b) (h0 := h0) (nx := nx) (x := x) (best := best) (w := w) (l3 := nI (nt ^ many)) (k65 := F_X12_round_65 G m) (st := st) a1 hn hn0 hm (by omega) many fuelL (ma st 24) (Nat.le_refl _) (by unfold fuelL; omega) (fun i h1 h2 => by omega)
    rw [msa_self, Nat.sub_self, Nat.pow_zero, Nat.div_one] at e1
    rw [e1, F_X12_round_80_s, if_pos (show (-1 : Int32) < 0 by decide)]
    have F1 : FrM [24, 25] st (msi (msa st 24 f1) 25 (nI many)) := ((FrM.msa (ks := [24, 25]) (by decide)).trans (FrM.msi (ks := [24, 25]) (by decide))).mono (by decide)
    have FS := (hF.trans F1)
    obtain ⟨st2, N2, e2, m1, m2, m3, m4⟩ := f_meanCh (G := G) (b := b) (h0 := h0) (nx := nx) (S0 := msi (msa st 24 f1) 25 (nI many)) (nt := nt) (wc := 0) (d0 := td) (pl := -1) (by rw [F1.ofa 1 (by decide)]; exact a1) hn (fun t q => by rw [F1.ofa 1 (by decide), s1]; exact ht t q) (ch_round (S0 := msi (msa st 24 f1) 25 (nI many)) (td := td) (many := many) hn (by rw [F1.ofa 1 (by decide)]; exact a3) (by omega) (by omega) mi_msi_s) 3 td 64 (Nat.le_refl _) (by omega) (Nat.le_refl _) (by simp only [MF]; omega) (msi (msa st 24 f1) 25 (nI many)) Nc ⟨FX.rf, AgN.rf⟩ (StOk_fr F1 (by decide) (by decide) hN) (by rw [wG0]; omega)
    rw [wG0] at m3
    have ev : meG (msi (msa st 24 f1) 25 (nI many)) nt (fun s dd => nI 1 <<< (ma (msi (msa st 24 f1) 25 (nI many)) 24 ((dd - td) % many) &&& 31)) 3 td (ma (msi (msa st 24 f1) 25 (nI many)) 1) = f x := by
      rw [← hf]
      unfold rdV
      rw [F1.ofa 1 (by decide), s1, meG_cg (S0 := S) (FS.of1 10 (by decide)) (FS.of1 11 (by decide)) (ch := rdC nt many td x) (funext fun s => funext fun dd => by
        unfold rdC
        rw [ma_msi, ma_msa_s, q1 _ (Nat.mod_lt _ (by omega))])]
    rw [ev] at e2
    have F2 : FrM KR S st2 := (FS.trans m1).mono (by decide)
    have t24 : ma st2 24 = f1 := by
      rw [m1.ofa 24 (by decide), ma_msi, ma_msa_s]
    have fin : ∀ (st3 : MS) (N3 : Nat), FrM KR S st3 → StOk st3 N3 → N3 ≤ N → (∀ i, i < many → ma st3 28 i = nI (rdA nt many (rnS f (x + 1)).2 i)) → ∀ bb : Int64, bb = (rnS f (x + 1)).1 → ∃ (st' : MS) (N' : Nat), F_X12_round_183 G (F_X12_round_65 G m) (encM G b st3 h0) nx b (nI many) w (nI (nt ^ many)) bb (nI x) = some (if w = -1 then (rnS f (nt ^ many)).1 else (nI (rdA nt many (rnS f (nt ^ many)).2 w.toNatClampNeg)).toInt64, encM G b st' h0, nx) ∧ FrM KR S st' ∧ StOk st' N' ∧ N' ≤ N := by
      intro st3 N3 u1 u2 u3 u4 bb u5
      unfold F_X12_round_183
      simp (maxSteps := 3000000) (disch := omega) only [ma_msa_n, ma_msa_s, mi_msi_n, mi_msi_s, ml_msl_n, ml_msl_s, ma_msi, ma_msl, mi_msa, mi_msl, ml_msa, ml_msi, msa_msa, msi_msi, msl_msl, ck_m, gf_s, gf_image, gf_truths, gf_knownRow, gf_daysRow, gf_bests, gf_nots, gf_lookeds, gf_bestsAt, gf_worths, gf_keptKnown, gf_keptDays, gf_round, gf_sums, gf_bestRound, gf_bodies, gf_thrown, gf_hasImage, gf_act, gf_spot, gf_size, gf_isWrong, gf_open, gf_edgeThing, gf_edgeMore, gf_stamp, gf_whose, gf_wage, gf_roundMany, gf_bestSet, gf_ran, gf_kind, gf_who, gf_tellsV, pf_thrown, pf_hasImage, pf_act, pf_spot, pf_size, pf_isWrong, pf_open, pf_edgeThing, pf_edgeMore, pf_stamp, pf_whose, pf_wage, pf_roundMany, pf_bestSet, pf_ran, pf_kind, pf_who, pf_tellsV, al_s, as_s, al_image, as_image, al_truths, as_truths0, as_truths1, al_knownRow, as_knownRow, al_daysRow, as_daysRow, al_bests, as_bests, al_nots, as_nots, al_lookeds, as_lookeds, al_bestsAt, as_bestsAt, al_worths, as_worths, al_keptKnown, as_keptKnown, al_keptDays, as_keptDays, al_round, as_round, al_sums, as_sums, al_bestRound, as_bestRound, al_bodies, as_bodies, cl_some, nm_b, nn_some, qn_some, qn_none, zk_0, zk_1, zk_n0, zk_n1, nI_add, pk_mul, pk_sub, nI_leE, nI_ltE, nI_eqE, nI_lt0, nI_ge0, nI_eq0, nI_gt0, nI_le0, ilt_t, ilt_f, ile_t, ile_f, ieq_t, ieq_f, if_tt, if_ff, Nat.add_sub_cancel]
      rw [u5]
      exact ih (x + 1) m st3 N3 (by omega) (by omega) u1 u2 u3 (fun _ => u4)
    have new : (x = 0 ∨ ¬ f x ≤ best) → ∃ (st' : MS) (N' : Nat), F_X12_round_150 G (F_X12_round_65 G m) (encM G b st2 h0) nx b (nI many) w (nI (nt ^ many)) (nI x) (f x) = some (if w = -1 then (rnS f (nt ^ many)).1 else (nI (rdA nt many (rnS f (nt ^ many)).2 w.toNatClampNeg)).toInt64, encM G b st' h0, nx) ∧ FrM KR S st' ∧ StOk st' N' ∧ N' ≤ N := by
      intro c
      rw [if_pos c] at es
      unfold F_X12_round_150
      obtain ⟨g, e3, q3⟩ := f_round157 (G := G) (b := b) (h0 := h0) (nx := nx) (best := f x) (w := w) (l3 := nI (nt ^ many)) (l6 := nI x) (k65 := F_X12_round_65 G m) (st := st2) hm many 0 fuelL (ma st2 28) (by omega) (by unfold fuelL; omega) (fun j hj => by omega)
      rw [msa_self] at e3
      rw [e3]
      refine fin (msa st2 28 g) N2 ((F2.trans (FrM.msa (k := 28) (ks := KR) (by decide))).mono (by decide)) (StOk_fr (FrM.msa (k := 28) (ks := [28]) (by decide)) (by decide) (by decide) m2) (by omega) (fun i hi => ?_) _ ?_
      · rw [ma_msa_s, q3 i hi, t24, q1 i hi, es]
      · rw [es]
    have a3' : ma (msi (msa st 24 f1) 25 (nI many)) 1 3 = nI td := by rw [F1.ofa 1 (by decide)]; exact a3
    simp (maxSteps := 3000000) (disch := omega) only [a3, e2, ma_msa_n, ma_msa_s, mi_msi_n, mi_msi_s, ml_msl_n, ml_msl_s, ma_msi, ma_msl, mi_msa, mi_msl, ml_msa, ml_msi, msa_msa, msi_msi, msl_msl, ck_m, gf_s, gf_image, gf_truths, gf_knownRow, gf_daysRow, gf_bests, gf_nots, gf_lookeds, gf_bestsAt, gf_worths, gf_keptKnown, gf_keptDays, gf_round, gf_sums, gf_bestRound, gf_bodies, gf_thrown, gf_hasImage, gf_act, gf_spot, gf_size, gf_isWrong, gf_open, gf_edgeThing, gf_edgeMore, gf_stamp, gf_whose, gf_wage, gf_roundMany, gf_bestSet, gf_ran, gf_kind, gf_who, gf_tellsV, pf_thrown, pf_hasImage, pf_act, pf_spot, pf_size, pf_isWrong, pf_open, pf_edgeThing, pf_edgeMore, pf_stamp, pf_whose, pf_wage, pf_roundMany, pf_bestSet, pf_ran, pf_kind, pf_who, pf_tellsV, al_s, as_s, al_image, as_image, al_truths, as_truths0, as_truths1, al_knownRow, as_knownRow, al_daysRow, as_daysRow, al_bests, as_bests, al_nots, as_nots, al_lookeds, as_lookeds, al_bestsAt, as_bestsAt, al_worths, as_worths, al_keptKnown, as_keptKnown, al_keptDays, as_keptDays, al_round, as_round, al_sums, as_sums, al_bestRound, as_bestRound, al_bodies, as_bodies, cl_some, nm_b, nn_some, qn_some, qn_none, zk_0, zk_1, zk_n0, zk_n1, nI_add, pk_mul, pk_sub, nI_leE, nI_ltE, nI_eqE, nI_lt0, nI_ge0, nI_eq0, nI_gt0, nI_le0, ilt_t, ilt_f, ile_t, ile_f, ieq_t, ieq_f, if_tt, if_ff, Nat.add_sub_cancel]
    by_cases c0 : x = 0
    · rw [if_pos c0]
      exact new (Or.inl c0)
    · rw [if_neg c0]
      by_cases c1 : f x ≤ best
      · rw [if_pos ((lg_cmp_le _ _).mpr c1)]
        rw [if_neg (fun q => q.elim c0 (fun z => z c1))] at es
        refine fin st2 N2 F2 m2 (by omega) (fun i hi => ?_) _ ?_
        · rw [m1.ofa 28 (by decide), ma_msi, ma_msa_n (by decide), es]
          exact hg (by omega) i hi
        · rw [es]
      · rw [if_neg (fun q => c1 ((lg_cmp_le _ _).mp q))]
        exact new (Or.inr c1)
theorem bIn_m1 {p : Int32} {np : Nat} (hn : np < 2 ^ 31) (h0 : 1 ≤ np) (h : ¬ bIn p (-1) (nI np - nI 1) = 0) : p = -1 ∨ ∃ j : Nat, j < np ∧ p = nI j := by
  by_cases c : p = -1
  · exact Or.inl c
  · refine Or.inr ?_
    have hh : (-1 : Int32) ≤ p ∧ p ≤ nI np - nI 1 := by
      unfold bIn at h
      by_cases c : (-1 : Int32) ≤ p ∧ p ≤ nI np - nI 1
      · exact c
      · rw [if_neg c] at h
        exact absurd rfl h
    have hp : ¬ p < 0 := by
      intro q
      have h1 := Int32.le_iff_toInt_le.mp hh.1
      have h2 := Int32.lt_iff_toInt_lt.mp q
      have e1 : (-1 : Int32).toInt = -1 := by decide
      have e2 : (0 : Int32).toInt = 0 := by decide
      exact c (Int32.toInt_inj.mp (by omega))
    refine bIn_nI hn (fun q => ?_)
    unfold bIn at q
    rw [if_pos ⟨by rw [nI_0]; exact Int32.not_lt.mp hp, hh.2⟩] at q
    exact absurd q (by decide)
set_option maxRecDepth 100000 in
set_option maxHeartbeats 4000000 in
theorem f_round {G : Gx} {b : Nat} {h0 : Hp} {nx : Nat} {st : MS} {nt np lk td N : Nat} (hB : BOk st nt np lk td) (hN : StOk st N) (hb : N < 2 ^ 31) (mm w : Int32) : ∃ (st' : MS) (N' : Nat), F_X12_round G (encM G b st h0) nx b mm w = some (roundF st nt td mm w, encM G b st' h0, nx) ∧ FrM KR st st' ∧ StOk st' N' ∧ N' ≤ N := by
  have h1 := hB.1.1
  have hn := hB.1.2.1
  unfold F_X12_round F_X12_round_29 roundF
  simp (maxSteps := 3000000) (disch := omega) only [f_in, ma_msa_n, ma_msa_s, mi_msi_n, mi_msi_s, ml_msl_n, ml_msl_s, ma_msi, ma_msl, mi_msa, mi_msl, ml_msa, ml_msi, msa_msa, msi_msi, msl_msl, ck_m, gf_s, gf_image, gf_truths, gf_knownRow, gf_daysRow, gf_bests, gf_nots, gf_lookeds, gf_bestsAt, gf_worths, gf_keptKnown, gf_keptDays, gf_round, gf_sums, gf_bestRound, gf_bodies, gf_thrown, gf_hasImage, gf_act, gf_spot, gf_size, gf_isWrong, gf_open, gf_edgeThing, gf_edgeMore, gf_stamp, gf_whose, gf_wage, gf_roundMany, gf_bestSet, gf_ran, gf_kind, gf_who, gf_tellsV, pf_thrown, pf_hasImage, pf_act, pf_spot, pf_size, pf_isWrong, pf_open, pf_edgeThing, pf_edgeMore, pf_stamp, pf_whose, pf_wage, pf_roundMany, pf_bestSet, pf_ran, pf_kind, pf_who, pf_tellsV, al_s, as_s, al_image, as_image, al_truths, as_truths0, as_truths1, al_knownRow, as_knownRow, al_daysRow, as_daysRow, al_bests, as_bests, al_nots, as_nots, al_lookeds, as_lookeds, al_bestsAt, as_bestsAt, al_worths, as_worths, al_keptKnown, as_keptKnown, al_keptDays, as_keptDays, al_round, as_round, al_sums, as_sums, al_bestRound, as_bestRound, al_bodies, as_bodies, cl_some, nm_b, nn_some, qn_some, qn_none, zk_0, zk_1, zk_n0, zk_n1, nI_add, pk_mul, pk_sub, nI_leE, nI_ltE, nI_eqE, nI_lt0, nI_ge0, nI_eq0, nI_gt0, nI_le0, ilt_t, ilt_f, ile_t, ile_f, ieq_t, ieq_f, if_tt, if_ff, Nat.add_sub_cancel]
  by_cases c1 : bIn mm (nI 1) (nI 3) = 0
  · rw [if_pos c1, if_pos c1]
    exact ⟨st, N, rfl, FrM.rf, hN, by omega⟩
  · rw [if_neg c1, if_neg c1]
    by_cases c2 : bIn w (-1) (mm - nI 1) = 0
    · rw [if_pos c2, if_pos c2]
      exact ⟨st, N, rfl, FrM.rf, hN, by omega⟩
    · rw [if_neg c2, if_neg c2]
      by_cases c3 : nt = 0
      · simp (maxSteps := 3000000) (disch := omega) only [h1, ma_msa_n, ma_msa_s, mi_msi_n, mi_msi_s, ml_msl_n, ml_msl_s, ma_msi, ma_msl, mi_msa, mi_msl, ml_msa, ml_msi, msa_msa, msi_msi, msl_msl, ck_m, gf_s, gf_image, gf_truths, gf_knownRow, gf_daysRow, gf_bests, gf_nots, gf_lookeds, gf_bestsAt, gf_worths, gf_keptKnown, gf_keptDays, gf_round, gf_sums, gf_bestRound, gf_bodies, gf_thrown, gf_hasImage, gf_act, gf_spot, gf_size, gf_isWrong, gf_open, gf_edgeThing, gf_edgeMore, gf_stamp, gf_whose, gf_wage, gf_roundMany, gf_bestSet, gf_ran, gf_kind, gf_who, gf_tellsV, pf_thrown, pf_hasImage, pf_act, pf_spot, pf_size, pf_isWrong, pf_open, pf_edgeThing, pf_edgeMore, pf_stamp, pf_whose, pf_wage, pf_roundMany, pf_bestSet, pf_ran, pf_kind, pf_who, pf_tellsV, al_s, as_s, al_image, as_image, al_truths, as_truths0, as_truths1, al_knownRow, as_knownRow, al_daysRow, as_daysRow, al_bests, as_bests, al_nots, as_nots, al_lookeds, as_lookeds, al_bestsAt, as_bestsAt, al_worths, as_worths, al_keptKnown, as_keptKnown, al_keptDays, as_keptDays, al_round, as_round, al_sums, as_sums, al_bestRound, as_bestRound, al_bodies, as_bodies, cl_some, nm_b, nn_some, qn_some, qn_none, zk_0, zk_1, zk_n0, zk_n1, nI_add, pk_mul, pk_sub, nI_leE, nI_ltE, nI_eqE, nI_lt0, nI_ge0, nI_eq0, nI_gt0, nI_le0, ilt_t, ilt_f, ile_t, ile_f, ieq_t, ieq_f, if_tt, if_ff, Nat.add_sub_cancel]
        exact ⟨st, N, rfl, FrM.rf, hN, by omega⟩
      · simp (maxSteps := 3000000) (disch := omega) only [h1, ma_msa_n, ma_msa_s, mi_msi_n, mi_msi_s, ml_msl_n, ml_msl_s, ma_msi, ma_msl, mi_msa, mi_msl, ml_msa, ml_msi, msa_msa, msi_msi, msl_msl, ck_m, gf_s, gf_image, gf_truths, gf_knownRow, gf_daysRow, gf_bests, gf_nots, gf_lookeds, gf_bestsAt, gf_worths, gf_keptKnown, gf_keptDays, gf_round, gf_sums, gf_bestRound, gf_bodies, gf_thrown, gf_hasImage, gf_act, gf_spot, gf_size, gf_isWrong, gf_open, gf_edgeThing, gf_edgeMore, gf_stamp, gf_whose, gf_wage, gf_roundMany, gf_bestSet, gf_ran, gf_kind, gf_who, gf_tellsV, pf_thrown, pf_hasImage, pf_act, pf_spot, pf_size, pf_isWrong, pf_open, pf_edgeThing, pf_edgeMore, pf_stamp, pf_whose, pf_wage, pf_roundMany, pf_bestSet, pf_ran, pf_kind, pf_who, pf_tellsV, al_s, as_s, al_image, as_image, al_truths, as_truths0, as_truths1, al_knownRow, as_knownRow, al_daysRow, as_daysRow, al_bests, as_bests, al_nots, as_nots, al_lookeds, as_lookeds, al_bestsAt, as_bestsAt, al_worths, as_worths, al_keptKnown, as_keptKnown, al_keptDays, as_keptDays, al_round, as_round, al_sums, as_sums, al_bestRound, as_bestRound, al_bodies, as_bodies, cl_some, nm_b, nn_some, qn_some, qn_none, zk_0, zk_1, zk_n0, zk_n1, nI_add, pk_mul, pk_sub, nI_leE, nI_ltE, nI_eqE, nI_lt0, nI_ge0, nI_eq0, nI_gt0, nI_le0, ilt_t, ilt_f, ile_t, ile_f, ieq_t, ieq_f, if_tt, if_ff, Nat.add_sub_cancel]
        obtain ⟨many, hm1, hm3, rfl⟩ := bIn_lh (by omega) (by omega) c1
        rw [nI_clamp (by omega)]
        have e := f_round38 (G := G) (b := b) (h0 := h0) (nx := nx) (st := st) (w := w) h1 hm3 many 0 fuelL (by omega) (by unfold fuelL; omega)
        rw [Nat.pow_zero] at e
        rw [e]
        have hpw := pow_le3 hn hm3
        exact f_round65 hB (by omega) hm1 hm3 (bIn_m1 (by omega) hm1 c2) hb (nt ^ many) 0 fuelL st N (by omega) (by unfold fuelL; omega) FrM.rf hN (Nat.le_refl _) (fun q => by omega)
