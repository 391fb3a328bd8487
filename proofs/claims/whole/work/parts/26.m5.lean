/-! THE REFERENCE: what looks bring, both ways gone on with; means of days -/
def KL : List Nat := KX ++ [22, 23, 26]
/-- both ways of the looks at the things of a set, from the last r things on; cont: what comes behind them -/
def loG (nt : Nat) (set : Int32) (cont : (Nat → Int32) → Int64) : Nat → (Nat → Int32) → Int64
  | 0, s => cont s
  | r + 1, s =>
    let t := nt - (r + 1)
    if bitI set t = 0 then loG nt set cont r s
    else
      let well := loG nt set cont r (upK (upK s (1034 + t) (nI 1000000)) (1042 + t) (nI 0))
      let ill := if valF s t 3 ≤ 0 then loG nt set cont r (upK (upK s (1034 + t) (nI 0)) (1042 + t) (nI 0)) else well - 1000 * (valF s t 3).toInt64
      ((s (1034 + t)).toInt64 * well + (nI 1000000 - s (1034 + t)).toInt64 * ill) / 1000000 - 1000 * (valF s t 2).toInt64
/-- a day's end, on the row of numbers alone -/
def ovP (S0 : MS) (s : Nat → Int32) : Nat → Nat → Int32
  | 0 => s
  | j + 1 => upK (upK (ovP S0 s j) (1034 + j) (overF (msa S0 1 (ovP S0 s j)) j (ovP S0 s j (1034 + j)) (ovP S0 s j (1042 + j)))) (1042 + j) (laterF (ovP S0 s j (1042 + j)))
/-- how many leaves the looks of a set have -/
def lvG (nt : Nat) (set : Int32) : Nat → Nat
  | 0 => 1
  | r + 1 => if bitI set (nt - (r + 1)) = 0 then lvG nt set r else 2 * lvG nt set r
/-- alike but for what is known of the first nt things -/
def AgN (nt : Nat) (s s' : Nat → Int32) : Prop := ∀ k : Nat, (k < 1034 ∨ (1034 + nt ≤ k ∧ k < 1042) ∨ 1042 + nt ≤ k) → s' k = s k
theorem AgN.ag {nt : Nat} {s s' : Nat → Int32} (hn : nt ≤ 8) (h : AgN nt s s') : AgS s s' := fun k hk => h k (by omega)
theorem AgN.rf {nt : Nat} {s : Nat → Int32} : AgN nt s s := fun _ _ => rfl
theorem AgN.trans {nt : Nat} {a b c : Nat → Int32} (h1 : AgN nt a b) (h2 : AgN nt b c) : AgN nt a c := fun k hk => (h2 k hk).trans (h1 k hk)
theorem AgN.up1 {nt t : Nat} {s : Nat → Int32} {x : Int32} (ht : t < nt) (hn : nt ≤ 8) : AgN nt s (upK s (1034 + t) x) := fun k hk => upK_n (by omega)
theorem AgN.up2 {nt t : Nat} {s : Nat → Int32} {x : Int32} (ht : t < nt) (hn : nt ≤ 8) : AgN nt s (upK s (1042 + t) x) := fun k hk => upK_n (by omega)
theorem ovP_agN {S0 : MS} {s : Nat → Int32} {nt : Nat} (hn : nt ≤ 8) : ∀ {j : Nat}, j ≤ nt → AgN nt s (ovP S0 s j)
  | 0, _ => AgN.rf
  | j + 1, h => ((ovP_agN hn (by omega)).trans (AgN.up1 (by omega) hn)).trans (AgN.up2 (by omega) hn)
theorem overF_same {st st' : MS} (h1 : ma st' 1 = ma st 1) (h2 : mi st' 10 = mi st 10) (h3 : mi st' 11 = mi st 11) : overF st' = overF st := by
  funext t k d
  unfold overF illF
  rw [h1, h2, h3]
theorem ovS_ovP {S0 st : MS} (h2 : mi st 10 = mi S0 10) (h3 : mi st 11 = mi S0 11) : ∀ j : Nat, ma (ovS st j) 1 = ovP S0 (ma st 1) j ∧ mi (ovS st j) 10 = mi S0 10 ∧ mi (ovS st j) 11 = mi S0 11
  | 0 => ⟨rfl, h2, h3⟩
  | j + 1 => by
    obtain ⟨a1, a2, a3⟩ := ovS_ovP h2 h3 j
    refine ⟨?_, a2, a3⟩
    show ma (ovStep (ovS st j) j) 1 = _
    unfold ovStep
    rw [ma_msa_s, a1, overF_same (st := msa S0 1 (ovP S0 (ma st 1) j)) (st' := ovS st j) (by rw [ma_msa_s, a1]) (by rw [a2]; rfl) (by rw [a3]; rfl)]
    rfl
/-- what a call of looksFrom or meanFrom leaves -/
def MLk (left nt : Nat) (st st' : MS) (N N' w : Nat) : Prop := FrM KL st st' ∧ StOk st' N' ∧ N' ≤ N + w ∧ ∀ i : Nat, 8 * (left + 1) ≤ i → ma st' 22 i = ma st 22 i ∧ ma st' 23 i = ma st 23 i
theorem fr_cg1 {ks : List Nat} {a b : MS} {f : Nat → Int32} (h : FrM ks a b) : FrM ks (msa a 1 f) (msa b 1 f) := fun k hk => by
  obtain ⟨h1, h2, h3⟩ := h k hk
  refine ⟨h1, ?_, h3⟩
  by_cases c : k = 1
  · subst c
    rw [ma_msa_s, ma_msa_s]
  · rw [ma_msa_n c, ma_msa_n c]
    exact h2
/-- the same but for scratch and the row of numbers -/
def FX (a b : MS) : Prop := FrM KL a (msa b 1 (ma a 1))
theorem FX.of {a b : MS} (h : FrM KL a b) : FX a b := by
  unfold FX
  rw [show ma a 1 = ma b 1 from (h.ofa 1 (by decide)).symm, msa_self]
  exact h
theorem FX.rf {a : MS} : FX a a := FX.of FrM.rf
theorem FX.up1 {a : MS} {f : Nat → Int32} : FX a (msa a 1 f) := by
  unfold FX
  rw [msa_msa, msa_self]
  exact FrM.rf
theorem FX.trans {a b c : MS} (h1 : FX a b) (h2 : FX b c) : FX a c := by
  unfold FX at *
  have h3 := fr_cg1 h2 (f := ma a 1)
  rw [msa_msa] at h3
  exact (FrM.trans h1 h3).mono (by intro k hk; rcases List.mem_append.mp hk with q | q <;> exact q)
theorem FX.back {a b : MS} (h : FX a b) (e : ma b 1 = ma a 1) : FrM KL a b := by
  unfold FX at h
  rw [← e, msa_self] at h
  exact h
theorem FX.f1 {a b : MS} (h : FX a b) (k : Nat) (hk : k ∉ KL) : mi b k = mi a k := (h k hk).1
/-- states that a call may be made in: as S0 but for scratch and what is known -/
def MS0 (nt : Nat) (S0 st : MS) : Prop := FX S0 st ∧ AgN nt (ma S0 1) (ma st 1)
theorem MS0.mk {nt : Nat} {S0 st st' : MS} (h : MS0 nt S0 st) (h1 : FX st st') (h2 : AgN nt (ma st 1) (ma st' 1)) : MS0 nt S0 st' := ⟨h.1.trans h1, h.2.trans h2⟩
section M5
variable {G : Gx} {b : Nat} {h0 : Hp} {nx : Nat}
def Pm (G : Gx) (b : Nat) (h0 : Hp) (nx nt : Nat) (cm : Hp → Nat → Nat → Int32 → Int32 → Int32 → Rz Int64) (pl : Int32) (dd left : Nat) (V : (Nat → Int32) → Int64) (S0 : MS) (w : Nat) : Prop := ∀ (st : MS) (N : Nat), MS0 nt S0 st → StOk st N → N + w < 2 ^ 31 → ∃ (st' : MS) (N' : Nat), cm (encM G b st h0) nx b pl (nI dd) (nI left) = some (V (ma st 1), encM G b st' h0, nx) ∧ MLk left nt st st' N N' w
theorem f_keep {nt left : Nat} {pl : Int32} {dd : Int32} {cl0 : Hp → Nat → Nat → Int32 → Int32 → Int32 → Int32 → Int32 → Rz Int64} {cm : Hp → Nat → Nat → Int32 → Int32 → Int32 → Rz Int64} {st : MS} (h1 : ma st 1 1 = nI nt) (hn : nt ≤ 8) (hl : left ≤ 3) : ∀ (r k : Nat) (st1 : MS) (m : Nat), k + r = nt → FrM [22, 23] st st1 → (∀ j, j < k → ma st1 22 (8 * left + j) = ma st 1 (1034 + j) ∧ ma st1 23 (8 * left + j) = ma st 1 (1042 + j)) → (∀ i : Nat, 8 * (left + 1) ≤ i → ma st1 22 i = ma st 22 i ∧ ma st1 23 i = ma st 23 i) → r < m → ∃ st' : MS, F_X12_looksFrom_52 G cl0 cm m (encM G b st1 h0) nx b pl dd (nI left) (nI k) = F_X12_looksFrom_52 G cl0 cm 1 (encM G b st' h0) nx b pl dd (nI left) (nI nt) ∧ FrM [22, 23] st st' ∧ (∀ j, j < nt → ma st' 22 (8 * left + j) = ma st 1 (1034 + j) ∧ ma st' 23 (8 * left + j) = ma st 1 (1042 + j)) ∧ (∀ i : Nat, 8 * (left + 1) ≤ i → ma st' 22 i = ma st 22 i ∧ ma st' 23 i = ma st 23 i) := by
  intro r
  induction r with
  | zero =>
    intro k st1 m hk hF hs ho hm
    obtain ⟨m, rfl⟩ : ∃ q, m = q + 1 := ⟨m - 1, by omega⟩
    have hk : k = nt := by omega
    subst hk
    refine ⟨st1, ?_, hF, hs, ho⟩
    have e1 : ma st1 1 1 = nI k := by rw [hF.ofa 1 (by decide)]; exact h1
    rw [F_X12_looksFrom_52_s, F_X12_looksFrom_52_s]
    simp (disch := omega) only [gf_s, nn_some, al_s, e1, nI_leE, ile_t]
  | succ r ih =>
    intro k st1 m hk hF hs ho hm
    obtain ⟨m, rfl⟩ : ∃ q, m = q + 1 := ⟨m - 1, by omega⟩
    have a1 : ma st1 1 = ma st 1 := hF.ofa 1 (by decide)
    rw [F_X12_looksFrom_52_s]
    simp (maxSteps := 3000000) (disch := omega) only [a1, h1, ma_msa_n, ma_msa_s, mi_msi_n, mi_msi_s, ml_msl_n, ml_msl_s, ma_msi, ma_msl, mi_msa, mi_msl, ml_msa, ml_msi, msa_msa, msi_msi, msl_msl, ck_m, gf_s, gf_image, gf_truths, gf_knownRow, gf_daysRow, gf_bests, gf_nots, gf_lookeds, gf_bestsAt, gf_worths, gf_keptKnown, gf_keptDays, gf_round, gf_sums, gf_bestRound, gf_bodies, gf_thrown, gf_hasImage, gf_act, gf_spot, gf_size, gf_isWrong, gf_open, gf_edgeThing, gf_edgeMore, gf_stamp, gf_whose, gf_wage, gf_roundMany, gf_bestSet, gf_ran, gf_kind, gf_who, gf_tellsV, pf_thrown, pf_hasImage, pf_act, pf_spot, pf_size, pf_isWrong, pf_open, pf_edgeThing, pf_edgeMore, pf_stamp, pf_whose, pf_wage, pf_roundMany, pf_bestSet, pf_ran, pf_kind, pf_who, pf_tellsV, al_s, as_s, al_image, as_image, al_truths, as_truths0, as_truths1, al_knownRow, as_knownRow, al_daysRow, as_daysRow, al_bests, as_bests, al_nots, as_nots, al_lookeds, as_lookeds, al_bestsAt, as_bestsAt, al_worths, as_worths, al_keptKnown, as_keptKnown, al_keptDays, as_keptDays, al_round, as_round, al_sums, as_sums, al_bestRound, as_bestRound, al_bodies, as_bodies, cl_some, nm_b, nn_some, qn_some, qn_none, zk_0, zk_1, zk_n0, zk_n1, nI_add, pk_mul, pk_sub, nI_leE, nI_ltE, nI_eqE, nI_lt0, nI_ge0, nI_eq0, nI_gt0, nI_le0, ilt_t, ilt_f, ile_t, ile_f, ieq_t, ieq_f, if_tt, if_ff, Nat.add_sub_cancel]
    refine ih (k + 1) _ m (by omega) ((hF.trans ((FrM.msa (k := 22) (ks := [22, 23]) (by decide)).trans (FrM.msa (k := 23) (ks := [22, 23]) (by decide)))).mono (by decide)) ?_ ?_ (by omega)
    · intro j hj
      simp (disch := omega) only [ma_msa_n, ma_msa_s]
      by_cases e : j = k
      · subst e
        exact ⟨upK_s, upK_s⟩
      · rw [upK_n (by omega), upK_n (by omega)]
        exact hs j (by omega)
    · intro i hi
      simp (disch := omega) only [ma_msa_n, ma_msa_s]
      rw [upK_n (by omega), upK_n (by omega)]
      exact ho i hi
theorem f_unkeep {nt left : Nat} {rest : Int64} {cl0 : Hp → Nat → Nat → Int32 → Int32 → Int32 → Int32 → Int32 → Rz Int64} {cm : Hp → Nat → Nat → Int32 → Int32 → Int32 → Rz Int64} {st : MS} (h1 : ma st 1 1 = nI nt) (hn : nt ≤ 8) (hl : left ≤ 3) : ∀ (r k : Nat) (f1 : Nat → Int32) (m : Nat), k + r = nt → AgN nt (ma st 1) f1 → (∀ j, j < k → f1 (1034 + j) = ma st 22 (8 * left + j) ∧ f1 (1042 + j) = ma st 23 (8 * left + j)) → r < m → ∃ f' : Nat → Int32, F_X12_looksFrom_135 G cl0 cm m (encM G b (msa st 1 f1) h0) nx b (nI left) rest (nI k) = some (rest, encM G b (msa st 1 f') h0, nx) ∧ AgN nt (ma st 1) f' ∧ (∀ j, j < nt → f' (1034 + j) = ma st 22 (8 * left + j) ∧ f' (1042 + j) = ma st 23 (8 * left + j)) := by
  intro r
  induction r with
  | zero =>
    intro k f1 m hk ha hs hm
    obtain ⟨m, rfl⟩ : ∃ q, m = q + 1 := ⟨m - 1, by omega⟩
    have hk : k = nt := by omega
    subst hk
    refine ⟨f1, ?_, ha, hs⟩
    have e1 : f1 1 = nI k := by rw [ha 1 (by omega)]; exact h1
    rw [F_X12_looksFrom_135_s]
    simp (maxSteps := 3000000) (disch := omega) only [e1, ma_msa_n, ma_msa_s, mi_msi_n, mi_msi_s, ml_msl_n, ml_msl_s, ma_msi, ma_msl, mi_msa, mi_msl, ml_msa, ml_msi, msa_msa, msi_msi, msl_msl, ck_m, gf_s, gf_image, gf_truths, gf_knownRow, gf_daysRow, gf_bests, gf_nots, gf_lookeds, gf_bestsAt, gf_worths, gf_keptKnown, gf_keptDays, gf_round, gf_sums, gf_bestRound, gf_bodies, gf_thrown, gf_hasImage, gf_act, gf_spot, gf_size, gf_isWrong, gf_open, gf_edgeThing, gf_edgeMore, gf_stamp, gf_whose, gf_wage, gf_roundMany, gf_bestSet, gf_ran, gf_kind, gf_who, gf_tellsV, pf_thrown, pf_hasImage, pf_act, pf_spot, pf_size, pf_isWrong, pf_open, pf_edgeThing, pf_edgeMore, pf_stamp, pf_whose, pf_wage, pf_roundMany, pf_bestSet, pf_ran, pf_kind, pf_who, pf_tellsV, al_s, as_s, al_image, as_image, al_truths, as_truths0, as_truths1, al_knownRow, as_knownRow, al_daysRow, as_daysRow, al_bests, as_bests, al_nots, as_nots, al_lookeds, as_lookeds, al_bestsAt, as_bestsAt, al_worths, as_worths, al_keptKnown, as_keptKnown, al_keptDays, as_keptDays, al_round, as_round, al_sums, as_sums, al_bestRound, as_bestRound, al_bodies, as_bodies, cl_some, nm_b, nn_some, qn_some, qn_none, zk_0, zk_1, zk_n0, zk_n1, nI_add, pk_mul, pk_sub, nI_leE, nI_ltE, nI_eqE, nI_lt0, nI_ge0, nI_eq0, nI_gt0, nI_le0, ilt_t, ilt_f, ile_t, ile_f, ieq_t, ieq_f, if_tt, if_ff, Nat.add_sub_cancel]
  | succ r ih =>
    intro k f1 m hk ha hs hm
    obtain ⟨m, rfl⟩ : ∃ q, m = q + 1 := ⟨m - 1, by omega⟩
    have e1 : f1 1 = nI nt := by rw [ha 1 (by omega)]; exact h1
    rw [F_X12_looksFrom_135_s]
    simp (maxSteps := 3000000) (disch := omega) only [e1, ma_msa_n, ma_msa_s, mi_msi_n, mi_msi_s, ml_msl_n, ml_msl_s, ma_msi, ma_msl, mi_msa, mi_msl, ml_msa, ml_msi, msa_msa, msi_msi, msl_msl, ck_m, gf_s, gf_image, gf_truths, gf_knownRow, gf_daysRow, gf_bests, gf_nots, gf_lookeds, gf_bestsAt, gf_worths, gf_keptKnown, gf_keptDays, gf_round, gf_sums, gf_bestRound, gf_bodies, gf_thrown, gf_hasImage, gf_act, gf_spot, gf_size, gf_isWrong, gf_open, gf_edgeThing, gf_edgeMore, gf_stamp, gf_whose, gf_wage, gf_roundMany, gf_bestSet, gf_ran, gf_kind, gf_who, gf_tellsV, pf_thrown, pf_hasImage, pf_act, pf_spot, pf_size, pf_isWrong, pf_open, pf_edgeThing, pf_edgeMore, pf_stamp, pf_whose, pf_wage, pf_roundMany, pf_bestSet, pf_ran, pf_kind, pf_who, pf_tellsV, al_s, as_s, al_image, as_image, al_truths, as_truths0, as_truths1, al_knownRow, as_knownRow, al_daysRow, as_daysRow, al_bests, as_bests, al_nots, as_nots, al_lookeds, as_lookeds, al_bestsAt, as_bestsAt, al_worths, as_worths, al_keptKnown, as_keptKnown, al_keptDays, as_keptDays, al_round, as_round, al_sums, as_sums, al_bestRound, as_bestRound, al_bodies, as_bodies, cl_some, nm_b, nn_some, qn_some, qn_none, zk_0, zk_1, zk_n0, zk_n1, nI_add, pk_mul, pk_sub, nI_leE, nI_ltE, nI_eqE, nI_lt0, nI_ge0, nI_eq0, nI_gt0, nI_le0, ilt_t, ilt_f, ile_t, ile_f, ieq_t, ieq_f, if_tt, if_ff, Nat.add_sub_cancel]
    refine ih (k + 1) _ m (by omega) ((ha.trans (AgN.up1 (by omega) hn)).trans (AgN.up2 (by omega) hn)) ?_ (by omega)
    intro j hj
    by_cases e : j = k
    · subst e
      rw [upK_n (by omega)]
      exact ⟨upK_s, upK_s⟩
    · rw [upK_n (by omega), upK_n (by omega), upK_n (by omega), upK_n (by omega)]
      exact hs j (by omega)
set_option maxRecDepth 100000 in
set_option maxHeartbeats 4000000 in
theorem StOk_fr {ks : List Nat} {st st' : MS} {N : Nat} (h : FrM ks st st') (h1 : 17 ∉ ks) (h2 : 18 ∉ ks) (hN : StOk st N) : StOk st' N := ⟨(h.of1 18 h2).trans hN.1, fun i => by rw [h.ofa 17 h1]; exact hN.2 i⟩
theorem ovS_fx {st : MS} : ∀ {j : Nat}, FX st (ovS st j)
  | 0 => FX.rf
  | j + 1 => ovS_fx.trans (FX.up1 (a := ovS st j))
theorem ovS_fr1 {st : MS} : ∀ {j : Nat}, FrM [1] st (ovS st j)
  | 0 => FrM.rf
  | j + 1 => (ovS_fr1.trans (FrM.msa (k := 1) (ks := [1]) (by decide))).mono (by decide)
theorem up_back {s s' : Nat → Int32} {t : Nat} (h : ∀ k, k ≠ 1034 + t → k ≠ 1042 + t → s' k = s k) : upK (upK s' (1034 + t) (s (1034 + t))) (1042 + t) (s (1042 + t)) = s := by
  funext k
  unfold upK
  by_cases c1 : k = 1042 + t
  · rw [if_pos c1, c1]
  · rw [if_neg c1]
    by_cases c2 : k = 1034 + t
    · rw [if_pos c2, c2]
    · rw [if_neg c2]
      exact h k c2 c1
theorem up_swap {s : Nat → Int32} {t : Nat} {x y c : Int32} (ht : t < 8) : upK (upK (upK s (1034 + t) x) (1042 + t) c) (1034 + t) y = upK (upK s (1034 + t) y) (1042 + t) c := by
  funext k
  unfold upK
  by_cases c1 : k = 1034 + t
  · rw [if_pos c1, if_neg (by omega), if_pos c1]
  · rw [if_neg c1]
    by_cases c2 : k = 1042 + t
    · rw [if_pos c2, if_pos c2]
    · rw [if_neg c2, if_neg c2, if_neg c1, if_neg c1]
set_option maxRecDepth 100000 in
set_option maxHeartbeats 4000000 in
theorem f_looks_end {S0 : MS} {nt left dd w : Nat} {pl set : Int32} {V : (Nat → Int32) → Int64} {cl0 : Hp → Nat → Nat → Int32 → Int32 → Int32 → Int32 → Int32 → Rz Int64} {cm : Hp → Nat → Nat → Int32 → Int32 → Int32 → Rz Int64} (h1 : ma S0 1 1 = nI nt) (hn : nt ≤ 8) (ht : ∀ t, t < nt → ThOk (ma S0 1) t) (hl1 : 1 ≤ left) (hl : left ≤ 3) (hC : 2 ≤ left → Pm G b h0 nx nt cm pl (dd + 1) (left - 1) V S0 w) (st : MS) (N : Nat) (hS : MS0 nt S0 st) (hN : StOk st N) (hb : N + w < 2 ^ 31) : ∃ (st' : MS) (N' : Nat), F_X12_looksFrom_31 G cl0 cm (encM G b st h0) nx b pl (nI dd) (nI left) set (nI nt) = some (if left = 1 then 0 else V (ovP S0 (ma st 1) nt), encM G b st' h0, nx) ∧ MLk left nt st st' N N' w := by
  have a1 : ma st 1 1 = nI nt := by rw [hS.2 1 (by omega)]; exact h1
  unfold F_X12_looksFrom_31
  simp (maxSteps := 3000000) (disch := omega) only [a1, ma_msa_n, ma_msa_s, mi_msi_n, mi_msi_s, ml_msl_n, ml_msl_s, ma_msi, ma_msl, mi_msa, mi_msl, ml_msa, ml_msi, msa_msa, msi_msi, msl_msl, ck_m, gf_s, gf_image, gf_truths, gf_knownRow, gf_daysRow, gf_bests, gf_nots, gf_lookeds, gf_bestsAt, gf_worths, gf_keptKnown, gf_keptDays, gf_round, gf_sums, gf_bestRound, gf_bodies, gf_thrown, gf_hasImage, gf_act, gf_spot, gf_size, gf_isWrong, gf_open, gf_edgeThing, gf_edgeMore, gf_stamp, gf_whose, gf_wage, gf_roundMany, gf_bestSet, gf_ran, gf_kind, gf_who, gf_tellsV, pf_thrown, pf_hasImage, pf_act, pf_spot, pf_size, pf_isWrong, pf_open, pf_edgeThing, pf_edgeMore, pf_stamp, pf_whose, pf_wage, pf_roundMany, pf_bestSet, pf_ran, pf_kind, pf_who, pf_tellsV, al_s, as_s, al_image, as_image, al_truths, as_truths0, as_truths1, al_knownRow, as_knownRow, al_daysRow, as_daysRow, al_bests, as_bests, al_nots, as_nots, al_lookeds, as_lookeds, al_bestsAt, as_bestsAt, al_worths, as_worths, al_keptKnown, as_keptKnown, al_keptDays, as_keptDays, al_round, as_round, al_sums, as_sums, al_bestRound, as_bestRound, al_bodies, as_bodies, cl_some, nm_b, nn_some, qn_some, qn_none, zk_0, zk_1, zk_n0, zk_n1, nI_add, pk_mul, pk_sub, nI_leE, nI_ltE, nI_eqE, nI_lt0, nI_ge0, nI_eq0, nI_gt0, nI_le0, ilt_t, ilt_f, ile_t, ile_f, ieq_t, ieq_f, if_tt, if_ff, Nat.add_sub_cancel]
  by_cases c : left = 1
  · rw [if_pos c, if_pos c]
    exact ⟨st, N, rfl, FrM.rf, hN, by omega, fun i _ => ⟨rfl, rfl⟩⟩
  · rw [if_neg c, if_neg c]
    obtain ⟨st2, e2, hF2, hk2, ho2⟩ := f_keep (G := G) (b := b) (h0 := h0) (nx := nx) (left := left) (pl := pl) (dd := nI dd) (cl0 := cl0) (cm := cm) (st := st) a1 hn hl nt 0 st fuelL (by omega) FrM.rf (fun j hj => by omega) (fun i _ => ⟨rfl, rfl⟩) (by unfold fuelL; omega)
    have s2 : ma st2 1 = ma st 1 := hF2.ofa 1 (by decide)
    have a2 : ma st2 1 1 = nI nt := by rw [s2]; exact a1
    have t2 : ∀ t, t < nt → ThOk (ma st2 1) t := fun t q => by rw [s2]; exact ThOk_ag (hS.2.ag hn) (ht t q)
    obtain ⟨st3, e3, hF3⟩ := f_over (G := G) (b := b) (h0 := h0) (nx := nx) (st := st2) a2 hn t2
    have ov := ovS_ovP (S0 := S0) (st := st2) ((hF2.of1 10 (by decide)).trans (hS.1.f1 10 (by decide))) ((hF2.of1 11 (by decide)).trans (hS.1.f1 11 (by decide))) nt
    have s3 : ma st3 1 = ovP S0 (ma st 1) nt := by rw [hF3.ofa 1 (by decide), ov.1, s2]
    have F03 : FX st st3 := ((FX.of (hF2.mono (by decide))).trans (ovS_fx (j := nt))).trans (FX.of (hF3.mono (by decide)))
    have g3 : AgN nt (ma st 1) (ma st3 1) := by rw [s3]; exact ovP_agN hn (Nat.le_refl _)
    have hS3 : MS0 nt S0 st3 := hS.mk F03 g3
    have hN3 : StOk st3 N := StOk_fr ((hF2.trans (ovS_fr1 (j := nt))).trans hF3) (by decide) (by decide) hN
    obtain ⟨st4, N4, e4, m1, m2, m3, m4⟩ := hC (by omega) st3 N hS3 hN3 hb
    have z1 : left - 1 + 1 = left := by omega
    have s4 : ma st4 1 = ma st3 1 := m1.ofa 1 (by decide)
    have a4 : ma st4 1 1 = nI nt := by rw [s4, g3 1 (by omega)]; exact a1
    obtain ⟨f5, e5, g5, k5⟩ := f_unkeep (G := G) (b := b) (h0 := h0) (nx := nx) (left := left) (rest := V (ma st3 1)) (cl0 := cl0) (cm := cm) (st := st4) a4 hn hl nt 0 (ma st4 1) fuelL (by omega) AgN.rf (fun j hj => by omega) (by unfold fuelL; omega)
    rw [msa_self] at e5
    have kk : ∀ i : Nat, ma st3 22 i = ma st2 22 i ∧ ma st3 23 i = ma st2 23 i := fun i => by
      rw [hF3.ofa 22 (by decide), hF3.ofa 23 (by decide), (ovS_fr1 (st := st2) (j := nt)).ofa 22 (by decide), (ovS_fr1 (st := st2) (j := nt)).ofa 23 (by decide)]
      exact ⟨rfl, rfl⟩
    have s5 : f5 = ma st 1 := by
      funext k
      by_cases c1 : k < 1034 ∨ (1034 + nt ≤ k ∧ k < 1042) ∨ 1042 + nt ≤ k
      · rw [g5 k c1, s4, g3 k c1]
      · by_cases c2 : k < 1042
        · obtain ⟨j, rfl⟩ : ∃ j, k = 1034 + j := ⟨k - 1034, by omega⟩
          rw [(k5 j (by omega)).1, (m4 (8 * left + j) (by omega)).1, (kk _).1, (hk2 j (by omega)).1]
        · obtain ⟨j, rfl⟩ : ∃ j, k = 1042 + j := ⟨k - 1042, by omega⟩
          rw [(k5 j (by omega)).2, (m4 (8 * left + j) (by omega)).2, (kk _).2, (hk2 j (by omega)).2]
    rw [e2, F_X12_looksFrom_52_s]
    simp (disch := omega) only [gf_s, nn_some, al_s, a2, nI_leE, ile_t, ck_m, e3, cl_some, nI_add, pk_sub, e4, e5]
    refine ⟨msa st4 1 f5, N4, by rw [s3], ?_, StOk_fr (FrM.msa (k := 1) (ks := [1]) (by decide)) (by decide) (by decide) m2, m3, fun i hi => ?_⟩
    · exact FX.back ((F03.trans (FX.of m1)).trans FX.up1) (by rw [ma_msa_s]; exact s5)
    · rw [ma_msa_n (by decide), ma_msa_n (by decide), (m4 i (by omega)).1, (m4 i (by omega)).2, (kk i).1, (kk i).2]
      exact ho2 i hi
end M5
