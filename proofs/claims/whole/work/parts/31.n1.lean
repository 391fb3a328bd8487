/-! THE REFERENCE: a told plan judged -/
/-- the row as S has it kept in the first eight -/
def KeptOk (S st : MS) : Prop := ∀ j, j < 8 → ma st 22 j = ma S 1 (1034 + j) ∧ ma st 23 j = ma S 1 (1042 + j)
theorem KeptOk.same {S st st' : MS} (h : KeptOk S st) (h2 : ma st' 22 = ma st 22) (h3 : ma st' 23 = ma st 23) : KeptOk S st' := fun j hj => by
  rw [h2, h3]
  exact h j hj
def jsF (s : Nat → Int32) (set : Int32) : Nat → Nat → Int32
  | 0 => s
  | t + 1 => if bitI set t = nI 1 then shF (jsF s set t) t (if jsF s set t (1034 + t) < nI 500000 then nI 0 else nI 1) else jsF s set t
def jdT (s : Nat → Int32) (set : Int32) (nt lk i : Nat) : Nat → Int32
  | 0 => -5
  | n + 1 => if cnF (nI n) 8 = nI lk then (if dbF s (nI n) nt ≤ dbF s set nt then jdT s set nt lk i n else nI i) else jdT s set nt lk i n
def jdR (S : MS) (p nt lk td : Nat) : Nat → Nat → (Nat → Int32) → Int32
  | 0, _, _ => -5
  | r + 1, i, s => if jdT s (whF (msa S 1 s) p (td + i) nt lk) nt lk i (2 ^ nt) = -5 then jdR S p nt lk td r (i + 1) (ovP S (jsF s (whF (msa S 1 s) p (td + i) nt lk) nt) nt) else jdT s (whF (msa S 1 s) p (td + i) nt lk) nt lk i (2 ^ nt)
theorem jsF_ag {s : Nat → Int32} {set : Int32} : ∀ {t : Nat}, t ≤ 8 → AgS s (jsF s set t)
  | 0, _ => AgS.rf
  | t + 1, h => by
    have ih := jsF_ag (s := s) (set := set) (t := t) (by omega)
    unfold jsF
    split
    · exact ih.trans (shF_ag (by omega))
    · exact ih
section N1
variable {G : Gx} {b : Nat} {h0 : Hp} {nx : Nat}
set_option maxRecDepth 100000 in
set_option maxHeartbeats 4000000 in
theorem f_jd56 {st : MS} {p dl : Int32} : ∀ (r k : Nat) (st1 : MS) (m : Nat), k + r = 8 → FrM [22, 23] st st1 → (∀ j, j < k → ma st1 22 j = ma st 1 (1034 + j) ∧ ma st1 23 j = ma st 1 (1042 + j)) → r < m → ∃ st' : MS, F_X12_judged_56 G m (encM G b st1 h0) nx b p dl (nI k) = F_X12_judged_106 G fuelL (encM G b st' h0) nx b p dl (-5) (nI 0) ∧ FrM [22, 23] st st' ∧ KeptOk st st' := by
  intro r
  induction r with
  | zero =>
    intro k st1 m hk hF hs hm
    obtain ⟨m, rfl⟩ : ∃ q, m = q + 1 := ⟨m - 1, by omega⟩
    have hk : k = 8 := by omega
    subst hk
    refine ⟨st1, ?_, hF, hs⟩
    rw [F_X12_judged_56_s]
    simp (maxSteps := 3000000) (disch := omega) only [ma_msa_n, ma_msa_s, mi_msi_n, mi_msi_s, ml_msl_n, ml_msl_s, ma_msi, ma_msl, mi_msa, mi_msl, ml_msa, ml_msi, msa_msa, msi_msi, msl_msl, ck_m, gf_s, gf_image, gf_truths, gf_knownRow, gf_daysRow, gf_bests, gf_nots, gf_lookeds, gf_bestsAt, gf_worths, gf_keptKnown, gf_keptDays, gf_round, gf_sums, gf_bestRound, gf_bodies, gf_thrown, gf_hasImage, gf_act, gf_spot, gf_size, gf_isWrong, gf_open, gf_edgeThing, gf_edgeMore, gf_stamp, gf_whose, gf_wage, gf_roundMany, gf_bestSet, gf_ran, gf_kind, gf_who, gf_tellsV, pf_thrown, pf_hasImage, pf_act, pf_spot, pf_size, pf_isWrong, pf_open, pf_edgeThing, pf_edgeMore, pf_stamp, pf_whose, pf_wage, pf_roundMany, pf_bestSet, pf_ran, pf_kind, pf_who, pf_tellsV, al_s, as_s, al_image, as_image, al_truths, as_truths0, as_truths1, al_knownRow, as_knownRow, al_daysRow, as_daysRow, al_bests, as_bests, al_nots, as_nots, al_lookeds, as_lookeds, al_bestsAt, as_bestsAt, al_worths, as_worths, al_keptKnown, as_keptKnown, al_keptDays, as_keptDays, al_round, as_round, al_sums, as_sums, al_bestRound, as_bestRound, al_bodies, as_bodies, cl_some, nm_b, nn_some, qn_some, qn_none, zk_0, zk_1, zk_n0, zk_n1, nI_add, pk_mul, pk_sub, nI_leE, nI_ltE, nI_eqE, nI_lt0, nI_ge0, nI_eq0, nI_gt0, nI_le0, ilt_t, ilt_f, ile_t, ile_f, ieq_t, ieq_f, if_tt, if_ff, Nat.add_sub_cancel]
  | succ r ih =>
    intro k st1 m hk hF hs hm
    obtain ⟨m, rfl⟩ : ∃ q, m = q + 1 := ⟨m - 1, by omega⟩
    have a1 : ma st1 1 = ma st 1 := hF.ofa 1 (by decide)
    rw [F_X12_judged_56_s]
    simp (maxSteps := 3000000) (disch := omega) only [a1, ma_msa_n, ma_msa_s, mi_msi_n, mi_msi_s, ml_msl_n, ml_msl_s, ma_msi, ma_msl, mi_msa, mi_msl, ml_msa, ml_msi, msa_msa, msi_msi, msl_msl, ck_m, gf_s, gf_image, gf_truths, gf_knownRow, gf_daysRow, gf_bests, gf_nots, gf_lookeds, gf_bestsAt, gf_worths, gf_keptKnown, gf_keptDays, gf_round, gf_sums, gf_bestRound, gf_bodies, gf_thrown, gf_hasImage, gf_act, gf_spot, gf_size, gf_isWrong, gf_open, gf_edgeThing, gf_edgeMore, gf_stamp, gf_whose, gf_wage, gf_roundMany, gf_bestSet, gf_ran, gf_kind, gf_who, gf_tellsV, pf_thrown, pf_hasImage, pf_act, pf_spot, pf_size, pf_isWrong, pf_open, pf_edgeThing, pf_edgeMore, pf_stamp, pf_whose, pf_wage, pf_roundMany, pf_bestSet, pf_ran, pf_kind, pf_who, pf_tellsV, al_s, as_s, al_image, as_image, al_truths, as_truths0, as_truths1, al_knownRow, as_knownRow, al_daysRow, as_daysRow, al_bests, as_bests, al_nots, as_nots, al_lookeds, as_lookeds, al_bestsAt, as_bestsAt, al_worths, as_worths, al_keptKnown, as_keptKnown, al_keptDays, as_keptDays, al_round, as_round, al_sums, as_sums, al_bestRound, as_bestRound, al_bodies, as_bodies, cl_some, nm_b, nn_some, qn_some, qn_none, zk_0, zk_1, zk_n0, zk_n1, nI_add, pk_mul, pk_sub, nI_leE, nI_ltE, nI_eqE, nI_lt0, nI_ge0, nI_eq0, nI_gt0, nI_le0, ilt_t, ilt_f, ile_t, ile_f, ieq_t, ieq_f, if_tt, if_ff, Nat.add_sub_cancel]
    refine ih (k + 1) _ m (by omega) ((hF.trans ((FrM.msa (k := 22) (ks := [22, 23]) (by decide)).trans (FrM.msa (k := 23) (ks := [22, 23]) (by decide)))).mono (by decide)) ?_ (by omega)
    intro j hj
    simp (disch := omega) only [ma_msa_n, ma_msa_s]
    by_cases e : j = k
    · subst e
      exact ⟨upK_s, upK_s⟩
    · rw [upK_n (by omega), upK_n (by omega)]
      exact hs j (by omega)
set_option maxRecDepth 100000 in
set_option maxHeartbeats 4000000 in
theorem f_jd263 {S st : MS} {l3 : Int32} (hK : KeptOk S st) : ∀ (r k m : Nat) (f : Nat → Int32), k + r = 8 → r < m → AgS (ma S 1) f → (∀ j, j < k → f (1034 + j) = ma S 1 (1034 + j) ∧ f (1042 + j) = ma S 1 (1042 + j)) → F_X12_judged_263 G m (encM G b (msa st 1 f) h0) nx b l3 (nI k) = some (l3, encM G b (msa st 1 (ma S 1)) h0, nx) := by
  intro r
  induction r with
  | zero =>
    intro k m f hk hm hag hf
    obtain ⟨m, rfl⟩ : ∃ q, m = q + 1 := ⟨m - 1, by omega⟩
    have hk : k = 8 := by omega
    subst hk
    have e : f = ma S 1 := by
      funext i
      by_cases c : i < 1034 ∨ 1050 ≤ i
      · exact hag i c
      · by_cases c2 : i < 1042
        · have := (hf (i - 1034) (by omega)).1
          rwa [show 1034 + (i - 1034) = i by omega] at this
        · have := (hf (i - 1042) (by omega)).2
          rwa [show 1042 + (i - 1042) = i by omega] at this
    rw [F_X12_judged_263_s, e]
    simp (maxSteps := 3000000) (disch := omega) only [ma_msa_n, ma_msa_s, mi_msi_n, mi_msi_s, ml_msl_n, ml_msl_s, ma_msi, ma_msl, mi_msa, mi_msl, ml_msa, ml_msi, msa_msa, msi_msi, msl_msl, ck_m, gf_s, gf_image, gf_truths, gf_knownRow, gf_daysRow, gf_bests, gf_nots, gf_lookeds, gf_bestsAt, gf_worths, gf_keptKnown, gf_keptDays, gf_round, gf_sums, gf_bestRound, gf_bodies, gf_thrown, gf_hasImage, gf_act, gf_spot, gf_size, gf_isWrong, gf_open, gf_edgeThing, gf_edgeMore, gf_stamp, gf_whose, gf_wage, gf_roundMany, gf_bestSet, gf_ran, gf_kind, gf_who, gf_tellsV, pf_thrown, pf_hasImage, pf_act, pf_spot, pf_size, pf_isWrong, pf_open, pf_edgeThing, pf_edgeMore, pf_stamp, pf_whose, pf_wage, pf_roundMany, pf_bestSet, pf_ran, pf_kind, pf_who, pf_tellsV, al_s, as_s, al_image, as_image, al_truths, as_truths0, as_truths1, al_knownRow, as_knownRow, al_daysRow, as_daysRow, al_bests, as_bests, al_nots, as_nots, al_lookeds, as_lookeds, al_bestsAt, as_bestsAt, al_worths, as_worths, al_keptKnown, as_keptKnown, al_keptDays, as_keptDays, al_round, as_round, al_sums, as_sums, al_bestRound, as_bestRound, al_bodies, as_bodies, cl_some, nm_b, nn_some, qn_some, qn_none, zk_0, zk_1, zk_n0, zk_n1, nI_add, pk_mul, pk_sub, nI_leE, nI_ltE, nI_eqE, nI_lt0, nI_ge0, nI_eq0, nI_gt0, nI_le0, ilt_t, ilt_f, ile_t, ile_f, ieq_t, ieq_f, if_tt, if_ff, Nat.add_sub_cancel]
  | succ r ih =>
    intro k m f hk hm hag hf
    obtain ⟨m, rfl⟩ : ∃ q, m = q + 1 := ⟨m - 1, by omega⟩
    obtain ⟨k1, k2⟩ := hK k (by omega)
    rw [F_X12_judged_263_s]
    simp (maxSteps := 3000000) (disch := omega) only [k1, k2, ma_msa_n, ma_msa_s, mi_msi_n, mi_msi_s, ml_msl_n, ml_msl_s, ma_msi, ma_msl, mi_msa, mi_msl, ml_msa, ml_msi, msa_msa, msi_msi, msl_msl, ck_m, gf_s, gf_image, gf_truths, gf_knownRow, gf_daysRow, gf_bests, gf_nots, gf_lookeds, gf_bestsAt, gf_worths, gf_keptKnown, gf_keptDays, gf_round, gf_sums, gf_bestRound, gf_bodies, gf_thrown, gf_hasImage, gf_act, gf_spot, gf_size, gf_isWrong, gf_open, gf_edgeThing, gf_edgeMore, gf_stamp, gf_whose, gf_wage, gf_roundMany, gf_bestSet, gf_ran, gf_kind, gf_who, gf_tellsV, pf_thrown, pf_hasImage, pf_act, pf_spot, pf_size, pf_isWrong, pf_open, pf_edgeThing, pf_edgeMore, pf_stamp, pf_whose, pf_wage, pf_roundMany, pf_bestSet, pf_ran, pf_kind, pf_who, pf_tellsV, al_s, as_s, al_image, as_image, al_truths, as_truths0, as_truths1, al_knownRow, as_knownRow, al_daysRow, as_daysRow, al_bests, as_bests, al_nots, as_nots, al_lookeds, as_lookeds, al_bestsAt, as_bestsAt, al_worths, as_worths, al_keptKnown, as_keptKnown, al_keptDays, as_keptDays, al_round, as_round, al_sums, as_sums, al_bestRound, as_bestRound, al_bodies, as_bodies, cl_some, nm_b, nn_some, qn_some, qn_none, zk_0, zk_1, zk_n0, zk_n1, nI_add, pk_mul, pk_sub, nI_leE, nI_ltE, nI_eqE, nI_lt0, nI_ge0, nI_eq0, nI_gt0, nI_le0, ilt_t, ilt_f, ile_t, ile_f, ieq_t, ieq_f, if_tt, if_ff, Nat.add_sub_cancel]
    refine ih (k + 1) m _ (by omega) (by omega) ((hag.trans (AgS.up (by omega) (by omega))).trans (AgS.up (by omega) (by omega))) (fun j hj => ?_)
    by_cases e : j = k
    · subst e
      exact ⟨by rw [upK_n (by omega), upK_s], upK_s⟩
    · rw [upK_n (by omega), upK_n (by omega), upK_n (by omega), upK_n (by omega)]
      exact hf j (by omega)
set_option maxRecDepth 100000 in
set_option maxHeartbeats 4000000 in
theorem f_jd137 {st : MS} {nt lk i : Nat} {p dl set : Int32} {k106 : Hp → Nat → Nat → Int32 → Int32 → Int32 → Int32 → Rz Int32} (hL : LkOk (ma st 1) nt lk) : ∀ (r n m : Nat), n + r = 2 ^ nt → r < m → F_X12_judged_137 G k106 m (encM G b st h0) nx b p dl (jdT (ma st 1) set nt lk i n) (nI i) set (nI n) = F_X12_judged_194 G k106 fuelL (encM G b st h0) nx b p dl (jdT (ma st 1) set nt lk i (2 ^ nt)) (nI i) set (nI 0) := by
  obtain ⟨h1, hn, h3, h4⟩ := hL
  have h2n := two_le hn
  intro r
  induction r with
  | zero =>
    intro n m hr hm
    obtain ⟨m, rfl⟩ : ∃ q, m = q + 1 := ⟨m - 1, by omega⟩
    have hr : n = 2 ^ nt := by omega
    subst hr
    rw [F_X12_judged_137_s]
    simp (maxSteps := 3000000) (disch := omega) only [h1, shl_n hn, ma_msa_n, ma_msa_s, mi_msi_n, mi_msi_s, ml_msl_n, ml_msl_s, ma_msi, ma_msl, mi_msa, mi_msl, ml_msa, ml_msi, msa_msa, msi_msi, msl_msl, ck_m, gf_s, gf_image, gf_truths, gf_knownRow, gf_daysRow, gf_bests, gf_nots, gf_lookeds, gf_bestsAt, gf_worths, gf_keptKnown, gf_keptDays, gf_round, gf_sums, gf_bestRound, gf_bodies, gf_thrown, gf_hasImage, gf_act, gf_spot, gf_size, gf_isWrong, gf_open, gf_edgeThing, gf_edgeMore, gf_stamp, gf_whose, gf_wage, gf_roundMany, gf_bestSet, gf_ran, gf_kind, gf_who, gf_tellsV, pf_thrown, pf_hasImage, pf_act, pf_spot, pf_size, pf_isWrong, pf_open, pf_edgeThing, pf_edgeMore, pf_stamp, pf_whose, pf_wage, pf_roundMany, pf_bestSet, pf_ran, pf_kind, pf_who, pf_tellsV, al_s, as_s, al_image, as_image, al_truths, as_truths0, as_truths1, al_knownRow, as_knownRow, al_daysRow, as_daysRow, al_bests, as_bests, al_nots, as_nots, al_lookeds, as_lookeds, al_bestsAt, as_bestsAt, al_worths, as_worths, al_keptKnown, as_keptKnown, al_keptDays, as_keptDays, al_round, as_round, al_sums, as_sums, al_bestRound, as_bestRound, al_bodies, as_bodies, cl_some, nm_b, nn_some, qn_some, qn_none, zk_0, zk_1, zk_n0, zk_n1, nI_add, pk_mul, pk_sub, nI_leE, nI_ltE, nI_eqE, nI_lt0, nI_ge0, nI_eq0, nI_gt0, nI_le0, ilt_t, ilt_f, ile_t, ile_f, ieq_t, ieq_f, if_tt, if_ff, Nat.add_sub_cancel]
  | succ r ih =>
    intro n m hr hm
    obtain ⟨m, rfl⟩ : ∃ q, m = q + 1 := ⟨m - 1, by omega⟩
    have go := ih (n + 1) m (by omega) (by omega)
    have e : jdT (ma st 1) set nt lk i (n + 1) = if cnF (nI n) 8 = nI lk then (if dbF (ma st 1) (nI n) nt ≤ dbF (ma st 1) set nt then jdT (ma st 1) set nt lk i n else nI i) else jdT (ma st 1) set nt lk i n := rfl
    have ed := fun x => f_doubt (G := G) (b := b) (h0 := h0) (nx := nx) (st := st) (set := x) h1 hn
    rw [F_X12_judged_137_s]
    unfold F_X12_judged_183 F_X12_judged_184
    simp (maxSteps := 3000000) (disch := omega) only [h1, shl_n hn, f_count1, f_looking, h3, ed, ma_msa_n, ma_msa_s, mi_msi_n, mi_msi_s, ml_msl_n, ml_msl_s, ma_msi, ma_msl, mi_msa, mi_msl, ml_msa, ml_msi, msa_msa, msi_msi, msl_msl, ck_m, gf_s, gf_image, gf_truths, gf_knownRow, gf_daysRow, gf_bests, gf_nots, gf_lookeds, gf_bestsAt, gf_worths, gf_keptKnown, gf_keptDays, gf_round, gf_sums, gf_bestRound, gf_bodies, gf_thrown, gf_hasImage, gf_act, gf_spot, gf_size, gf_isWrong, gf_open, gf_edgeThing, gf_edgeMore, gf_stamp, gf_whose, gf_wage, gf_roundMany, gf_bestSet, gf_ran, gf_kind, gf_who, gf_tellsV, pf_thrown, pf_hasImage, pf_act, pf_spot, pf_size, pf_isWrong, pf_open, pf_edgeThing, pf_edgeMore, pf_stamp, pf_whose, pf_wage, pf_roundMany, pf_bestSet, pf_ran, pf_kind, pf_who, pf_tellsV, al_s, as_s, al_image, as_image, al_truths, as_truths0, as_truths1, al_knownRow, as_knownRow, al_daysRow, as_daysRow, al_bests, as_bests, al_nots, as_nots, al_lookeds, as_lookeds, al_bestsAt, as_bestsAt, al_worths, as_worths, al_keptKnown, as_keptKnown, al_keptDays, as_keptDays, al_round, as_round, al_sums, as_sums, al_bestRound, as_bestRound, al_bodies, as_bodies, cl_some, nm_b, nn_some, qn_some, qn_none, zk_0, zk_1, zk_n0, zk_n1, nI_add, pk_mul, pk_sub, nI_leE, nI_ltE, nI_eqE, nI_lt0, nI_ge0, nI_eq0, nI_gt0, nI_le0, ilt_t, ilt_f, ile_t, ile_f, ieq_t, ieq_f, if_tt, if_ff, Nat.add_sub_cancel]
    by_cases c : cnF (nI n) 8 = nI lk
    · rw [if_pos c]
      rw [e, if_pos c] at go
      by_cases c2 : dbF (ma st 1) (nI n) nt ≤ dbF (ma st 1) set nt
      · rw [if_pos ((lg_cmp_le _ _).mpr c2)]
        rw [if_pos c2] at go
        exact go
      · rw [if_neg (fun q => c2 ((lg_cmp_le _ _).mp q))]
        rw [if_neg c2] at go
        exact go
    · rw [if_neg c]
      rw [e, if_neg c] at go
      exact go
set_option maxRecDepth 100000 in
set_option maxHeartbeats 4000000 in
theorem f_jd194 {S : MS} {s : Nat → Int32} {nt : Nat} {p dl l3 l4 set : Int32} {k106 : Hp → Nat → Nat → Int32 → Int32 → Int32 → Int32 → Rz Int32} (h1 : s 1 = nI nt) (ht : ∀ t, t < nt → ThOk s t) (hn : nt ≤ 8) : ∀ (r t m : Nat) (st : MS) (N : Nat), t + r = nt → r < m → Wr S (jsF s set t) st → KeptOk S st → StOk st N → ∃ st' : MS, F_X12_judged_194 G k106 m (encM G b st h0) nx b p dl l3 l4 set (nI t) = k106 (encM G b st' h0) nx b p dl l3 (l4 + nI 1) ∧ Wr S (ovP S (jsF s set nt) nt) st' ∧ KeptOk S st' ∧ StOk st' N := by
  intro r
  induction r with
  | zero =>
    intro t m st N hr hm hW hK hN
    obtain ⟨m, rfl⟩ : ∃ q, m = q + 1 := ⟨m - 1, by omega⟩
    have hr : t = nt := by omega
    subst hr
    have hag := jsF_ag (s := s) (set := set) hn
    have hs := hW.s
    have a1 : jsF s set t 1 = nI t := by rw [hag 1 (by omega)]; exact h1
    obtain ⟨st2, e2, hF⟩ := f_over (G := G) (b := b) (h0 := h0) (nx := nx) (st := st) (nt := t) (by rw [hs]; exact a1) hn (fun t' q => by rw [hs]; exact ThOk_ag hag (ht t' q))
    have ov := (ovS_ovP (S0 := S) (st := st) (hW.i 10 (by decide)) (hW.i 11 (by decide)) t).1
    rw [hs] at ov
    have k22 : ma st2 22 = ma st 22 := by rw [hF.ofa 22 (by decide), (ovS_fr1 (st := st) (j := t)).ofa 22 (by decide)]
    have k23 : ma st2 23 = ma st 23 := by rw [hF.ofa 23 (by decide), (ovS_fr1 (st := st) (j := t)).ofa 23 (by decide)]
    rw [ovS_eq t, ov] at hF
    refine ⟨st2, ?_, (hW.up (s' := ovP S (jsF s set t) t)).tr hF (by decide), hK.same k22 k23, StOk_fr hF (by decide) (by decide) (StOk_msa1 hN)⟩
    rw [F_X12_judged_194_s]
    simp (maxSteps := 3000000) (disch := omega) only [hs, a1, e2, ma_msa_n, ma_msa_s, mi_msi_n, mi_msi_s, ml_msl_n, ml_msl_s, ma_msi, ma_msl, mi_msa, mi_msl, ml_msa, ml_msi, msa_msa, msi_msi, msl_msl, ck_m, gf_s, gf_image, gf_truths, gf_knownRow, gf_daysRow, gf_bests, gf_nots, gf_lookeds, gf_bestsAt, gf_worths, gf_keptKnown, gf_keptDays, gf_round, gf_sums, gf_bestRound, gf_bodies, gf_thrown, gf_hasImage, gf_act, gf_spot, gf_size, gf_isWrong, gf_open, gf_edgeThing, gf_edgeMore, gf_stamp, gf_whose, gf_wage, gf_roundMany, gf_bestSet, gf_ran, gf_kind, gf_who, gf_tellsV, pf_thrown, pf_hasImage, pf_act, pf_spot, pf_size, pf_isWrong, pf_open, pf_edgeThing, pf_edgeMore, pf_stamp, pf_whose, pf_wage, pf_roundMany, pf_bestSet, pf_ran, pf_kind, pf_who, pf_tellsV, al_s, as_s, al_image, as_image, al_truths, as_truths0, as_truths1, al_knownRow, as_knownRow, al_daysRow, as_daysRow, al_bests, as_bests, al_nots, as_nots, al_lookeds, as_lookeds, al_bestsAt, as_bestsAt, al_worths, as_worths, al_keptKnown, as_keptKnown, al_keptDays, as_keptDays, al_round, as_round, al_sums, as_sums, al_bestRound, as_bestRound, al_bodies, as_bodies, cl_some, nm_b, nn_some, qn_some, qn_none, zk_0, zk_1, zk_n0, zk_n1, nI_add, pk_mul, pk_sub, nI_leE, nI_ltE, nI_eqE, nI_lt0, nI_ge0, nI_eq0, nI_gt0, nI_le0, ilt_t, ilt_f, ile_t, ile_f, ieq_t, ieq_f, if_tt, if_ff, Nat.add_sub_cancel]
  | succ r ih =>
    intro t m st N hr hm hW hK hN
    obtain ⟨m, rfl⟩ : ∃ q, m = q + 1 := ⟨m - 1, by omega⟩
    have hag := jsF_ag (s := s) (set := set) (t := t) (by omega)
    have hs := hW.s
    have a1 : jsF s set t 1 = nI nt := by rw [hag 1 (by omega)]; exact h1
    have e : jsF s set (t + 1) = if bitI set t = nI 1 then shF (jsF s set t) t (if jsF s set t (1034 + t) < nI 500000 then nI 0 else nI 1) else jsF s set t := rfl
    have es := f_shows (G := G) (b := b) (h0 := h0) (nx := nx) (st := st) (t := t) (by rw [hs]; exact ThOk_ag hag (ht t (by omega)))
    rw [hs] at es
    rw [F_X12_judged_194_s]
    unfold F_X12_judged_241 F_X12_judged_244
    simp (maxSteps := 3000000) (disch := omega) only [hs, a1, es, ma_msa_n, ma_msa_s, mi_msi_n, mi_msi_s, ml_msl_n, ml_msl_s, ma_msi, ma_msl, mi_msa, mi_msl, ml_msa, ml_msi, msa_msa, msi_msi, msl_msl, ck_m, gf_s, gf_image, gf_truths, gf_knownRow, gf_daysRow, gf_bests, gf_nots, gf_lookeds, gf_bestsAt, gf_worths, gf_keptKnown, gf_keptDays, gf_round, gf_sums, gf_bestRound, gf_bodies, gf_thrown, gf_hasImage, gf_act, gf_spot, gf_size, gf_isWrong, gf_open, gf_edgeThing, gf_edgeMore, gf_stamp, gf_whose, gf_wage, gf_roundMany, gf_bestSet, gf_ran, gf_kind, gf_who, gf_tellsV, pf_thrown, pf_hasImage, pf_act, pf_spot, pf_size, pf_isWrong, pf_open, pf_edgeThing, pf_edgeMore, pf_stamp, pf_whose, pf_wage, pf_roundMany, pf_bestSet, pf_ran, pf_kind, pf_who, pf_tellsV, al_s, as_s, al_image, as_image, al_truths, as_truths0, as_truths1, al_knownRow, as_knownRow, al_daysRow, as_daysRow, al_bests, as_bests, al_nots, as_nots, al_lookeds, as_lookeds, al_bestsAt, as_bestsAt, al_worths, as_worths, al_keptKnown, as_keptKnown, al_keptDays, as_keptDays, al_round, as_round, al_sums, as_sums, al_bestRound, as_bestRound, al_bodies, as_bodies, cl_some, nm_b, nn_some, qn_some, qn_none, zk_0, zk_1, zk_n0, zk_n1, nI_add, pk_mul, pk_sub, nI_leE, nI_ltE, nI_eqE, nI_lt0, nI_ge0, nI_eq0, nI_gt0, nI_le0, ilt_t, ilt_f, ile_t, ile_f, ieq_t, ieq_f, if_tt, if_ff, Nat.add_sub_cancel]
    by_cases c : bitI set t = nI 1
    · have c' : set >>> (nI t &&& 31) &&& nI 1 = nI 1 := c
      rw [if_pos c']
      rw [if_pos c] at e
      have go := ih (t + 1) m (msa st 1 (jsF s set (t + 1))) N (by omega) (by omega) hW.up (hK.same (ma_msa_n (by decide)) (ma_msa_n (by decide))) (StOk_msa1 hN)
      rw [e] at go
      by_cases c2 : jsF s set t (1034 + t) < nI 500000
      · rw [if_pos c2]
        rw [if_pos c2] at go
        exact go
      · rw [if_neg c2]
        rw [if_neg c2] at go
        exact go
    · have c' : ¬ set >>> (nI t &&& 31) &&& nI 1 = nI 1 := c
      rw [if_neg c']
      rw [if_neg c] at e
      exact ih (t + 1) m st N (by omega) (by omega) (by rw [e]; exact hW) hK hN
set_option maxRecDepth 100000 in
set_option maxHeartbeats 4000000 in
theorem f_jd260 {S st : MS} {s : Nat → Int32} {l3 : Int32} (hW : Wr S s st) (hK : KeptOk S st) (hag : AgS (ma S 1) s) : F_X12_judged_260 G (encM G b st h0) nx b l3 = some (l3, encM G b (msa st 1 (ma S 1)) h0, nx) := by
  have e := f_jd263 (G := G) (b := b) (h0 := h0) (nx := nx) (l3 := l3) hK 8 0 fuelL s (by omega) (by unfold fuelL; omega) hag (fun j hj => by omega)
  rw [show msa st 1 s = st by rw [← hW.s, msa_self]] at e
  exact e
theorem ne_m5 {i : Nat} (h : i < 2 ^ 31) : ¬ nI i = -5 := fun q => by
  have h2 : (0 : Int32) ≤ nI i := nI_pos' h
  rw [q] at h2
  exact absurd h2 (by decide)
theorem jdT_or {s : Nat → Int32} {set : Int32} {nt lk i : Nat} : ∀ n : Nat, jdT s set nt lk i n = -5 ∨ jdT s set nt lk i n = nI i
  | 0 => Or.inl rfl
  | n + 1 => by
    unfold jdT
    split
    · split
      · exact jdT_or n
      · exact Or.inr rfl
    · exact jdT_or n
set_option maxRecDepth 100000 in
set_option maxHeartbeats 4000000 in
theorem f_jd106 {S : MS} {nt np lk td p days : Nat} (hB : BOk S nt np lk td) (hp : p < np) (hd : days ≤ 10) : ∀ (r i m : Nat) (st : MS) (N : Nat) (s : Nat → Int32), i + r = days → r < m → Wr S s st → KeptOk S st → AgS (ma S 1) s → StOk st N → N + 1608 * r < 2 ^ 31 → ∃ (st' : MS) (N' : Nat), F_X12_judged_106 G m (encM G b st h0) nx b (nI p) (nI days) (-5) (nI i) = some (jdR S p nt lk td r i s, encM G b st' h0, nx) ∧ Wr S (ma S 1) st' ∧ StOk st' N' ∧ N' ≤ N + 1608 * r := by
  obtain ⟨hL, hl3, ht, h2, hnp, hpr, h3, htd⟩ := hB
  have hn := hL.2.1
  have h2n := two_le hn
  intro r
  induction r with
  | zero =>
    intro i m st N s hr hm hW hK hag hN hb
    obtain ⟨m, rfl⟩ : ∃ q, m = q + 1 := ⟨m - 1, by omega⟩
    have hr : i = days := by omega
    subst hr
    refine ⟨_, N, ?_, hW.up, StOk_msa1 hN, by omega⟩
    rw [F_X12_judged_106_s]
    simp (maxSteps := 3000000) (disch := omega) only [f_jd260 hW hK hag, ma_msa_n, ma_msa_s, mi_msi_n, mi_msi_s, ml_msl_n, ml_msl_s, ma_msi, ma_msl, mi_msa, mi_msl, ml_msa, ml_msi, msa_msa, msi_msi, msl_msl, ck_m, gf_s, gf_image, gf_truths, gf_knownRow, gf_daysRow, gf_bests, gf_nots, gf_lookeds, gf_bestsAt, gf_worths, gf_keptKnown, gf_keptDays, gf_round, gf_sums, gf_bestRound, gf_bodies, gf_thrown, gf_hasImage, gf_act, gf_spot, gf_size, gf_isWrong, gf_open, gf_edgeThing, gf_edgeMore, gf_stamp, gf_whose, gf_wage, gf_roundMany, gf_bestSet, gf_ran, gf_kind, gf_who, gf_tellsV, pf_thrown, pf_hasImage, pf_act, pf_spot, pf_size, pf_isWrong, pf_open, pf_edgeThing, pf_edgeMore, pf_stamp, pf_whose, pf_wage, pf_roundMany, pf_bestSet, pf_ran, pf_kind, pf_who, pf_tellsV, al_s, as_s, al_image, as_image, al_truths, as_truths0, as_truths1, al_knownRow, as_knownRow, al_daysRow, as_daysRow, al_bests, as_bests, al_nots, as_nots, al_lookeds, as_lookeds, al_bestsAt, as_bestsAt, al_worths, as_worths, al_keptKnown, as_keptKnown, al_keptDays, as_keptDays, al_round, as_round, al_sums, as_sums, al_bestRound, as_bestRound, al_bodies, as_bodies, cl_some, nm_b, nn_some, qn_some, qn_none, zk_0, zk_1, zk_n0, zk_n1, nI_add, pk_mul, pk_sub, nI_leE, nI_ltE, nI_eqE, nI_lt0, nI_ge0, nI_eq0, nI_gt0, nI_le0, ilt_t, ilt_f, ile_t, ile_f, ieq_t, ieq_f, if_tt, if_ff, Nat.add_sub_cancel]
    rfl
  | succ r ih =>
    intro i m st N s hr hm hW hK hag hN hb
    obtain ⟨m, rfl⟩ : ∃ q, m = q + 1 := ⟨m - 1, by omega⟩
    have hs := hW.s
    have hLs : LkOk s nt lk := LkOk_ag hag hL
    have hts : ∀ t, t < nt → ThOk s t := fun t q => ThOk_ag hag (ht t q)
    have a3 : s 3 = nI td := by rw [hag 3 (by omega)]; exact h3
    obtain ⟨st2, N2, e2, f2, n2, l2⟩ := f_whomOn (G := G) (b := b) (h0 := h0) (nx := nx) (st := st) (p := p) (dd := td + i) (nt := nt) (lk := lk) (by rw [hs]; exact hLs) (by rw [hs]; exact PrOk_ag hag (hpr p hp)) (by rw [hs]; exact hts) hN (by omega) (by omega)
    have W2 : Wr S s st2 := hW.tr f2 (by decide)
    have hs2 := W2.s
    rw [whF_fr hW.fr (by decide) (by decide) (by decide)] at e2
    have er : jdR S p nt lk td (r + 1) i s = if jdT s (whF (msa S 1 s) p (td + i) nt lk) nt lk i (2 ^ nt) = -5 then jdR S p nt lk td r (i + 1) (ovP S (jsF s (whF (msa S 1 s) p (td + i) nt lk) nt) nt) else jdT s (whF (msa S 1 s) p (td + i) nt lk) nt lk i (2 ^ nt) := rfl
    generalize whF (msa S 1 s) p (td + i) nt lk = set at e2 er
    have e137 := f_jd137 (G := G) (b := b) (h0 := h0) (nx := nx) (st := st2) (i := i) (p := nI p) (dl := nI days) (set := set) (k106 := F_X12_judged_106 G m) (by rw [hs2]; exact hLs) (2 ^ nt) 0 fuelL (by omega) (by unfold fuelL; omega)
    rw [show jdT (ma st2 1) set nt lk i 0 = -5 from rfl, hs2] at e137
    obtain ⟨st3, e3, W3, K3, n3⟩ := f_jd194 (G := G) (b := b) (h0 := h0) (nx := nx) (S := S) (s := s) (p := nI p) (dl := nI days) (l3 := jdT s set nt lk i (2 ^ nt)) (l4 := nI i) (set := set) (k106 := F_X12_judged_106 G m) hLs.1 hts hn nt 0 fuelL st2 N2 (by omega) (by unfold fuelL; omega) W2 (hK.same (f2.ofa 22 (by decide)) (f2.ofa 23 (by decide))) n2
    have ag3 : AgS (ma S 1) (ovP S (jsF s set nt) nt) := (hag.trans (jsF_ag hn)).trans (ovP_ag hn)
    have go : F_X12_judged_106 G (m + 1) (encM G b st h0) nx b (nI p) (nI days) (-5) (nI i) = F_X12_judged_106 G m (encM G b st3 h0) nx b (nI p) (nI days) (jdT s set nt lk i (2 ^ nt)) (nI (i + 1)) := by
      rw [F_X12_judged_106_s]
      simp (maxSteps := 3000000) (disch := omega) only [hs, a3, e2, ma_msa_n, ma_msa_s, mi_msi_n, mi_msi_s, ml_msl_n, ml_msl_s, ma_msi, ma_msl, mi_msa, mi_msl, ml_msa, ml_msi, msa_msa, msi_msi, msl_msl, ck_m, gf_s, gf_image, gf_truths, gf_knownRow, gf_daysRow, gf_bests, gf_nots, gf_lookeds, gf_bestsAt, gf_worths, gf_keptKnown, gf_keptDays, gf_round, gf_sums, gf_bestRound, gf_bodies, gf_thrown, gf_hasImage, gf_act, gf_spot, gf_size, gf_isWrong, gf_open, gf_edgeThing, gf_edgeMore, gf_stamp, gf_whose, gf_wage, gf_roundMany, gf_bestSet, gf_ran, gf_kind, gf_who, gf_tellsV, pf_thrown, pf_hasImage, pf_act, pf_spot, pf_size, pf_isWrong, pf_open, pf_edgeThing, pf_edgeMore, pf_stamp, pf_whose, pf_wage, pf_roundMany, pf_bestSet, pf_ran, pf_kind, pf_who, pf_tellsV, al_s, as_s, al_image, as_image, al_truths, as_truths0, as_truths1, al_knownRow, as_knownRow, al_daysRow, as_daysRow, al_bests, as_bests, al_nots, as_nots, al_lookeds, as_lookeds, al_bestsAt, as_bestsAt, al_worths, as_worths, al_keptKnown, as_keptKnown, al_keptDays, as_keptDays, al_round, as_round, al_sums, as_sums, al_bestRound, as_bestRound, al_bodies, as_bodies, cl_some, nm_b, nn_some, qn_some, qn_none, zk_0, zk_1, zk_n0, zk_n1, nI_add, pk_mul, pk_sub, nI_leE, nI_ltE, nI_eqE, nI_lt0, nI_ge0, nI_eq0, nI_gt0, nI_le0, ilt_t, ilt_f, ile_t, ile_f, ieq_t, ieq_f, if_tt, if_ff, Nat.add_sub_cancel]
      rw [e137, e3, nI_add]
    rw [go, er]
    by_cases c : jdT s set nt lk i (2 ^ nt) = -5
    · rw [if_pos c, c]
      obtain ⟨st4, N4, e4, w4, n4, l4⟩ := ih (i + 1) m st3 N2 _ (by omega) (by omega) W3 K3 ag3 n3 (by omega)
      exact ⟨st4, N4, e4, w4, n4, by omega⟩
    · rw [if_neg c]
      obtain ⟨m, rfl⟩ : ∃ q, m = q + 1 := ⟨m - 1, by omega⟩
      refine ⟨_, N2, ?_, W3.up, StOk_msa1 n3, by omega⟩
      have e260 := fun l => f_jd260 (G := G) (b := b) (h0 := h0) (nx := nx) (l3 := l) W3 K3 ag3
      rw [F_X12_judged_106_s]
      simp (maxSteps := 3000000) (disch := omega) only [e260, ma_msa_n, ma_msa_s, mi_msi_n, mi_msi_s, ml_msl_n, ml_msl_s, ma_msi, ma_msl, mi_msa, mi_msl, ml_msa, ml_msi, msa_msa, msi_msi, msl_msl, ck_m, gf_s, gf_image, gf_truths, gf_knownRow, gf_daysRow, gf_bests, gf_nots, gf_lookeds, gf_bestsAt, gf_worths, gf_keptKnown, gf_keptDays, gf_round, gf_sums, gf_bestRound, gf_bodies, gf_thrown, gf_hasImage, gf_act, gf_spot, gf_size, gf_isWrong, gf_open, gf_edgeThing, gf_edgeMore, gf_stamp, gf_whose, gf_wage, gf_roundMany, gf_bestSet, gf_ran, gf_kind, gf_who, gf_tellsV, pf_thrown, pf_hasImage, pf_act, pf_spot, pf_size, pf_isWrong, pf_open, pf_edgeThing, pf_edgeMore, pf_stamp, pf_whose, pf_wage, pf_roundMany, pf_bestSet, pf_ran, pf_kind, pf_who, pf_tellsV, al_s, as_s, al_image, as_image, al_truths, as_truths0, as_truths1, al_knownRow, as_knownRow, al_daysRow, as_daysRow, al_bests, as_bests, al_nots, as_nots, al_lookeds, as_lookeds, al_bestsAt, as_bestsAt, al_worths, as_worths, al_keptKnown, as_keptKnown, al_keptDays, as_keptDays, al_round, as_round, al_sums, as_sums, al_bestRound, as_bestRound, al_bodies, as_bodies, cl_some, nm_b, nn_some, qn_some, qn_none, zk_0, zk_1, zk_n0, zk_n1, nI_add, pk_mul, pk_sub, nI_leE, nI_ltE, nI_eqE, nI_lt0, nI_ge0, nI_eq0, nI_gt0, nI_le0, ilt_t, ilt_f, ile_t, ile_f, ieq_t, ieq_f, if_tt, if_ff, Nat.add_sub_cancel]
      rw [if_neg c]
      by_cases c2 : days ≤ i + 1
      · rw [if_pos c2]
      · rw [if_neg c2]
def judgedF (S : MS) (nt lk td : Nat) (p d : Int32) : Int32 :=
  if bIn p (nI 0) (ma S 1 2 - nI 1) = 0 then -1 else if bIn d (nI 1) (nI 10) = 0 then -2
  else if ma S 1 (1070 + p.toNatClampNeg) = nI 6 then (if ma S 1 (1094 + p.toNatClampNeg) = 0 then -3 else jdR S p.toNatClampNeg nt lk td d.toNatClampNeg 0 (ma S 1)) else -3
set_option maxRecDepth 100000 in
set_option maxHeartbeats 4000000 in
theorem f_judged {st : MS} {nt np lk td N : Nat} (hB : BOk st nt np lk td) (hN : StOk st N) (hb : N + 16080 < 2 ^ 31) (p d : Int32) : ∃ (st' : MS) (N' : Nat), F_X12_judged G (encM G b st h0) nx b p d = some (judgedF st nt lk td p d, encM G b st' h0, nx) ∧ Wr st (ma st 1) st' ∧ StOk st' N' ∧ N' ≤ N + 16080 := by
  have hB0 := hB
  obtain ⟨hL, hl3, ht, h2, hnp, hp, h3, htd⟩ := hB
  unfold F_X12_judged F_X12_judged_51 judgedF
  simp (maxSteps := 3000000) (disch := omega) only [f_isPlan, f_in, ma_msa_n, ma_msa_s, mi_msi_n, mi_msi_s, ml_msl_n, ml_msl_s, ma_msi, ma_msl, mi_msa, mi_msl, ml_msa, ml_msi, msa_msa, msi_msi, msl_msl, ck_m, gf_s, gf_image, gf_truths, gf_knownRow, gf_daysRow, gf_bests, gf_nots, gf_lookeds, gf_bestsAt, gf_worths, gf_keptKnown, gf_keptDays, gf_round, gf_sums, gf_bestRound, gf_bodies, gf_thrown, gf_hasImage, gf_act, gf_spot, gf_size, gf_isWrong, gf_open, gf_edgeThing, gf_edgeMore, gf_stamp, gf_whose, gf_wage, gf_roundMany, gf_bestSet, gf_ran, gf_kind, gf_who, gf_tellsV, pf_thrown, pf_hasImage, pf_act, pf_spot, pf_size, pf_isWrong, pf_open, pf_edgeThing, pf_edgeMore, pf_stamp, pf_whose, pf_wage, pf_roundMany, pf_bestSet, pf_ran, pf_kind, pf_who, pf_tellsV, al_s, as_s, al_image, as_image, al_truths, as_truths0, as_truths1, al_knownRow, as_knownRow, al_daysRow, as_daysRow, al_bests, as_bests, al_nots, as_nots, al_lookeds, as_lookeds, al_bestsAt, as_bestsAt, al_worths, as_worths, al_keptKnown, as_keptKnown, al_keptDays, as_keptDays, al_round, as_round, al_sums, as_sums, al_bestRound, as_bestRound, al_bodies, as_bodies, cl_some, nm_b, nn_some, qn_some, qn_none, zk_0, zk_1, zk_n0, zk_n1, nI_add, pk_mul, pk_sub, nI_leE, nI_ltE, nI_eqE, nI_lt0, nI_ge0, nI_eq0, nI_gt0, nI_le0, ilt_t, ilt_f, ile_t, ile_f, ieq_t, ieq_f, if_tt, if_ff, Nat.add_sub_cancel]
  rw [h2]
  by_cases c1 : bIn p (nI 0) (nI np - nI 1) = 0
  · rw [if_pos c1, if_pos c1]
    exact ⟨st, N, rfl, Wr.rf, hN, by omega⟩
  · rw [if_neg c1, if_neg c1]
    by_cases c2 : bIn d (nI 1) (nI 10) = 0
    · rw [if_pos c2, if_pos c2]
      exact ⟨st, N, rfl, Wr.rf, hN, by omega⟩
    · rw [if_neg c2, if_neg c2]
      obtain ⟨p, hp1, rfl⟩ := bIn_nI (by omega) c1
      obtain ⟨d, hd1, hd3, rfl⟩ := bIn_lh (by omega) (by omega) c2
      rw [nI_clamp (by omega), nI_clamp (by omega)]
      simp (maxSteps := 3000000) (disch := omega) only [ma_msa_n, ma_msa_s, mi_msi_n, mi_msi_s, ml_msl_n, ml_msl_s, ma_msi, ma_msl, mi_msa, mi_msl, ml_msa, ml_msi, msa_msa, msi_msi, msl_msl, ck_m, gf_s, gf_image, gf_truths, gf_knownRow, gf_daysRow, gf_bests, gf_nots, gf_lookeds, gf_bestsAt, gf_worths, gf_keptKnown, gf_keptDays, gf_round, gf_sums, gf_bestRound, gf_bodies, gf_thrown, gf_hasImage, gf_act, gf_spot, gf_size, gf_isWrong, gf_open, gf_edgeThing, gf_edgeMore, gf_stamp, gf_whose, gf_wage, gf_roundMany, gf_bestSet, gf_ran, gf_kind, gf_who, gf_tellsV, pf_thrown, pf_hasImage, pf_act, pf_spot, pf_size, pf_isWrong, pf_open, pf_edgeThing, pf_edgeMore, pf_stamp, pf_whose, pf_wage, pf_roundMany, pf_bestSet, pf_ran, pf_kind, pf_who, pf_tellsV, al_s, as_s, al_image, as_image, al_truths, as_truths0, as_truths1, al_knownRow, as_knownRow, al_daysRow, as_daysRow, al_bests, as_bests, al_nots, as_nots, al_lookeds, as_lookeds, al_bestsAt, as_bestsAt, al_worths, as_worths, al_keptKnown, as_keptKnown, al_keptDays, as_keptDays, al_round, as_round, al_sums, as_sums, al_bestRound, as_bestRound, al_bodies, as_bodies, cl_some, nm_b, nn_some, qn_some, qn_none, zk_0, zk_1, zk_n0, zk_n1, nI_add, pk_mul, pk_sub, nI_leE, nI_ltE, nI_eqE, nI_lt0, nI_ge0, nI_eq0, nI_gt0, nI_le0, ilt_t, ilt_f, ile_t, ile_f, ieq_t, ieq_f, if_tt, if_ff, Nat.add_sub_cancel]
      by_cases c3 : ma st 1 (1070 + p) = nI 6
      · rw [if_pos c3, if_pos c3]
        by_cases c4 : ma st 1 (1094 + p) = 0
        · rw [if_pos c4, if_pos c4]
          exact ⟨st, N, rfl, Wr.rf, hN, by omega⟩
        · rw [if_neg c4, if_neg c4]
          obtain ⟨st1, e1, f1, k1⟩ := f_jd56 (G := G) (b := b) (h0 := h0) (nx := nx) (st := st) (p := nI p) (dl := nI d) 8 0 st fuelL (by omega) FrM.rf (fun j hj => by omega) (by unfold fuelL; omega)
          obtain ⟨st', N', e, w', n', l'⟩ := f_jd106 (G := G) (b := b) (h0 := h0) (nx := nx) hB0 hp1 hd3 d 0 fuelL st1 N (ma st 1) (by omega) (by unfold fuelL; omega) (Wr.rf.tr f1 (by decide)) k1 AgS.rf (StOk_fr f1 (by decide) (by decide) hN) (by omega)
          exact ⟨st', N', e1.trans e, w', n', by omega⟩
      · rw [if_neg c3, if_neg c3]
        exact ⟨st, N, rfl, Wr.rf, hN, by omega⟩
end N1
