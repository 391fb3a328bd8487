/-! THE REFERENCE: a day in earnest -/
/-- alike but for the date and what days change -/
def AgR (s s' : Nat → Int32) : Prop := ∀ k : Nat, k ≠ 3 → (k < 1026 ∨ 1066 ≤ k) → s' k = s k
theorem AgR.rf {s : Nat → Int32} : AgR s s := fun _ _ _ => rfl
theorem AgR.trans {a b c : Nat → Int32} (h1 : AgR a b) (h2 : AgR b c) : AgR a c := fun k h3 h4 => (h2 k h3 h4).trans (h1 k h3 h4)
theorem AgR.up {s : Nat → Int32} {k : Nat} {x : Int32} (h : k = 3 ∨ (1026 ≤ k ∧ k < 1066)) : AgR s (upK s k x) := fun j h3 h4 => upK_n (by omega)
theorem AgS.agR {s s' : Nat → Int32} (h : AgS s s') : AgR s s' := fun k _ h2 => h k (by omega)
theorem sN_agR {s s' : Nat → Int32} (h : AgR s s') {k : Nat} (h3 : k ≠ 3) (hk : k < 1026 ∨ 1066 ≤ k) : sN s' k = sN s k := by unfold sN; rw [h k h3 hk]
theorem codeL_agR {s s' : Nat → Int32} (h : AgR s s') {a : Nat} (ha : a < 6) (hl : sN s (130 + a) ≤ 140) : codeL s' a = codeL s a := by
  unfold codeL
  rw [sN_agR h (by omega) (by omega)]
  refine List.map_congr_left (fun j hj => h _ (by omega) ?_)
  have := List.mem_range.mp hj
  omega
theorem CodeOk_agR {s s' : Nat → Int32} (h : AgR s s') {a : Nat} (ha : a < 6) (hc : CodeOk s a) : CodeOk s' a := by
  obtain ⟨h1, h2, h3⟩ := hc
  refine ⟨?_, ?_, ?_⟩
  · rw [sN_agR h (by omega) (by omega), h _ (by omega) (by omega)]; exact h1
  · rw [sN_agR h (by omega) (by omega)]; exact h2
  · rw [codeL_agR h ha h2]; exact h3
theorem ThOk_agR {s s' : Nat → Int32} (h : AgR s s') {t : Nat} (ht : ThOk s t) : ThOk s' t := by
  obtain ⟨h1, h2, h3, h4⟩ := ht
  have e := sN_agR h (k := 1010 + t) (by omega) (by omega)
  refine ⟨h1, ?_, ?_, ?_⟩
  · rw [e, h _ (by omega) (by omega)]; exact h2
  · rw [e]; exact h3
  · rw [e]; exact CodeOk_agR h h3 h4
theorem valF_agR {s s' : Nat → Int32} (h : AgR s s') {t w : Nat} (ht : ThOk s t) (hw : w < 4) : valF s' t w = valF s t w := by
  obtain ⟨h1, h2, h3, h4⟩ := ht
  unfold valF
  rw [sN_agR h (k := 1010 + t) (by omega) (by omega)]
  exact h _ (by omega) (by omega)
theorem LkOk_agR {s s' : Nat → Int32} (h : AgR s s') {nt lk : Nat} (hl : LkOk s nt lk) : LkOk s' nt lk := by
  obtain ⟨h1, h2, h3, h4⟩ := hl
  refine ⟨(h 1 (by omega) (by omega)).trans h1, h2, ?_, h4⟩
  unfold lkF
  rw [h 1 (by omega) (by omega), h 4 (by omega) (by omega)]
  exact h3
theorem PrOk_agR {s s' : Nat → Int32} (h : AgR s s') {p : Nat} (hp : PrOk s p) : PrOk s' p := by
  obtain ⟨⟨q1, q2, q3, q4, q5⟩, q6, q7⟩ := hp
  have e1 := h (1070 + p) (by omega) (by omega)
  have e2 := h (1082 + p) (by omega) (by omega)
  have e3 := h (1094 + p) (by omega) (by omega)
  have f1 := sN_agR h (k := 1070 + p) (by omega) (by omega)
  have f2 := sN_agR h (k := 1082 + p) (by omega) (by omega)
  have f3 := sN_agR h (k := 1094 + p) (by omega) (by omega)
  exact ⟨⟨q1, by rw [e1, f1]; exact q2, by rw [f1]; exact q3, by rw [e2, f2]; exact q4, by rw [f2]; exact q5⟩, by rw [e3, f3]; exact q6, by rw [f3]; exact q7⟩
/-- scratch of the reference's acts -/
def KS : List Nat := 27 :: KR
/-- as S with the row s, but for scratch -/
def Wr (S : MS) (s : Nat → Int32) (st : MS) : Prop := FrM KS (msa S 1 s) st
theorem Wr.rf {S : MS} : Wr S (ma S 1) S := by
  unfold Wr
  rw [msa_self]
  exact FrM.rf
theorem Wr.s {S st : MS} {s : Nat → Int32} (h : Wr S s st) : ma st 1 = s := (FrM.ofa h 1 (by decide)).trans ma_msa_s
theorem Wr.up {S st : MS} {s s' : Nat → Int32} (h : Wr S s st) : Wr S s' (msa st 1 s') := by
  have := fr_cg1 (f := s') h
  rw [msa_msa] at this
  exact this
theorem Wr.tr {S st st' : MS} {s : Nat → Int32} {ks : List Nat} (h : Wr S s st) (h1 : FrM ks st st') (hk : ∀ k ∈ ks, k ∈ KS) : Wr S s st' := (FrM.trans h h1).mono (fun k hk' => (List.mem_append.mp hk').elim id (hk k))
theorem Wr.i {S st : MS} {s : Nat → Int32} (h : Wr S s st) (k : Nat) (hk : k ∉ KS) : mi st k = mi S k := FrM.of1 h k hk
theorem Wr.fr {S st : MS} {s : Nat → Int32} (h : Wr S s st) : FrM KS (msa S 1 s) st := h
theorem StOk_msa1 {st : MS} {N : Nat} {s : Nat → Int32} (h : StOk st N) : StOk (msa st 1 s) N := StOk_fr (FrM.msa (k := 1) (ks := [1]) (by decide)) (by decide) (by decide) h
def shF (s : Nat → Int32) (t : Nat) (x : Int32) : Nat → Int32 := upK (upK s (1034 + t) (if x = 0 ∧ valF s t 3 ≤ 0 then nI 0 else nI 1000000)) (1042 + t) (nI 0)
theorem shF_ag {s : Nat → Int32} {t : Nat} {x : Int32} (ht : t < 8) : AgS s (shF s t x) := (AgS.up (by omega) (by omega)).trans (AgS.up (by omega) (by omega))
section M9
variable {G : Gx} {b : Nat} {h0 : Hp} {nx : Nat}
set_option maxRecDepth 100000 in
set_option maxHeartbeats 4000000 in
theorem f_shows {st : MS} {t : Nat} (ht : ThOk (ma st 1) t) (x : Int32) : F_X12_shows G (encM G b st h0) nx b (nI t) x = some ((), encM G b (msa st 1 (shF (ma st 1) t x)) h0, nx) := by
  have t8 := ht.1
  have ev := f_value (G := G) (b := b) (h0 := h0) (nx := nx) ht (show 3 < 4 by decide)
  unfold F_X12_shows F_X12_shows_22 F_X12_shows_28 shF
  simp (maxSteps := 3000000) (disch := omega) only [ev, ma_msa_n, ma_msa_s, mi_msi_n, mi_msi_s, ml_msl_n, ml_msl_s, ma_msi, ma_msl, mi_msa, mi_msl, ml_msa, ml_msi, msa_msa, msi_msi, msl_msl, ck_m, gf_s, gf_image, gf_truths, gf_knownRow, gf_daysRow, gf_bests, gf_nots, gf_lookeds, gf_bestsAt, gf_worths, gf_keptKnown, gf_keptDays, gf_round, gf_sums, gf_bestRound, gf_bodies, gf_thrown, gf_hasImage, gf_act, gf_spot, gf_size, gf_isWrong, gf_open, gf_edgeThing, gf_edgeMore, gf_stamp, gf_whose, gf_wage, gf_roundMany, gf_bestSet, gf_ran, gf_kind, gf_who, gf_tellsV, pf_thrown, pf_hasImage, pf_act, pf_spot, pf_size, pf_isWrong, pf_open, pf_edgeThing, pf_edgeMore, pf_stamp, pf_whose, pf_wage, pf_roundMany, pf_bestSet, pf_ran, pf_kind, pf_who, pf_tellsV, al_s, as_s, al_image, as_image, al_truths, as_truths0, as_truths1, al_knownRow, as_knownRow, al_daysRow, as_daysRow, al_bests, as_bests, al_nots, as_nots, al_lookeds, as_lookeds, al_bestsAt, as_bestsAt, al_worths, as_worths, al_keptKnown, as_keptKnown, al_keptDays, as_keptDays, al_round, as_round, al_sums, as_sums, al_bestRound, as_bestRound, al_bodies, as_bodies, cl_some, nm_b, nn_some, qn_some, qn_none, zk_0, zk_1, zk_n0, zk_n1, nI_add, pk_mul, pk_sub, nI_leE, nI_ltE, nI_eqE, nI_lt0, nI_ge0, nI_eq0, nI_gt0, nI_le0, ilt_t, ilt_f, ile_t, ile_f, ieq_t, ieq_f, if_tt, if_ff, Nat.add_sub_cancel]
  by_cases c : x = 0
  · rw [if_pos c]
    by_cases c2 : valF (ma st 1) t 3 ≤ 0
    · rw [if_pos c2, if_pos ⟨c, c2⟩]
    · rw [if_neg c2, if_neg (fun q => c2 q.2)]
  · rw [if_neg c, if_neg (fun q => c q.1)]
/-- doubt of a set -/
def dbF (s : Nat → Int32) (set : Int32) : Nat → Int64
  | 0 => 0
  | t + 1 => dbF s set t + (if bitI set t = nI 1 then (nI 1000000 - s (1034 + t)).toInt64 else 0)
set_option maxRecDepth 100000 in
set_option maxHeartbeats 4000000 in
theorem f_doubt_loop {st : MS} {nt : Nat} {set : Int32} (h1 : ma st 1 1 = nI nt) (hn : nt ≤ 8) : ∀ (r t m : Nat), t + r = nt → r < m → F_X12_doubt_5 G m (encM G b st h0) nx b set (dbF (ma st 1) set t) (nI t) = some (dbF (ma st 1) set nt, encM G b st h0, nx) := by
  intro r
  induction r with
  | zero =>
    intro t m hr hm
    obtain ⟨m, rfl⟩ : ∃ q, m = q + 1 := ⟨m - 1, by omega⟩
    have hr : t = nt := by omega
    subst hr
    rw [F_X12_doubt_5_s]
    simp (maxSteps := 3000000) (disch := omega) only [h1, ma_msa_n, ma_msa_s, mi_msi_n, mi_msi_s, ml_msl_n, ml_msl_s, ma_msi, ma_msl, mi_msa, mi_msl, ml_msa, ml_msi, msa_msa, msi_msi, msl_msl, ck_m, gf_s, gf_image, gf_truths, gf_knownRow, gf_daysRow, gf_bests, gf_nots, gf_lookeds, gf_bestsAt, gf_worths, gf_keptKnown, gf_keptDays, gf_round, gf_sums, gf_bestRound, gf_bodies, gf_thrown, gf_hasImage, gf_act, gf_spot, gf_size, gf_isWrong, gf_open, gf_edgeThing, gf_edgeMore, gf_stamp, gf_whose, gf_wage, gf_roundMany, gf_bestSet, gf_ran, gf_kind, gf_who, gf_tellsV, pf_thrown, pf_hasImage, pf_act, pf_spot, pf_size, pf_isWrong, pf_open, pf_edgeThing, pf_edgeMore, pf_stamp, pf_whose, pf_wage, pf_roundMany, pf_bestSet, pf_ran, pf_kind, pf_who, pf_tellsV, al_s, as_s, al_image, as_image, al_truths, as_truths0, as_truths1, al_knownRow, as_knownRow, al_daysRow, as_daysRow, al_bests, as_bests, al_nots, as_nots, al_lookeds, as_lookeds, al_bestsAt, as_bestsAt, al_worths, as_worths, al_keptKnown, as_keptKnown, al_keptDays, as_keptDays, al_round, as_round, al_sums, as_sums, al_bestRound, as_bestRound, al_bodies, as_bodies, cl_some, nm_b, nn_some, qn_some, qn_none, zk_0, zk_1, zk_n0, zk_n1, nI_add, pk_mul, pk_sub, nI_leE, nI_ltE, nI_eqE, nI_lt0, nI_ge0, nI_eq0, nI_gt0, nI_le0, ilt_t, ilt_f, ile_t, ile_f, ieq_t, ieq_f, if_tt, if_ff, Nat.add_sub_cancel]
  | succ r ih =>
    intro t m hr hm
    obtain ⟨m, rfl⟩ : ∃ q, m = q + 1 := ⟨m - 1, by omega⟩
    have go := ih (t + 1) m (by omega) (by omega)
    have e : dbF (ma st 1) set (t + 1) = dbF (ma st 1) set t + (if bitI set t = nI 1 then (nI 1000000 - ma st 1 (1034 + t)).toInt64 else 0) := rfl
    rw [F_X12_doubt_5_s]
    unfold F_X12_doubt_46
    simp (maxSteps := 3000000) (disch := omega) only [h1, ma_msa_n, ma_msa_s, mi_msi_n, mi_msi_s, ml_msl_n, ml_msl_s, ma_msi, ma_msl, mi_msa, mi_msl, ml_msa, ml_msi, msa_msa, msi_msi, msl_msl, ck_m, gf_s, gf_image, gf_truths, gf_knownRow, gf_daysRow, gf_bests, gf_nots, gf_lookeds, gf_bestsAt, gf_worths, gf_keptKnown, gf_keptDays, gf_round, gf_sums, gf_bestRound, gf_bodies, gf_thrown, gf_hasImage, gf_act, gf_spot, gf_size, gf_isWrong, gf_open, gf_edgeThing, gf_edgeMore, gf_stamp, gf_whose, gf_wage, gf_roundMany, gf_bestSet, gf_ran, gf_kind, gf_who, gf_tellsV, pf_thrown, pf_hasImage, pf_act, pf_spot, pf_size, pf_isWrong, pf_open, pf_edgeThing, pf_edgeMore, pf_stamp, pf_whose, pf_wage, pf_roundMany, pf_bestSet, pf_ran, pf_kind, pf_who, pf_tellsV, al_s, as_s, al_image, as_image, al_truths, as_truths0, as_truths1, al_knownRow, as_knownRow, al_daysRow, as_daysRow, al_bests, as_bests, al_nots, as_nots, al_lookeds, as_lookeds, al_bestsAt, as_bestsAt, al_worths, as_worths, al_keptKnown, as_keptKnown, al_keptDays, as_keptDays, al_round, as_round, al_sums, as_sums, al_bestRound, as_bestRound, al_bodies, as_bodies, cl_some, nm_b, nn_some, qn_some, qn_none, zk_0, zk_1, zk_n0, zk_n1, nI_add, pk_mul, pk_sub, nI_leE, nI_ltE, nI_eqE, nI_lt0, nI_ge0, nI_eq0, nI_gt0, nI_le0, ilt_t, ilt_f, ile_t, ile_f, ieq_t, ieq_f, if_tt, if_ff, Nat.add_sub_cancel]
    by_cases c : bitI set t = nI 1
    · have c' : set >>> (nI t &&& 31) &&& nI 1 = nI 1 := c
      rw [if_pos c']
      rw [e, if_pos c] at go
      exact go
    · have c' : ¬ set >>> (nI t &&& 31) &&& nI 1 = nI 1 := c
      rw [if_neg c']
      rw [e, if_neg c] at go
      exact go
theorem f_doubt {st : MS} {nt : Nat} {set : Int32} (h1 : ma st 1 1 = nI nt) (hn : nt ≤ 8) : F_X12_doubt G (encM G b st h0) nx b set = some (dbF (ma st 1) set nt, encM G b st h0, nx) := f_doubt_loop h1 hn nt 0 fuelL (by omega) (by unfold fuelL; omega)
/-- a look in earnest: what it costs, what is known then -/
def lnA (s : Nat → Int32) (t : Nat) : Int64 := -1000 * (valF s t 2 + (if s (1026 + t) = nI 1 then nI 0 else valF s t 3)).toInt64
def lnC (s : Nat → Int32) (t : Nat) : Nat → Int32 := if s (1026 + t) = nI 1 then upK s (1050 + t) (s (1050 + t) + nI 1) else upK s (1058 + t) (s (1058 + t) + nI 1)
def lnF (s : Nat → Int32) (t : Nat) : Nat → Int32 := upK (shF (lnC s t) t (if s (1026 + t) = nI 1 then nI 1 else nI 0)) (1026 + t) (if s (1026 + t) = nI 1 then nI 1 else if valF s t 3 ≤ 0 then nI 0 else nI 1)
theorem lnC_ag {s : Nat → Int32} {t : Nat} (ht : t < 8) : AgR s (lnC s t) := by
  unfold lnC
  split
  · exact AgR.up (by omega)
  · exact AgR.up (by omega)
theorem lnF_ag {s : Nat → Int32} {t : Nat} (ht : t < 8) : AgR s (lnF s t) := ((lnC_ag ht).trans (shF_ag ht).agR).trans (AgR.up (by omega))
set_option maxRecDepth 100000 in
set_option maxHeartbeats 4000000 in
theorem f_lookNow {st : MS} {t : Nat} (ht : ThOk (ma st 1) t) : F_X12_lookNow G (encM G b st h0) nx b (nI t) = some (lnA (ma st 1) t, encM G b (msa st 1 (lnF (ma st 1) t)) h0, nx) := by
  have t8 := ht.1
  have aC := lnC_ag (s := ma st 1) t8
  have htC : ThOk (ma (msa st 1 (lnC (ma st 1) t)) 1) t := by rw [ma_msa_s]; exact ThOk_agR aC ht
  have ev3 := f_value (G := G) (b := b) (h0 := h0) (nx := nx) htC (show 3 < 4 by decide)
  have es := f_shows (G := G) (b := b) (h0 := h0) (nx := nx) htC
  have htF : ThOk (ma (msa st 1 (lnF (ma st 1) t)) 1) t := by rw [ma_msa_s]; exact ThOk_agR (lnF_ag t8) ht
  have ev2 := f_value (G := G) (b := b) (h0 := h0) (nx := nx) htF (show 2 < 4 by decide)
  rw [ma_msa_s, valF_agR aC ht (by decide)] at ev3
  rw [ma_msa_s, valF_agR (lnF_ag t8) ht (by decide)] at ev2
  rw [ma_msa_s] at es
  unfold F_X12_lookNow F_X12_lookNow_19 F_X12_lookNow_41 F_X12_lookNow_60 F_X12_lookNow_84 F_X12_lookNow_89
  simp (maxSteps := 3000000) (disch := omega) only [ma_msa_n, ma_msa_s, mi_msi_n, mi_msi_s, ml_msl_n, ml_msl_s, ma_msi, ma_msl, mi_msa, mi_msl, ml_msa, ml_msi, msa_msa, msi_msi, msl_msl, ck_m, gf_s, gf_image, gf_truths, gf_knownRow, gf_daysRow, gf_bests, gf_nots, gf_lookeds, gf_bestsAt, gf_worths, gf_keptKnown, gf_keptDays, gf_round, gf_sums, gf_bestRound, gf_bodies, gf_thrown, gf_hasImage, gf_act, gf_spot, gf_size, gf_isWrong, gf_open, gf_edgeThing, gf_edgeMore, gf_stamp, gf_whose, gf_wage, gf_roundMany, gf_bestSet, gf_ran, gf_kind, gf_who, gf_tellsV, pf_thrown, pf_hasImage, pf_act, pf_spot, pf_size, pf_isWrong, pf_open, pf_edgeThing, pf_edgeMore, pf_stamp, pf_whose, pf_wage, pf_roundMany, pf_bestSet, pf_ran, pf_kind, pf_who, pf_tellsV, al_s, as_s, al_image, as_image, al_truths, as_truths0, as_truths1, al_knownRow, as_knownRow, al_daysRow, as_daysRow, al_bests, as_bests, al_nots, as_nots, al_lookeds, as_lookeds, al_bestsAt, as_bestsAt, al_worths, as_worths, al_keptKnown, as_keptKnown, al_keptDays, as_keptDays, al_round, as_round, al_sums, as_sums, al_bestRound, as_bestRound, al_bodies, as_bodies, cl_some, nm_b, nn_some, qn_some, qn_none, zk_0, zk_1, zk_n0, zk_n1, nI_add, pk_mul, pk_sub, nI_leE, nI_ltE, nI_eqE, nI_lt0, nI_ge0, nI_eq0, nI_gt0, nI_le0, ilt_t, ilt_f, ile_t, ile_f, ieq_t, ieq_f, if_tt, if_ff, Nat.add_sub_cancel]
  unfold lnA
  by_cases c : ma st 1 (1026 + t) = nI 1
  · have eC : lnC (ma st 1) t = upK (ma st 1) (1050 + t) (ma st 1 (1050 + t) + nI 1) := by unfold lnC; rw [if_pos c]
    have eF : lnF (ma st 1) t = upK (shF (lnC (ma st 1) t) t (nI 1)) (1026 + t) (nI 1) := by unfold lnF; rw [if_pos c, if_pos c]
    rw [if_pos c, if_pos c]
    rw [← eC]
    have e1 := es (nI 1)
    rw [msa_msa] at e1
    rw [eF] at ev2 ⊢
    simp (maxSteps := 3000000) (disch := omega) only [e1, ev2, ma_msa_n, ma_msa_s, mi_msi_n, mi_msi_s, ml_msl_n, ml_msl_s, ma_msi, ma_msl, mi_msa, mi_msl, ml_msa, ml_msi, msa_msa, msi_msi, msl_msl, ck_m, gf_s, gf_image, gf_truths, gf_knownRow, gf_daysRow, gf_bests, gf_nots, gf_lookeds, gf_bestsAt, gf_worths, gf_keptKnown, gf_keptDays, gf_round, gf_sums, gf_bestRound, gf_bodies, gf_thrown, gf_hasImage, gf_act, gf_spot, gf_size, gf_isWrong, gf_open, gf_edgeThing, gf_edgeMore, gf_stamp, gf_whose, gf_wage, gf_roundMany, gf_bestSet, gf_ran, gf_kind, gf_who, gf_tellsV, pf_thrown, pf_hasImage, pf_act, pf_spot, pf_size, pf_isWrong, pf_open, pf_edgeThing, pf_edgeMore, pf_stamp, pf_whose, pf_wage, pf_roundMany, pf_bestSet, pf_ran, pf_kind, pf_who, pf_tellsV, al_s, as_s, al_image, as_image, al_truths, as_truths0, as_truths1, al_knownRow, as_knownRow, al_daysRow, as_daysRow, al_bests, as_bests, al_nots, as_nots, al_lookeds, as_lookeds, al_bestsAt, as_bestsAt, al_worths, as_worths, al_keptKnown, as_keptKnown, al_keptDays, as_keptDays, al_round, as_round, al_sums, as_sums, al_bestRound, as_bestRound, al_bodies, as_bodies, cl_some, nm_b, nn_some, qn_some, qn_none, zk_0, zk_1, zk_n0, zk_n1, nI_add, pk_mul, pk_sub, nI_leE, nI_ltE, nI_eqE, nI_lt0, nI_ge0, nI_eq0, nI_gt0, nI_le0, ilt_t, ilt_f, ile_t, ile_f, ieq_t, ieq_f, if_tt, if_ff, Nat.add_sub_cancel]
  · have eC : lnC (ma st 1) t = upK (ma st 1) (1058 + t) (ma st 1 (1058 + t) + nI 1) := by unfold lnC; rw [if_neg c]
    have eF : lnF (ma st 1) t = upK (shF (lnC (ma st 1) t) t (nI 0)) (1026 + t) (if valF (ma st 1) t 3 ≤ 0 then nI 0 else nI 1) := by unfold lnF; rw [if_neg c, if_neg c]
    rw [if_neg c, if_neg c]
    rw [← eC]
    have e1 := es (nI 0)
    rw [msa_msa] at e1
    rw [eF] at ev2 ⊢
    simp (maxSteps := 3000000) (disch := omega) only [ev3, e1, ma_msa_n, ma_msa_s, mi_msi_n, mi_msi_s, ml_msl_n, ml_msl_s, ma_msi, ma_msl, mi_msa, mi_msl, ml_msa, ml_msi, msa_msa, msi_msi, msl_msl, ck_m, gf_s, gf_image, gf_truths, gf_knownRow, gf_daysRow, gf_bests, gf_nots, gf_lookeds, gf_bestsAt, gf_worths, gf_keptKnown, gf_keptDays, gf_round, gf_sums, gf_bestRound, gf_bodies, gf_thrown, gf_hasImage, gf_act, gf_spot, gf_size, gf_isWrong, gf_open, gf_edgeThing, gf_edgeMore, gf_stamp, gf_whose, gf_wage, gf_roundMany, gf_bestSet, gf_ran, gf_kind, gf_who, gf_tellsV, pf_thrown, pf_hasImage, pf_act, pf_spot, pf_size, pf_isWrong, pf_open, pf_edgeThing, pf_edgeMore, pf_stamp, pf_whose, pf_wage, pf_roundMany, pf_bestSet, pf_ran, pf_kind, pf_who, pf_tellsV, al_s, as_s, al_image, as_image, al_truths, as_truths0, as_truths1, al_knownRow, as_knownRow, al_daysRow, as_daysRow, al_bests, as_bests, al_nots, as_nots, al_lookeds, as_lookeds, al_bestsAt, as_bestsAt, al_worths, as_worths, al_keptKnown, as_keptKnown, al_keptDays, as_keptDays, al_round, as_round, al_sums, as_sums, al_bestRound, as_bestRound, al_bodies, as_bodies, cl_some, nm_b, nn_some, qn_some, qn_none, zk_0, zk_1, zk_n0, zk_n1, nI_add, pk_mul, pk_sub, nI_leE, nI_ltE, nI_eqE, nI_lt0, nI_ge0, nI_eq0, nI_gt0, nI_le0, ilt_t, ilt_f, ile_t, ile_f, ieq_t, ieq_f, if_tt, if_ff, Nat.add_sub_cancel]
    by_cases c3 : valF (ma st 1) t 3 ≤ 0
    · rw [if_pos c3] at ev2 ⊢
      rw [if_pos c3]
      simp (maxSteps := 3000000) (disch := omega) only [ev2, ma_msa_n, ma_msa_s, mi_msi_n, mi_msi_s, ml_msl_n, ml_msl_s, ma_msi, ma_msl, mi_msa, mi_msl, ml_msa, ml_msi, msa_msa, msi_msi, msl_msl, ck_m, gf_s, gf_image, gf_truths, gf_knownRow, gf_daysRow, gf_bests, gf_nots, gf_lookeds, gf_bestsAt, gf_worths, gf_keptKnown, gf_keptDays, gf_round, gf_sums, gf_bestRound, gf_bodies, gf_thrown, gf_hasImage, gf_act, gf_spot, gf_size, gf_isWrong, gf_open, gf_edgeThing, gf_edgeMore, gf_stamp, gf_whose, gf_wage, gf_roundMany, gf_bestSet, gf_ran, gf_kind, gf_who, gf_tellsV, pf_thrown, pf_hasImage, pf_act, pf_spot, pf_size, pf_isWrong, pf_open, pf_edgeThing, pf_edgeMore, pf_stamp, pf_whose, pf_wage, pf_roundMany, pf_bestSet, pf_ran, pf_kind, pf_who, pf_tellsV, al_s, as_s, al_image, as_image, al_truths, as_truths0, as_truths1, al_knownRow, as_knownRow, al_daysRow, as_daysRow, al_bests, as_bests, al_nots, as_nots, al_lookeds, as_lookeds, al_bestsAt, as_bestsAt, al_worths, as_worths, al_keptKnown, as_keptKnown, al_keptDays, as_keptDays, al_round, as_round, al_sums, as_sums, al_bestRound, as_bestRound, al_bodies, as_bodies, cl_some, nm_b, nn_some, qn_some, qn_none, zk_0, zk_1, zk_n0, zk_n1, nI_add, pk_mul, pk_sub, nI_leE, nI_ltE, nI_eqE, nI_lt0, nI_ge0, nI_eq0, nI_gt0, nI_le0, ilt_t, ilt_f, ile_t, ile_f, ieq_t, ieq_f, if_tt, if_ff, Nat.add_sub_cancel]
    · rw [if_neg c3] at ev2 ⊢
      rw [if_neg c3]
      simp (maxSteps := 3000000) (disch := omega) only [ev2, ma_msa_n, ma_msa_s, mi_msi_n, mi_msi_s, ml_msl_n, ml_msl_s, ma_msi, ma_msl, mi_msa, mi_msl, ml_msa, ml_msi, msa_msa, msi_msi, msl_msl, ck_m, gf_s, gf_image, gf_truths, gf_knownRow, gf_daysRow, gf_bests, gf_nots, gf_lookeds, gf_bestsAt, gf_worths, gf_keptKnown, gf_keptDays, gf_round, gf_sums, gf_bestRound, gf_bodies, gf_thrown, gf_hasImage, gf_act, gf_spot, gf_size, gf_isWrong, gf_open, gf_edgeThing, gf_edgeMore, gf_stamp, gf_whose, gf_wage, gf_roundMany, gf_bestSet, gf_ran, gf_kind, gf_who, gf_tellsV, pf_thrown, pf_hasImage, pf_act, pf_spot, pf_size, pf_isWrong, pf_open, pf_edgeThing, pf_edgeMore, pf_stamp, pf_whose, pf_wage, pf_roundMany, pf_bestSet, pf_ran, pf_kind, pf_who, pf_tellsV, al_s, as_s, al_image, as_image, al_truths, as_truths0, as_truths1, al_knownRow, as_knownRow, al_daysRow, as_daysRow, al_bests, as_bests, al_nots, as_nots, al_lookeds, as_lookeds, al_bestsAt, as_bestsAt, al_worths, as_worths, al_keptKnown, as_keptKnown, al_keptDays, as_keptDays, al_round, as_round, al_sums, as_sums, al_bestRound, as_bestRound, al_bodies, as_bodies, cl_some, nm_b, nn_some, qn_some, qn_none, zk_0, zk_1, zk_n0, zk_n1, nI_add, pk_mul, pk_sub, nI_leE, nI_ltE, nI_eqE, nI_lt0, nI_ge0, nI_eq0, nI_gt0, nI_le0, ilt_t, ilt_f, ile_t, ile_f, ieq_t, ieq_f, if_tt, if_ff, Nat.add_sub_cancel]
/-- a thing's turn by the day's number -/
def trN (s : Nat → Int32) (t : Nat) (w : Int32) : Int32 := (nI 31 * w + nI 17 * s 3 + nI (7 * t) + nI 13) * nI 7 - (nI 31 * w + nI 17 * s 3 + nI (7 * t) + nI 13) * nI 7 / nI 1000 * nI 1000
def tnV (st : MS) (t : Nat) (w : Int32) : Int32 :=
  if ma st 1 (1026 + t) = nI 1 then (if illF st t (ma st 1 (1042 + t)) ≤ trN (ma st 1) t w then nI 1 else nI 0)
  else (if healF (ma st 1) t (ma st 1 (1042 + t)) ≤ trN (ma st 1) t w then nI 0 else nI 1)
set_option maxRecDepth 100000 in
set_option maxHeartbeats 4000000 in
theorem f_turns {st : MS} {t : Nat} {w : Int32} (ht : ThOk (ma st 1) t) : ∃ st', F_X12_turns G (encM G b st h0) nx b (nI t) w = some ((), encM G b st' h0, nx) ∧ FrM [9] (msa st 1 (upK (ma st 1) (1026 + t) (tnV st t w))) st' := by
  have t8 := ht.1
  unfold F_X12_turns F_X12_turns_49 F_X12_turns_90 F_X12_turns_98 F_X12_turns_121 tnV trN
  simp (maxSteps := 3000000) (disch := omega) only [ma_msa_n, ma_msa_s, mi_msi_n, mi_msi_s, ml_msl_n, ml_msl_s, ma_msi, ma_msl, mi_msa, mi_msl, ml_msa, ml_msi, msa_msa, msi_msi, msl_msl, ck_m, gf_s, gf_image, gf_truths, gf_knownRow, gf_daysRow, gf_bests, gf_nots, gf_lookeds, gf_bestsAt, gf_worths, gf_keptKnown, gf_keptDays, gf_round, gf_sums, gf_bestRound, gf_bodies, gf_thrown, gf_hasImage, gf_act, gf_spot, gf_size, gf_isWrong, gf_open, gf_edgeThing, gf_edgeMore, gf_stamp, gf_whose, gf_wage, gf_roundMany, gf_bestSet, gf_ran, gf_kind, gf_who, gf_tellsV, pf_thrown, pf_hasImage, pf_act, pf_spot, pf_size, pf_isWrong, pf_open, pf_edgeThing, pf_edgeMore, pf_stamp, pf_whose, pf_wage, pf_roundMany, pf_bestSet, pf_ran, pf_kind, pf_who, pf_tellsV, al_s, as_s, al_image, as_image, al_truths, as_truths0, as_truths1, al_knownRow, as_knownRow, al_daysRow, as_daysRow, al_bests, as_bests, al_nots, as_nots, al_lookeds, as_lookeds, al_bestsAt, as_bestsAt, al_worths, as_worths, al_keptKnown, as_keptKnown, al_keptDays, as_keptDays, al_round, as_round, al_sums, as_sums, al_bestRound, as_bestRound, al_bodies, as_bodies, cl_some, nm_b, nn_some, qn_some, qn_none, zk_0, zk_1, zk_n0, zk_n1, nI_add, pk_mul, pk_sub, nI_leE, nI_ltE, nI_eqE, nI_lt0, nI_ge0, nI_eq0, nI_gt0, nI_le0, ilt_t, ilt_f, ile_t, ile_f, ieq_t, ieq_f, if_tt, if_ff, Nat.add_sub_cancel]
  by_cases c : ma st 1 (1026 + t) = nI 1
  · rw [if_pos c, if_pos c]
    obtain ⟨st2, e2, f2⟩ := f_illOf (G := G) (b := b) (h0 := h0) (nx := nx) (dd := ma st 1 (1042 + t)) ht
    have s2 : ma st2 1 = ma st 1 := f2.ofa 1 (by decide)
    refine ⟨_, ?_, fr_cg1 f2⟩
    simp (maxSteps := 3000000) (disch := omega) only [e2, ma_msa_n, ma_msa_s, mi_msi_n, mi_msi_s, ml_msl_n, ml_msl_s, ma_msi, ma_msl, mi_msa, mi_msl, ml_msa, ml_msi, msa_msa, msi_msi, msl_msl, ck_m, gf_s, gf_image, gf_truths, gf_knownRow, gf_daysRow, gf_bests, gf_nots, gf_lookeds, gf_bestsAt, gf_worths, gf_keptKnown, gf_keptDays, gf_round, gf_sums, gf_bestRound, gf_bodies, gf_thrown, gf_hasImage, gf_act, gf_spot, gf_size, gf_isWrong, gf_open, gf_edgeThing, gf_edgeMore, gf_stamp, gf_whose, gf_wage, gf_roundMany, gf_bestSet, gf_ran, gf_kind, gf_who, gf_tellsV, pf_thrown, pf_hasImage, pf_act, pf_spot, pf_size, pf_isWrong, pf_open, pf_edgeThing, pf_edgeMore, pf_stamp, pf_whose, pf_wage, pf_roundMany, pf_bestSet, pf_ran, pf_kind, pf_who, pf_tellsV, al_s, as_s, al_image, as_image, al_truths, as_truths0, as_truths1, al_knownRow, as_knownRow, al_daysRow, as_daysRow, al_bests, as_bests, al_nots, as_nots, al_lookeds, as_lookeds, al_bestsAt, as_bestsAt, al_worths, as_worths, al_keptKnown, as_keptKnown, al_keptDays, as_keptDays, al_round, as_round, al_sums, as_sums, al_bestRound, as_bestRound, al_bodies, as_bodies, cl_some, nm_b, nn_some, qn_some, qn_none, zk_0, zk_1, zk_n0, zk_n1, nI_add, pk_mul, pk_sub, nI_leE, nI_ltE, nI_eqE, nI_lt0, nI_ge0, nI_eq0, nI_gt0, nI_le0, ilt_t, ilt_f, ile_t, ile_f, ieq_t, ieq_f, if_tt, if_ff, Nat.add_sub_cancel]
    generalize (nI 31 * w + nI 17 * ma st 1 3 + nI (7 * t) + nI 13) * nI 7 - (nI 31 * w + nI 17 * ma st 1 3 + nI (7 * t) + nI 13) * nI 7 / nI 1000 * nI 1000 = z
    by_cases c2 : illF st t (ma st 1 (1042 + t)) ≤ z
    · rw [if_pos c2, if_pos c2]
      simp (maxSteps := 3000000) (disch := omega) only [s2, ma_msa_n, ma_msa_s, mi_msi_n, mi_msi_s, ml_msl_n, ml_msl_s, ma_msi, ma_msl, mi_msa, mi_msl, ml_msa, ml_msi, msa_msa, msi_msi, msl_msl, ck_m, gf_s, gf_image, gf_truths, gf_knownRow, gf_daysRow, gf_bests, gf_nots, gf_lookeds, gf_bestsAt, gf_worths, gf_keptKnown, gf_keptDays, gf_round, gf_sums, gf_bestRound, gf_bodies, gf_thrown, gf_hasImage, gf_act, gf_spot, gf_size, gf_isWrong, gf_open, gf_edgeThing, gf_edgeMore, gf_stamp, gf_whose, gf_wage, gf_roundMany, gf_bestSet, gf_ran, gf_kind, gf_who, gf_tellsV, pf_thrown, pf_hasImage, pf_act, pf_spot, pf_size, pf_isWrong, pf_open, pf_edgeThing, pf_edgeMore, pf_stamp, pf_whose, pf_wage, pf_roundMany, pf_bestSet, pf_ran, pf_kind, pf_who, pf_tellsV, al_s, as_s, al_image, as_image, al_truths, as_truths0, as_truths1, al_knownRow, as_knownRow, al_daysRow, as_daysRow, al_bests, as_bests, al_nots, as_nots, al_lookeds, as_lookeds, al_bestsAt, as_bestsAt, al_worths, as_worths, al_keptKnown, as_keptKnown, al_keptDays, as_keptDays, al_round, as_round, al_sums, as_sums, al_bestRound, as_bestRound, al_bodies, as_bodies, cl_some, nm_b, nn_some, qn_some, qn_none, zk_0, zk_1, zk_n0, zk_n1, nI_add, pk_mul, pk_sub, nI_leE, nI_ltE, nI_eqE, nI_lt0, nI_ge0, nI_eq0, nI_gt0, nI_le0, ilt_t, ilt_f, ile_t, ile_f, ieq_t, ieq_f, if_tt, if_ff, Nat.add_sub_cancel]
    · rw [if_neg c2, if_neg c2]
      simp (maxSteps := 3000000) (disch := omega) only [s2, ma_msa_n, ma_msa_s, mi_msi_n, mi_msi_s, ml_msl_n, ml_msl_s, ma_msi, ma_msl, mi_msa, mi_msl, ml_msa, ml_msi, msa_msa, msi_msi, msl_msl, ck_m, gf_s, gf_image, gf_truths, gf_knownRow, gf_daysRow, gf_bests, gf_nots, gf_lookeds, gf_bestsAt, gf_worths, gf_keptKnown, gf_keptDays, gf_round, gf_sums, gf_bestRound, gf_bodies, gf_thrown, gf_hasImage, gf_act, gf_spot, gf_size, gf_isWrong, gf_open, gf_edgeThing, gf_edgeMore, gf_stamp, gf_whose, gf_wage, gf_roundMany, gf_bestSet, gf_ran, gf_kind, gf_who, gf_tellsV, pf_thrown, pf_hasImage, pf_act, pf_spot, pf_size, pf_isWrong, pf_open, pf_edgeThing, pf_edgeMore, pf_stamp, pf_whose, pf_wage, pf_roundMany, pf_bestSet, pf_ran, pf_kind, pf_who, pf_tellsV, al_s, as_s, al_image, as_image, al_truths, as_truths0, as_truths1, al_knownRow, as_knownRow, al_daysRow, as_daysRow, al_bests, as_bests, al_nots, as_nots, al_lookeds, as_lookeds, al_bestsAt, as_bestsAt, al_worths, as_worths, al_keptKnown, as_keptKnown, al_keptDays, as_keptDays, al_round, as_round, al_sums, as_sums, al_bestRound, as_bestRound, al_bodies, as_bodies, cl_some, nm_b, nn_some, qn_some, qn_none, zk_0, zk_1, zk_n0, zk_n1, nI_add, pk_mul, pk_sub, nI_leE, nI_ltE, nI_eqE, nI_lt0, nI_ge0, nI_eq0, nI_gt0, nI_le0, ilt_t, ilt_f, ile_t, ile_f, ieq_t, ieq_f, if_tt, if_ff, Nat.add_sub_cancel]
  · rw [if_neg c, if_neg c]
    obtain ⟨st2, e2, f2⟩ := f_healOf (G := G) (b := b) (h0 := h0) (nx := nx) (dd := ma st 1 (1042 + t)) ht
    have s2 : ma st2 1 = ma st 1 := f2.ofa 1 (by decide)
    refine ⟨_, ?_, fr_cg1 f2⟩
    simp (maxSteps := 3000000) (disch := omega) only [e2, ma_msa_n, ma_msa_s, mi_msi_n, mi_msi_s, ml_msl_n, ml_msl_s, ma_msi, ma_msl, mi_msa, mi_msl, ml_msa, ml_msi, msa_msa, msi_msi, msl_msl, ck_m, gf_s, gf_image, gf_truths, gf_knownRow, gf_daysRow, gf_bests, gf_nots, gf_lookeds, gf_bestsAt, gf_worths, gf_keptKnown, gf_keptDays, gf_round, gf_sums, gf_bestRound, gf_bodies, gf_thrown, gf_hasImage, gf_act, gf_spot, gf_size, gf_isWrong, gf_open, gf_edgeThing, gf_edgeMore, gf_stamp, gf_whose, gf_wage, gf_roundMany, gf_bestSet, gf_ran, gf_kind, gf_who, gf_tellsV, pf_thrown, pf_hasImage, pf_act, pf_spot, pf_size, pf_isWrong, pf_open, pf_edgeThing, pf_edgeMore, pf_stamp, pf_whose, pf_wage, pf_roundMany, pf_bestSet, pf_ran, pf_kind, pf_who, pf_tellsV, al_s, as_s, al_image, as_image, al_truths, as_truths0, as_truths1, al_knownRow, as_knownRow, al_daysRow, as_daysRow, al_bests, as_bests, al_nots, as_nots, al_lookeds, as_lookeds, al_bestsAt, as_bestsAt, al_worths, as_worths, al_keptKnown, as_keptKnown, al_keptDays, as_keptDays, al_round, as_round, al_sums, as_sums, al_bestRound, as_bestRound, al_bodies, as_bodies, cl_some, nm_b, nn_some, qn_some, qn_none, zk_0, zk_1, zk_n0, zk_n1, nI_add, pk_mul, pk_sub, nI_leE, nI_ltE, nI_eqE, nI_lt0, nI_ge0, nI_eq0, nI_gt0, nI_le0, ilt_t, ilt_f, ile_t, ile_f, ieq_t, ieq_f, if_tt, if_ff, Nat.add_sub_cancel]
    generalize (nI 31 * w + nI 17 * ma st 1 3 + nI (7 * t) + nI 13) * nI 7 - (nI 31 * w + nI 17 * ma st 1 3 + nI (7 * t) + nI 13) * nI 7 / nI 1000 * nI 1000 = z
    by_cases c2 : healF (ma st 1) t (ma st 1 (1042 + t)) ≤ z
    · rw [if_pos c2, if_pos c2]
      simp (maxSteps := 3000000) (disch := omega) only [s2, ma_msa_n, ma_msa_s, mi_msi_n, mi_msi_s, ml_msl_n, ml_msl_s, ma_msi, ma_msl, mi_msa, mi_msl, ml_msa, ml_msi, msa_msa, msi_msi, msl_msl, ck_m, gf_s, gf_image, gf_truths, gf_knownRow, gf_daysRow, gf_bests, gf_nots, gf_lookeds, gf_bestsAt, gf_worths, gf_keptKnown, gf_keptDays, gf_round, gf_sums, gf_bestRound, gf_bodies, gf_thrown, gf_hasImage, gf_act, gf_spot, gf_size, gf_isWrong, gf_open, gf_edgeThing, gf_edgeMore, gf_stamp, gf_whose, gf_wage, gf_roundMany, gf_bestSet, gf_ran, gf_kind, gf_who, gf_tellsV, pf_thrown, pf_hasImage, pf_act, pf_spot, pf_size, pf_isWrong, pf_open, pf_edgeThing, pf_edgeMore, pf_stamp, pf_whose, pf_wage, pf_roundMany, pf_bestSet, pf_ran, pf_kind, pf_who, pf_tellsV, al_s, as_s, al_image, as_image, al_truths, as_truths0, as_truths1, al_knownRow, as_knownRow, al_daysRow, as_daysRow, al_bests, as_bests, al_nots, as_nots, al_lookeds, as_lookeds, al_bestsAt, as_bestsAt, al_worths, as_worths, al_keptKnown, as_keptKnown, al_keptDays, as_keptDays, al_round, as_round, al_sums, as_sums, al_bestRound, as_bestRound, al_bodies, as_bodies, cl_some, nm_b, nn_some, qn_some, qn_none, zk_0, zk_1, zk_n0, zk_n1, nI_add, pk_mul, pk_sub, nI_leE, nI_ltE, nI_eqE, nI_lt0, nI_ge0, nI_eq0, nI_gt0, nI_le0, ilt_t, ilt_f, ile_t, ile_f, ieq_t, ieq_f, if_tt, if_ff, Nat.add_sub_cancel]
    · rw [if_neg c2, if_neg c2]
      simp (maxSteps := 3000000) (disch := omega) only [s2, ma_msa_n, ma_msa_s, mi_msi_n, mi_msi_s, ml_msl_n, ml_msl_s, ma_msi, ma_msl, mi_msa, mi_msl, ml_msa, ml_msi, msa_msa, msi_msi, msl_msl, ck_m, gf_s, gf_image, gf_truths, gf_knownRow, gf_daysRow, gf_bests, gf_nots, gf_lookeds, gf_bestsAt, gf_worths, gf_keptKnown, gf_keptDays, gf_round, gf_sums, gf_bestRound, gf_bodies, gf_thrown, gf_hasImage, gf_act, gf_spot, gf_size, gf_isWrong, gf_open, gf_edgeThing, gf_edgeMore, gf_stamp, gf_whose, gf_wage, gf_roundMany, gf_bestSet, gf_ran, gf_kind, gf_who, gf_tellsV, pf_thrown, pf_hasImage, pf_act, pf_spot, pf_size, pf_isWrong, pf_open, pf_edgeThing, pf_edgeMore, pf_stamp, pf_whose, pf_wage, pf_roundMany, pf_bestSet, pf_ran, pf_kind, pf_who, pf_tellsV, al_s, as_s, al_image, as_image, al_truths, as_truths0, as_truths1, al_knownRow, as_knownRow, al_daysRow, as_daysRow, al_bests, as_bests, al_nots, as_nots, al_lookeds, as_lookeds, al_bestsAt, as_bestsAt, al_worths, as_worths, al_keptKnown, as_keptKnown, al_keptDays, as_keptDays, al_round, as_round, al_sums, as_sums, al_bestRound, as_bestRound, al_bodies, as_bodies, cl_some, nm_b, nn_some, qn_some, qn_none, zk_0, zk_1, zk_n0, zk_n1, nI_add, pk_mul, pk_sub, nI_leE, nI_ltE, nI_eqE, nI_lt0, nI_ge0, nI_eq0, nI_gt0, nI_le0, ilt_t, ilt_f, ile_t, ile_f, ieq_t, ieq_f, if_tt, if_ff, Nat.add_sub_cancel]
/-! runs -/
def wgsF (s : Nat → Int32) : Nat → Int64 → Int64
  | 0, acc => acc
  | t + 1, acc => wgsF s t acc + (if s (1026 + t) = nI 1 then 1000 * (valF s t 0).toInt64 else -1000 * (valF s t 1).toInt64)
def lksF (set : Int32) (s : Nat → Int32) (acc : Int64) : Nat → (Nat → Int32) × Int64
  | 0 => (s, acc)
  | t + 1 => if bitI set t = nI 1 then (lnF (lksF set s acc t).1 t, (lksF set s acc t).2 + lnA (lksF set s acc t).1 t) else ((lksF set s acc t).1, (lksF set s acc t).2 + 0)
def tnsF (S : MS) (w : Int32) (s : Nat → Int32) : Nat → Nat → Int32
  | 0 => s
  | t + 1 => upK (tnsF S w s t) (1026 + t) (tnV (msa S 1 (tnsF S w s t)) t w)
/-- a day of a run: the row after, the sum -/
def dayF (S : MS) (p nt lk : Nat) (w : Int32) (s : Nat → Int32) (acc : Int64) : (Nat → Int32) × Int64 :=
  let set := whF (msa S 1 s) p (sN s 3) nt lk
  let l := lksF set s (wgsF s nt acc) nt
  let o := ovP S (tnsF S w l.1 nt) nt
  (upK o 3 (o 3 + nI 1), l.2)
def daysF (S : MS) (p nt lk : Nat) (w : Int32) (s : Nat → Int32) : Nat → (Nat → Int32) × Int64
  | 0 => (s, 0)
  | n + 1 => dayF S p nt lk w (daysF S p nt lk w s n).1 (daysF S p nt lk w s n).2
theorem lks_ag {set : Int32} {s : Nat → Int32} {acc : Int64} : ∀ {t : Nat}, t ≤ 8 → AgR s (lksF set s acc t).1 ∧ (lksF set s acc t).1 3 = s 3
  | 0, _ => ⟨AgR.rf, rfl⟩
  | t + 1, h => by
    obtain ⟨h1, h2⟩ := lks_ag (set := set) (s := s) (acc := acc) (t := t) (by omega)
    unfold lksF
    split
    · refine ⟨h1.trans (lnF_ag (by omega)), ?_⟩
      rw [← h2]
      show lnF _ t 3 = _
      unfold lnF
      rw [upK_n (by omega)]
      unfold shF
      rw [upK_n (by omega), upK_n (by omega)]
      unfold lnC
      split
      · rw [upK_n (by omega)]
      · rw [upK_n (by omega)]
    · exact ⟨h1, h2⟩
theorem tns_ag {S : MS} {w : Int32} {s : Nat → Int32} : ∀ {t : Nat}, t ≤ 8 → AgR s (tnsF S w s t) ∧ tnsF S w s t 3 = s 3
  | 0, _ => ⟨AgR.rf, rfl⟩
  | t + 1, h => by
    obtain ⟨h1, h2⟩ := tns_ag (S := S) (w := w) (s := s) (t := t) (by omega)
    unfold tnsF
    exact ⟨h1.trans (AgR.up (by omega)), (upK_n (by omega)).trans h2⟩
theorem ovP_ag {S : MS} {s : Nat → Int32} {nt : Nat} (hn : nt ≤ 8) : AgS s (ovP S s nt) := (ovP_agN hn (Nat.le_refl _)).ag hn
theorem dayF_eq {S : MS} {p nt lk : Nat} {w : Int32} {s : Nat → Int32} {acc : Int64} : dayF S p nt lk w s acc = (upK (ovP S (tnsF S w (lksF (whF (msa S 1 s) p (sN s 3) nt lk) s (wgsF s nt acc) nt).1 nt) nt) 3 (ovP S (tnsF S w (lksF (whF (msa S 1 s) p (sN s 3) nt lk) s (wgsF s nt acc) nt).1 nt) nt 3 + nI 1), (lksF (whF (msa S 1 s) p (sN s 3) nt lk) s (wgsF s nt acc) nt).2) := rfl
theorem day_ag {S : MS} {p nt lk : Nat} {w : Int32} {s : Nat → Int32} {acc : Int64} (hn : nt ≤ 8) : AgR s (dayF S p nt lk w s acc).1 ∧ (dayF S p nt lk w s acc).1 3 = s 3 + nI 1 := by
  rw [dayF_eq]
  obtain ⟨h1, h2⟩ := lks_ag (set := whF (msa S 1 s) p (sN s 3) nt lk) (s := s) (acc := wgsF s nt acc) hn
  obtain ⟨h3, h4⟩ := tns_ag (S := S) (w := w) (s := (lksF (whF (msa S 1 s) p (sN s 3) nt lk) s (wgsF s nt acc) nt).1) hn
  have h5 := ovP_ag (S := S) (s := tnsF S w (lksF (whF (msa S 1 s) p (sN s 3) nt lk) s (wgsF s nt acc) nt).1 nt) hn
  generalize ovP S (tnsF S w (lksF (whF (msa S 1 s) p (sN s 3) nt lk) s (wgsF s nt acc) nt).1 nt) nt = o at h5
  have e : upK o 3 (o 3 + nI 1) 3 = s 3 + nI 1 := by rw [upK_s, h5 3 (by omega), h4, h2]
  exact ⟨((h1.trans h3).trans h5.agR).trans (AgR.up (by omega)), e⟩
theorem days_ag {S : MS} {p nt lk : Nat} {w : Int32} {s : Nat → Int32} (hn : nt ≤ 8) {td : Nat} (h3 : s 3 = nI td) : ∀ n : Nat, AgR s (daysF S p nt lk w s n).1 ∧ (daysF S p nt lk w s n).1 3 = nI (td + n)
  | 0 => ⟨AgR.rf, h3⟩
  | n + 1 => by
    obtain ⟨h1, h2⟩ := days_ag (S := S) (p := p) (lk := lk) (w := w) hn h3 n
    obtain ⟨h4, h5⟩ := day_ag (S := S) (p := p) (nt := nt) (lk := lk) (w := w) (s := (daysF S p nt lk w s n).1) (acc := (daysF S p nt lk w s n).2) hn
    exact ⟨h1.trans h4, by show (dayF _ _ _ _ _ _ _).1 3 = _; rw [h5, h2, nI_add, Nat.add_assoc]⟩
set_option maxRecDepth 100000 in
set_option maxHeartbeats 4000000 in
theorem f_run75 {st : MS} {nt : Nat} {p dl w l6 set : Int32} {acc : Int64} {k53 : Hp → Nat → Nat → Int32 → Int32 → Int32 → Int64 → Int32 → Rz Int64} (h1 : ma st 1 1 = nI nt) (ht : ∀ t, t < nt → ThOk (ma st 1) t) (hn : nt ≤ 8) : ∀ (r t m : Nat), t + r = nt → r < m → F_X12_run_75 G k53 m (encM G b st h0) nx b p dl w (wgsF (ma st 1) t acc) l6 set (nI t) = F_X12_run_142 G k53 fuelL (encM G b st h0) nx b p dl w (wgsF (ma st 1) nt acc) l6 set (nI 0) := by
  intro r
  induction r with
  | zero =>
    intro t m hr hm
    obtain ⟨m, rfl⟩ : ∃ q, m = q + 1 := ⟨m - 1, by omega⟩
    have hr : t = nt := by omega
    subst hr
    rw [F_X12_run_75_s]
    simp (maxSteps := 3000000) (disch := omega) only [h1, ma_msa_n, ma_msa_s, mi_msi_n, mi_msi_s, ml_msl_n, ml_msl_s, ma_msi, ma_msl, mi_msa, mi_msl, ml_msa, ml_msi, msa_msa, msi_msi, msl_msl, ck_m, gf_s, gf_image, gf_truths, gf_knownRow, gf_daysRow, gf_bests, gf_nots, gf_lookeds, gf_bestsAt, gf_worths, gf_keptKnown, gf_keptDays, gf_round, gf_sums, gf_bestRound, gf_bodies, gf_thrown, gf_hasImage, gf_act, gf_spot, gf_size, gf_isWrong, gf_open, gf_edgeThing, gf_edgeMore, gf_stamp, gf_whose, gf_wage, gf_roundMany, gf_bestSet, gf_ran, gf_kind, gf_who, gf_tellsV, pf_thrown, pf_hasImage, pf_act, pf_spot, pf_size, pf_isWrong, pf_open, pf_edgeThing, pf_edgeMore, pf_stamp, pf_whose, pf_wage, pf_roundMany, pf_bestSet, pf_ran, pf_kind, pf_who, pf_tellsV, al_s, as_s, al_image, as_image, al_truths, as_truths0, as_truths1, al_knownRow, as_knownRow, al_daysRow, as_daysRow, al_bests, as_bests, al_nots, as_nots, al_lookeds, as_lookeds, al_bestsAt, as_bestsAt, al_worths, as_worths, al_keptKnown, as_keptKnown, al_keptDays, as_keptDays, al_round, as_round, al_sums, as_sums, al_bestRound, as_bestRound, al_bodies, as_bodies, cl_some, nm_b, nn_some, qn_some, qn_none, zk_0, zk_1, zk_n0, zk_n1, nI_add, pk_mul, pk_sub, nI_leE, nI_ltE, nI_eqE, nI_lt0, nI_ge0, nI_eq0, nI_gt0, nI_le0, ilt_t, ilt_f, ile_t, ile_f, ieq_t, ieq_f, if_tt, if_ff, Nat.add_sub_cancel]
  | succ r ih =>
    intro t m hr hm
    obtain ⟨m, rfl⟩ : ∃ q, m = q + 1 := ⟨m - 1, by omega⟩
    have go := ih (t + 1) m (by omega) (by omega)
    have e : wgsF (ma st 1) (t + 1) acc = wgsF (ma st 1) t acc + (if ma st 1 (1026 + t) = nI 1 then 1000 * (valF (ma st 1) t 0).toInt64 else -1000 * (valF (ma st 1) t 1).toInt64) := rfl
    have ev0 := f_value (G := G) (b := b) (h0 := h0) (nx := nx) (ht t (by omega)) (show 0 < 4 by decide)
    have ev1 := f_value (G := G) (b := b) (h0 := h0) (nx := nx) (ht t (by omega)) (show 1 < 4 by decide)
    rw [F_X12_run_75_s]
    unfold F_X12_run_130
    simp (maxSteps := 3000000) (disch := omega) only [h1, ev0, ev1, ma_msa_n, ma_msa_s, mi_msi_n, mi_msi_s, ml_msl_n, ml_msl_s, ma_msi, ma_msl, mi_msa, mi_msl, ml_msa, ml_msi, msa_msa, msi_msi, msl_msl, ck_m, gf_s, gf_image, gf_truths, gf_knownRow, gf_daysRow, gf_bests, gf_nots, gf_lookeds, gf_bestsAt, gf_worths, gf_keptKnown, gf_keptDays, gf_round, gf_sums, gf_bestRound, gf_bodies, gf_thrown, gf_hasImage, gf_act, gf_spot, gf_size, gf_isWrong, gf_open, gf_edgeThing, gf_edgeMore, gf_stamp, gf_whose, gf_wage, gf_roundMany, gf_bestSet, gf_ran, gf_kind, gf_who, gf_tellsV, pf_thrown, pf_hasImage, pf_act, pf_spot, pf_size, pf_isWrong, pf_open, pf_edgeThing, pf_edgeMore, pf_stamp, pf_whose, pf_wage, pf_roundMany, pf_bestSet, pf_ran, pf_kind, pf_who, pf_tellsV, al_s, as_s, al_image, as_image, al_truths, as_truths0, as_truths1, al_knownRow, as_knownRow, al_daysRow, as_daysRow, al_bests, as_bests, al_nots, as_nots, al_lookeds, as_lookeds, al_bestsAt, as_bestsAt, al_worths, as_worths, al_keptKnown, as_keptKnown, al_keptDays, as_keptDays, al_round, as_round, al_sums, as_sums, al_bestRound, as_bestRound, al_bodies, as_bodies, cl_some, nm_b, nn_some, qn_some, qn_none, zk_0, zk_1, zk_n0, zk_n1, nI_add, pk_mul, pk_sub, nI_leE, nI_ltE, nI_eqE, nI_lt0, nI_ge0, nI_eq0, nI_gt0, nI_le0, ilt_t, ilt_f, ile_t, ile_f, ieq_t, ieq_f, if_tt, if_ff, Nat.add_sub_cancel]
    by_cases c : ma st 1 (1026 + t) = nI 1
    · rw [if_pos c]
      rw [e, if_pos c] at go
      exact go
    · rw [if_neg c]
      rw [e, if_neg c] at go
      exact go
set_option maxRecDepth 100000 in
set_option maxHeartbeats 4000000 in
theorem f_run142 {st : MS} {nt : Nat} {p dl w l6 set : Int32} {acc : Int64} {k53 : Hp → Nat → Nat → Int32 → Int32 → Int32 → Int64 → Int32 → Rz Int64} {s : Nat → Int32} (h1 : s 1 = nI nt) (ht : ∀ t, t < nt → ThOk s t) (hn : nt ≤ 8) : ∀ (r t m : Nat), t + r = nt → r < m → F_X12_run_142 G k53 m (encM G b (msa st 1 (lksF set s acc t).1) h0) nx b p dl w (lksF set s acc t).2 l6 set (nI t) = F_X12_run_188 G k53 fuelL (encM G b (msa st 1 (lksF set s acc nt).1) h0) nx b p dl w (lksF set s acc nt).2 l6 (nI 0) := by
  intro r
  induction r with
  | zero =>
    intro t m hr hm
    obtain ⟨m, rfl⟩ : ∃ q, m = q + 1 := ⟨m - 1, by omega⟩
    have hr : t = nt := by omega
    subst hr
    have a1 : (lksF set s acc t).1 1 = nI t := by rw [(lks_ag hn).1 1 (by omega) (by omega)]; exact h1
    rw [F_X12_run_142_s]
    simp (maxSteps := 3000000) (disch := omega) only [a1, ma_msa_n, ma_msa_s, mi_msi_n, mi_msi_s, ml_msl_n, ml_msl_s, ma_msi, ma_msl, mi_msa, mi_msl, ml_msa, ml_msi, msa_msa, msi_msi, msl_msl, ck_m, gf_s, gf_image, gf_truths, gf_knownRow, gf_daysRow, gf_bests, gf_nots, gf_lookeds, gf_bestsAt, gf_worths, gf_keptKnown, gf_keptDays, gf_round, gf_sums, gf_bestRound, gf_bodies, gf_thrown, gf_hasImage, gf_act, gf_spot, gf_size, gf_isWrong, gf_open, gf_edgeThing, gf_edgeMore, gf_stamp, gf_whose, gf_wage, gf_roundMany, gf_bestSet, gf_ran, gf_kind, gf_who, gf_tellsV, pf_thrown, pf_hasImage, pf_act, pf_spot, pf_size, pf_isWrong, pf_open, pf_edgeThing, pf_edgeMore, pf_stamp, pf_whose, pf_wage, pf_roundMany, pf_bestSet, pf_ran, pf_kind, pf_who, pf_tellsV, al_s, as_s, al_image, as_image, al_truths, as_truths0, as_truths1, al_knownRow, as_knownRow, al_daysRow, as_daysRow, al_bests, as_bests, al_nots, as_nots, al_lookeds, as_lookeds, al_bestsAt, as_bestsAt, al_worths, as_worths, al_keptKnown, as_keptKnown, al_keptDays, as_keptDays, al_round, as_round, al_sums, as_sums, al_bestRound, as_bestRound, al_bodies, as_bodies, cl_some, nm_b, nn_some, qn_some, qn_none, zk_0, zk_1, zk_n0, zk_n1, nI_add, pk_mul, pk_sub, nI_leE, nI_ltE, nI_eqE, nI_lt0, nI_ge0, nI_eq0, nI_gt0, nI_le0, ilt_t, ilt_f, ile_t, ile_f, ieq_t, ieq_f, if_tt, if_ff, Nat.add_sub_cancel]
  | succ r ih =>
    intro t m hr hm
    obtain ⟨m, rfl⟩ : ∃ q, m = q + 1 := ⟨m - 1, by omega⟩
    have go := ih (t + 1) m (by omega) (by omega)
    have e : lksF set s acc (t + 1) = if bitI set t = nI 1 then (lnF (lksF set s acc t).1 t, (lksF set s acc t).2 + lnA (lksF set s acc t).1 t) else ((lksF set s acc t).1, (lksF set s acc t).2 + 0) := rfl
    have hag := (lks_ag (set := set) (s := s) (acc := acc) (t := t) (by omega)).1
    have a1 : (lksF set s acc t).1 1 = nI nt := by rw [hag 1 (by omega) (by omega)]; exact h1
    have el := f_lookNow (G := G) (b := b) (h0 := h0) (nx := nx) (st := msa st 1 (lksF set s acc t).1) (t := t) (by rw [ma_msa_s]; exact ThOk_agR hag (ht t (by omega)))
    rw [ma_msa_s, msa_msa] at el
    rw [F_X12_run_142_s]
    unfold F_X12_run_176
    simp (maxSteps := 3000000) (disch := omega) only [a1, el, ma_msa_n, ma_msa_s, mi_msi_n, mi_msi_s, ml_msl_n, ml_msl_s, ma_msi, ma_msl, mi_msa, mi_msl, ml_msa, ml_msi, msa_msa, msi_msi, msl_msl, ck_m, gf_s, gf_image, gf_truths, gf_knownRow, gf_daysRow, gf_bests, gf_nots, gf_lookeds, gf_bestsAt, gf_worths, gf_keptKnown, gf_keptDays, gf_round, gf_sums, gf_bestRound, gf_bodies, gf_thrown, gf_hasImage, gf_act, gf_spot, gf_size, gf_isWrong, gf_open, gf_edgeThing, gf_edgeMore, gf_stamp, gf_whose, gf_wage, gf_roundMany, gf_bestSet, gf_ran, gf_kind, gf_who, gf_tellsV, pf_thrown, pf_hasImage, pf_act, pf_spot, pf_size, pf_isWrong, pf_open, pf_edgeThing, pf_edgeMore, pf_stamp, pf_whose, pf_wage, pf_roundMany, pf_bestSet, pf_ran, pf_kind, pf_who, pf_tellsV, al_s, as_s, al_image, as_image, al_truths, as_truths0, as_truths1, al_knownRow, as_knownRow, al_daysRow, as_daysRow, al_bests, as_bests, al_nots, as_nots, al_lookeds, as_lookeds, al_bestsAt, as_bestsAt, al_worths, as_worths, al_keptKnown, as_keptKnown, al_keptDays, as_keptDays, al_round, as_round, al_sums, as_sums, al_bestRound, as_bestRound, al_bodies, as_bodies, cl_some, nm_b, nn_some, qn_some, qn_none, zk_0, zk_1, zk_n0, zk_n1, nI_add, pk_mul, pk_sub, nI_leE, nI_ltE, nI_eqE, nI_lt0, nI_ge0, nI_eq0, nI_gt0, nI_le0, ilt_t, ilt_f, ile_t, ile_f, ieq_t, ieq_f, if_tt, if_ff, Nat.add_sub_cancel]
    by_cases c : bitI set t = nI 1
    · have c' : set >>> (nI t &&& 31) &&& nI 1 = nI 1 := c
      rw [if_pos c']
      rw [e, if_pos c] at go
      exact go
    · have c' : ¬ set >>> (nI t &&& 31) &&& nI 1 = nI 1 := c
      rw [if_neg c']
      rw [e, if_neg c] at go
      exact go
theorem ovS_eq {st : MS} : ∀ j : Nat, ovS st j = msa st 1 (ma (ovS st j) 1)
  | 0 => msa_self.symm
  | j + 1 => by
    show ovStep (ovS st j) j = msa st 1 (ma (ovStep (ovS st j) j) 1)
    unfold ovStep
    rw [ma_msa_s, ovS_eq j, msa_msa, ma_msa_s]
set_option maxRecDepth 100000 in
set_option maxHeartbeats 4000000 in
theorem f_overW {S st : MS} {s : Nat → Int32} {nt N : Nat} (hW : Wr S s st) (h1 : s 1 = nI nt) (hn : nt ≤ 8) (ht : ∀ t, t < nt → ThOk s t) (hN : StOk st N) : ∃ st' : MS, F_X12_over G (encM G b st h0) nx b = some ((), encM G b st' h0, nx) ∧ Wr S (ovP S s nt) st' ∧ StOk st' N := by
  have hs := hW.s
  obtain ⟨st', e, hF⟩ := f_over (G := G) (b := b) (h0 := h0) (nx := nx) (st := st) (nt := nt) (by rw [hs]; exact h1) hn (by rw [hs]; exact ht)
  have ov := (ovS_ovP (S0 := S) (st := st) (hW.i 10 (by decide)) (hW.i 11 (by decide)) nt).1
  rw [hs] at ov
  rw [ovS_eq nt, ov] at hF
  exact ⟨st', e, (hW.up (s' := ovP S s nt)).tr hF (by decide), StOk_fr hF (by decide) (by decide) (StOk_msa1 hN)⟩
theorem tnV_wr {S st : MS} {s : Nat → Int32} (hW : Wr S s st) {t : Nat} {w : Int32} : tnV st t w = tnV (msa S 1 s) t w := by
  unfold tnV
  rw [illF_fr hW.fr (by decide) (by decide) (by decide), hW.s, ma_msa_s]
set_option maxRecDepth 100000 in
set_option maxHeartbeats 4000000 in
theorem f_run188 {S : MS} {s : Nat → Int32} {nt : Nat} {p dl w l6 : Int32} {acc : Int64} {k53 : Hp → Nat → Nat → Int32 → Int32 → Int32 → Int64 → Int32 → Rz Int64} (h1 : s 1 = nI nt) (ht : ∀ t, t < nt → ThOk s t) (hn : nt ≤ 8) : ∀ (r t m : Nat) (st : MS) (N : Nat), t + r = nt → r < m → Wr S (tnsF S w s t) st → StOk st N → ∃ st' : MS, F_X12_run_188 G k53 m (encM G b st h0) nx b p dl w acc l6 (nI t) = k53 (encM G b st' h0) nx b p dl w acc (l6 + nI 1) ∧ Wr S (upK (ovP S (tnsF S w s nt) nt) 3 (ovP S (tnsF S w s nt) nt 3 + nI 1)) st' ∧ StOk st' N := by
  intro r
  induction r with
  | zero =>
    intro t m st N hr hm hW hN
    obtain ⟨m, rfl⟩ : ∃ q, m = q + 1 := ⟨m - 1, by omega⟩
    have hr : t = nt := by omega
    subst hr
    have hag := (tns_ag (S := S) (w := w) (s := s) hn).1
    have hs := hW.s
    have a1 : tnsF S w s t 1 = nI t := by rw [hag 1 (by omega) (by omega)]; exact h1
    obtain ⟨st2, e2, w2, n2⟩ := f_overW (G := G) (b := b) (h0 := h0) (nx := nx) hW a1 hn (fun t q => ThOk_agR hag (ht t q)) hN
    have hs2 := w2.s
    refine ⟨_, ?_, w2.up, StOk_msa1 n2⟩
    rw [F_X12_run_188_s]
    simp (maxSteps := 3000000) (disch := omega) only [hs, a1, e2, hs2, ma_msa_n, ma_msa_s, mi_msi_n, mi_msi_s, ml_msl_n, ml_msl_s, ma_msi, ma_msl, mi_msa, mi_msl, ml_msa, ml_msi, msa_msa, msi_msi, msl_msl, ck_m, gf_s, gf_image, gf_truths, gf_knownRow, gf_daysRow, gf_bests, gf_nots, gf_lookeds, gf_bestsAt, gf_worths, gf_keptKnown, gf_keptDays, gf_round, gf_sums, gf_bestRound, gf_bodies, gf_thrown, gf_hasImage, gf_act, gf_spot, gf_size, gf_isWrong, gf_open, gf_edgeThing, gf_edgeMore, gf_stamp, gf_whose, gf_wage, gf_roundMany, gf_bestSet, gf_ran, gf_kind, gf_who, gf_tellsV, pf_thrown, pf_hasImage, pf_act, pf_spot, pf_size, pf_isWrong, pf_open, pf_edgeThing, pf_edgeMore, pf_stamp, pf_whose, pf_wage, pf_roundMany, pf_bestSet, pf_ran, pf_kind, pf_who, pf_tellsV, al_s, as_s, al_image, as_image, al_truths, as_truths0, as_truths1, al_knownRow, as_knownRow, al_daysRow, as_daysRow, al_bests, as_bests, al_nots, as_nots, al_lookeds, as_lookeds, al_bestsAt, as_bestsAt, al_worths, as_worths, al_keptKnown, as_keptKnown, al_keptDays, as_keptDays, al_round, as_round, al_sums, as_sums, al_bestRound, as_bestRound, al_bodies, as_bodies, cl_some, nm_b, nn_some, qn_some, qn_none, zk_0, zk_1, zk_n0, zk_n1, nI_add, pk_mul, pk_sub, nI_leE, nI_ltE, nI_eqE, nI_lt0, nI_ge0, nI_eq0, nI_gt0, nI_le0, ilt_t, ilt_f, ile_t, ile_f, ieq_t, ieq_f, if_tt, if_ff, Nat.add_sub_cancel]
  | succ r ih =>
    intro t m st N hr hm hW hN
    obtain ⟨m, rfl⟩ : ∃ q, m = q + 1 := ⟨m - 1, by omega⟩
    have hag := (tns_ag (S := S) (w := w) (s := s) (t := t) (by omega)).1
    have hs := hW.s
    have a1 : tnsF S w s t 1 = nI nt := by rw [hag 1 (by omega) (by omega)]; exact h1
    obtain ⟨st2, e2, f2⟩ := f_turns (G := G) (b := b) (h0 := h0) (nx := nx) (st := st) (t := t) (w := w) (by rw [hs]; exact ThOk_agR hag (ht t (by omega)))
    rw [tnV_wr hW, hs] at f2
    obtain ⟨st3, e3, r3⟩ := ih (t + 1) m st2 N (by omega) (by omega) ((hW.up (s' := tnsF S w s (t + 1))).tr f2 (by decide)) (StOk_fr f2 (by decide) (by decide) (StOk_msa1 hN))
    refine ⟨st3, ?_, r3⟩
    rw [F_X12_run_188_s]
    simp (maxSteps := 3000000) (disch := omega) only [hs, a1, e2, ma_msa_n, ma_msa_s, mi_msi_n, mi_msi_s, ml_msl_n, ml_msl_s, ma_msi, ma_msl, mi_msa, mi_msl, ml_msa, ml_msi, msa_msa, msi_msi, msl_msl, ck_m, gf_s, gf_image, gf_truths, gf_knownRow, gf_daysRow, gf_bests, gf_nots, gf_lookeds, gf_bestsAt, gf_worths, gf_keptKnown, gf_keptDays, gf_round, gf_sums, gf_bestRound, gf_bodies, gf_thrown, gf_hasImage, gf_act, gf_spot, gf_size, gf_isWrong, gf_open, gf_edgeThing, gf_edgeMore, gf_stamp, gf_whose, gf_wage, gf_roundMany, gf_bestSet, gf_ran, gf_kind, gf_who, gf_tellsV, pf_thrown, pf_hasImage, pf_act, pf_spot, pf_size, pf_isWrong, pf_open, pf_edgeThing, pf_edgeMore, pf_stamp, pf_whose, pf_wage, pf_roundMany, pf_bestSet, pf_ran, pf_kind, pf_who, pf_tellsV, al_s, as_s, al_image, as_image, al_truths, as_truths0, as_truths1, al_knownRow, as_knownRow, al_daysRow, as_daysRow, al_bests, as_bests, al_nots, as_nots, al_lookeds, as_lookeds, al_bestsAt, as_bestsAt, al_worths, as_worths, al_keptKnown, as_keptKnown, al_keptDays, as_keptDays, al_round, as_round, al_sums, as_sums, al_bestRound, as_bestRound, al_bodies, as_bodies, cl_some, nm_b, nn_some, qn_some, qn_none, zk_0, zk_1, zk_n0, zk_n1, nI_add, pk_mul, pk_sub, nI_leE, nI_ltE, nI_eqE, nI_lt0, nI_ge0, nI_eq0, nI_gt0, nI_le0, ilt_t, ilt_f, ile_t, ile_f, ieq_t, ieq_f, if_tt, if_ff, Nat.add_sub_cancel]
    exact e3
set_option maxRecDepth 100000 in
set_option maxHeartbeats 4000000 in
theorem f_run53 {S : MS} {nt np lk td p : Nat} {w : Int32} {days : Nat} (hB : BOk S nt np lk td) (hp : p < np) (hdl : td + days ≤ 999) : ∀ (r i m : Nat) (st : MS) (N : Nat), i + r = days → r < m → Wr S (daysF S p nt lk w (ma S 1) i).1 st → StOk st N → N + 1608 * r < 2 ^ 31 → ∃ (st' : MS) (N' : Nat), F_X12_run_53 G m (encM G b st h0) nx b (nI p) (nI days) w (daysF S p nt lk w (ma S 1) i).2 (nI i) = some ((daysF S p nt lk w (ma S 1) days).2, encM G b st' h0, nx) ∧ Wr S (daysF S p nt lk w (ma S 1) days).1 st' ∧ StOk st' N' ∧ N' ≤ N + 1608 * r := by
  obtain ⟨hL, hl3, ht, h2, hnp, hpr, h3, htd⟩ := hB
  have hn := hL.2.1
  intro r
  induction r with
  | zero =>
    intro i m st N hr hm hW hN hb
    obtain ⟨m, rfl⟩ : ∃ q, m = q + 1 := ⟨m - 1, by omega⟩
    have hr : i = days := by omega
    subst hr
    refine ⟨st, N, ?_, hW, hN, by omega⟩
    rw [F_X12_run_53_s]
    simp (maxSteps := 3000000) (disch := omega) only [ma_msa_n, ma_msa_s, mi_msi_n, mi_msi_s, ml_msl_n, ml_msl_s, ma_msi, ma_msl, mi_msa, mi_msl, ml_msa, ml_msi, msa_msa, msi_msi, msl_msl, ck_m, gf_s, gf_image, gf_truths, gf_knownRow, gf_daysRow, gf_bests, gf_nots, gf_lookeds, gf_bestsAt, gf_worths, gf_keptKnown, gf_keptDays, gf_round, gf_sums, gf_bestRound, gf_bodies, gf_thrown, gf_hasImage, gf_act, gf_spot, gf_size, gf_isWrong, gf_open, gf_edgeThing, gf_edgeMore, gf_stamp, gf_whose, gf_wage, gf_roundMany, gf_bestSet, gf_ran, gf_kind, gf_who, gf_tellsV, pf_thrown, pf_hasImage, pf_act, pf_spot, pf_size, pf_isWrong, pf_open, pf_edgeThing, pf_edgeMore, pf_stamp, pf_whose, pf_wage, pf_roundMany, pf_bestSet, pf_ran, pf_kind, pf_who, pf_tellsV, al_s, as_s, al_image, as_image, al_truths, as_truths0, as_truths1, al_knownRow, as_knownRow, al_daysRow, as_daysRow, al_bests, as_bests, al_nots, as_nots, al_lookeds, as_lookeds, al_bestsAt, as_bestsAt, al_worths, as_worths, al_keptKnown, as_keptKnown, al_keptDays, as_keptDays, al_round, as_round, al_sums, as_sums, al_bestRound, as_bestRound, al_bodies, as_bodies, cl_some, nm_b, nn_some, qn_some, qn_none, zk_0, zk_1, zk_n0, zk_n1, nI_add, pk_mul, pk_sub, nI_leE, nI_ltE, nI_eqE, nI_lt0, nI_ge0, nI_eq0, nI_gt0, nI_le0, ilt_t, ilt_f, ile_t, ile_f, ieq_t, ieq_f, if_tt, if_ff, Nat.add_sub_cancel]
  | succ r ih =>
    intro i m st N hr hm hW hN hb
    obtain ⟨m, rfl⟩ : ∃ q, m = q + 1 := ⟨m - 1, by omega⟩
    obtain ⟨hag, hd3⟩ := days_ag (S := S) (p := p) (lk := lk) (w := w) hn h3 i
    have es : daysF S p nt lk w (ma S 1) (i + 1) = dayF S p nt lk w (daysF S p nt lk w (ma S 1) i).1 (daysF S p nt lk w (ma S 1) i).2 := rfl
    generalize hD : daysF S p nt lk w (ma S 1) i = D at hW hag hd3 es ⊢
    obtain ⟨s, acc⟩ := D
    have hs := hW.s
    have a3 : ma st 1 3 = nI (td + i) := by rw [hs]; exact hd3
    have hLs : LkOk s nt lk := LkOk_agR hag hL
    have hts : ∀ t, t < nt → ThOk s t := fun t q => ThOk_agR hag (ht t q)
    obtain ⟨st2, N2, e2, f2, n2, l2⟩ := f_whomOn (G := G) (b := b) (h0 := h0) (nx := nx) (st := st) (p := p) (dd := td + i) (nt := nt) (lk := lk) (by rw [hs]; exact hLs) (by rw [hs]; exact PrOk_agR hag (hpr p hp)) (by rw [hs]; exact hts) hN (by omega) (by omega)
    have W2 : Wr S s st2 := hW.tr f2 (by decide)
    have hs2 := W2.s
    have e3 : whF st p (td + i) nt lk = whF (msa S 1 s) p (sN s 3) nt lk := by
      rw [whF_fr hW.fr (by decide) (by decide) (by decide)]
      congr 1
      unfold sN
      rw [show s 3 = nI (td + i) from hd3, nI_clamp (by omega)]
    rw [e3] at e2
    generalize hset : whF (msa S 1 s) p (sN s 3) nt lk = set at e2 es
    have e75 := f_run75 (G := G) (b := b) (h0 := h0) (nx := nx) (st := st2) (p := nI p) (dl := nI days) (w := w) (l6 := nI i) (set := set) (acc := acc) (k53 := F_X12_run_53 G m) (by rw [hs2]; exact hLs.1) (by rw [hs2]; exact hts) hn nt 0 fuelL (by omega) (by unfold fuelL; omega)
    rw [show wgsF (ma st2 1) 0 acc = acc from rfl, hs2] at e75
    have e142 := f_run142 (G := G) (b := b) (h0 := h0) (nx := nx) (st := st2) (p := nI p) (dl := nI days) (w := w) (l6 := nI i) (set := set) (acc := wgsF s nt acc) (k53 := F_X12_run_53 G m) (s := s) hLs.1 hts hn nt 0 fuelL (by omega) (by unfold fuelL; omega)
    rw [show lksF set s (wgsF s nt acc) 0 = (s, wgsF s nt acc) from rfl] at e142
    simp only [] at e142
    rw [show msa st2 1 s = st2 by rw [← hs2, msa_self]] at e142
    obtain ⟨hagl, h3l⟩ := lks_ag (set := set) (s := s) (acc := wgsF s nt acc) hn
    obtain ⟨st4, e4, W4, n4⟩ := f_run188 (G := G) (b := b) (h0 := h0) (nx := nx) (S := S) (s := (lksF set s (wgsF s nt acc) nt).1) (nt := nt) (p := nI p) (dl := nI days) (w := w) (l6 := nI i) (acc := (lksF set s (wgsF s nt acc) nt).2) (k53 := F_X12_run_53 G m) (by rw [hagl 1 (by omega) (by omega)]; exact hLs.1) (fun t q => ThOk_agR hagl (hts t q)) hn nt 0 fuelL (msa st2 1 (lksF set s (wgsF s nt acc) nt).1) N2 (by omega) (by unfold fuelL; omega) W2.up (StOk_msa1 n2)
    have ed : dayF S p nt lk w s acc = (upK (ovP S (tnsF S w (lksF set s (wgsF s nt acc) nt).1 nt) nt) 3 (ovP S (tnsF S w (lksF set s (wgsF s nt acc) nt).1 nt) nt 3 + nI 1), (lksF set s (wgsF s nt acc) nt).2) := by
      rw [dayF_eq, hset]
    have es2 : daysF S p nt lk w (ma S 1) (i + 1) = _ := es.trans ed
    obtain ⟨st5, N5, e5, W5, n5, l5⟩ := ih (i + 1) m st4 N2 (by omega) (by omega) (by rw [es2]; exact W4) n4 (by omega)
    rw [es2] at e5
    refine ⟨st5, N5, ?_, W5, n5, by omega⟩
    rw [F_X12_run_53_s]
    simp (maxSteps := 3000000) (disch := omega) only [a3, e2, ma_msa_n, ma_msa_s, mi_msi_n, mi_msi_s, ml_msl_n, ml_msl_s, ma_msi, ma_msl, mi_msa, mi_msl, ml_msa, ml_msi, msa_msa, msi_msi, msl_msl, ck_m, gf_s, gf_image, gf_truths, gf_knownRow, gf_daysRow, gf_bests, gf_nots, gf_lookeds, gf_bestsAt, gf_worths, gf_keptKnown, gf_keptDays, gf_round, gf_sums, gf_bestRound, gf_bodies, gf_thrown, gf_hasImage, gf_act, gf_spot, gf_size, gf_isWrong, gf_open, gf_edgeThing, gf_edgeMore, gf_stamp, gf_whose, gf_wage, gf_roundMany, gf_bestSet, gf_ran, gf_kind, gf_who, gf_tellsV, pf_thrown, pf_hasImage, pf_act, pf_spot, pf_size, pf_isWrong, pf_open, pf_edgeThing, pf_edgeMore, pf_stamp, pf_whose, pf_wage, pf_roundMany, pf_bestSet, pf_ran, pf_kind, pf_who, pf_tellsV, al_s, as_s, al_image, as_image, al_truths, as_truths0, as_truths1, al_knownRow, as_knownRow, al_daysRow, as_daysRow, al_bests, as_bests, al_nots, as_nots, al_lookeds, as_lookeds, al_bestsAt, as_bestsAt, al_worths, as_worths, al_keptKnown, as_keptKnown, al_keptDays, as_keptDays, al_round, as_round, al_sums, as_sums, al_bestRound, as_bestRound, al_bodies, as_bodies, cl_some, nm_b, nn_some, qn_some, qn_none, zk_0, zk_1, zk_n0, zk_n1, nI_add, pk_mul, pk_sub, nI_leE, nI_ltE, nI_eqE, nI_lt0, nI_ge0, nI_eq0, nI_gt0, nI_le0, ilt_t, ilt_f, ile_t, ile_f, ieq_t, ieq_f, if_tt, if_ff, Nat.add_sub_cancel]
    rw [e75, e142, e4, nI_add]
    exact e5
/-- a run: the answer, the row after -/
def runF (S : MS) (nt lk td : Nat) (p d w : Int32) : Int64 × (Nat → Int32) :=
  if bIn p (nI 0) (ma S 1 2 - nI 1) = 0 then (noJ, ma S 1) else if bIn d (nI 1) (nI 30) = 0 then (noJ, ma S 1) else if bIn w (nI 0) (nI 999) = 0 then (noJ, ma S 1)
  else if nI td + d ≤ nI 999 then ((daysF S p.toNatClampNeg nt lk w (ma S 1) d.toNatClampNeg).2, (daysF S p.toNatClampNeg nt lk w (ma S 1) d.toNatClampNeg).1) else (noJ, ma S 1)
set_option maxRecDepth 100000 in
set_option maxHeartbeats 4000000 in
theorem f_run {st : MS} {nt np lk td N : Nat} (hB : BOk st nt np lk td) (hN : StOk st N) (hb : N + 48240 < 2 ^ 31) (p d w : Int32) : ∃ (st' : MS) (N' : Nat), F_X12_run G (encM G b st h0) nx b p d w = some ((runF st nt lk td p d w).1, encM G b st' h0, nx) ∧ Wr st (runF st nt lk td p d w).2 st' ∧ StOk st' N' ∧ N' ≤ N + 48240 := by
  have hB0 := hB
  obtain ⟨hL, hl3, ht, h2, hnp, hp, h3, htd⟩ := hB
  unfold F_X12_run F_X12_run_43 runF
  simp (maxSteps := 3000000) (disch := omega) only [f_isPlan, f_in, ma_msa_n, ma_msa_s, mi_msi_n, mi_msi_s, ml_msl_n, ml_msl_s, ma_msi, ma_msl, mi_msa, mi_msl, ml_msa, ml_msi, msa_msa, msi_msi, msl_msl, ck_m, gf_s, gf_image, gf_truths, gf_knownRow, gf_daysRow, gf_bests, gf_nots, gf_lookeds, gf_bestsAt, gf_worths, gf_keptKnown, gf_keptDays, gf_round, gf_sums, gf_bestRound, gf_bodies, gf_thrown, gf_hasImage, gf_act, gf_spot, gf_size, gf_isWrong, gf_open, gf_edgeThing, gf_edgeMore, gf_stamp, gf_whose, gf_wage, gf_roundMany, gf_bestSet, gf_ran, gf_kind, gf_who, gf_tellsV, pf_thrown, pf_hasImage, pf_act, pf_spot, pf_size, pf_isWrong, pf_open, pf_edgeThing, pf_edgeMore, pf_stamp, pf_whose, pf_wage, pf_roundMany, pf_bestSet, pf_ran, pf_kind, pf_who, pf_tellsV, al_s, as_s, al_image, as_image, al_truths, as_truths0, as_truths1, al_knownRow, as_knownRow, al_daysRow, as_daysRow, al_bests, as_bests, al_nots, as_nots, al_lookeds, as_lookeds, al_bestsAt, as_bestsAt, al_worths, as_worths, al_keptKnown, as_keptKnown, al_keptDays, as_keptDays, al_round, as_round, al_sums, as_sums, al_bestRound, as_bestRound, al_bodies, as_bodies, cl_some, nm_b, nn_some, qn_some, qn_none, zk_0, zk_1, zk_n0, zk_n1, nI_add, pk_mul, pk_sub, nI_leE, nI_ltE, nI_eqE, nI_lt0, nI_ge0, nI_eq0, nI_gt0, nI_le0, ilt_t, ilt_f, ile_t, ile_f, ieq_t, ieq_f, if_tt, if_ff, Nat.add_sub_cancel]
  rw [h2]
  by_cases c1 : bIn p (nI 0) (nI np - nI 1) = 0
  · rw [if_pos c1, if_pos c1]
    exact ⟨st, N, rfl, Wr.rf, hN, by omega⟩
  · rw [if_neg c1, if_neg c1]
    by_cases c2 : bIn d (nI 1) (nI 30) = 0
    · rw [if_pos c2, if_pos c2]
      exact ⟨st, N, rfl, Wr.rf, hN, by omega⟩
    · rw [if_neg c2, if_neg c2]
      by_cases c3 : bIn w (nI 0) (nI 999) = 0
      · rw [if_pos c3, if_pos c3]
        exact ⟨st, N, rfl, Wr.rf, hN, by omega⟩
      · rw [if_neg c3, if_neg c3]
        obtain ⟨p, hp1, rfl⟩ := bIn_nI (by omega) c1
        obtain ⟨d, hd1, hd3, rfl⟩ := bIn_lh (by omega) (by omega) c2
        rw [nI_clamp (by omega), nI_clamp (by omega)]
        simp (maxSteps := 3000000) (disch := omega) only [h3, ma_msa_n, ma_msa_s, mi_msi_n, mi_msi_s, ml_msl_n, ml_msl_s, ma_msi, ma_msl, mi_msa, mi_msl, ml_msa, ml_msi, msa_msa, msi_msi, msl_msl, ck_m, gf_s, gf_image, gf_truths, gf_knownRow, gf_daysRow, gf_bests, gf_nots, gf_lookeds, gf_bestsAt, gf_worths, gf_keptKnown, gf_keptDays, gf_round, gf_sums, gf_bestRound, gf_bodies, gf_thrown, gf_hasImage, gf_act, gf_spot, gf_size, gf_isWrong, gf_open, gf_edgeThing, gf_edgeMore, gf_stamp, gf_whose, gf_wage, gf_roundMany, gf_bestSet, gf_ran, gf_kind, gf_who, gf_tellsV, pf_thrown, pf_hasImage, pf_act, pf_spot, pf_size, pf_isWrong, pf_open, pf_edgeThing, pf_edgeMore, pf_stamp, pf_whose, pf_wage, pf_roundMany, pf_bestSet, pf_ran, pf_kind, pf_who, pf_tellsV, al_s, as_s, al_image, as_image, al_truths, as_truths0, as_truths1, al_knownRow, as_knownRow, al_daysRow, as_daysRow, al_bests, as_bests, al_nots, as_nots, al_lookeds, as_lookeds, al_bestsAt, as_bestsAt, al_worths, as_worths, al_keptKnown, as_keptKnown, al_keptDays, as_keptDays, al_round, as_round, al_sums, as_sums, al_bestRound, as_bestRound, al_bodies, as_bodies, cl_some, nm_b, nn_some, qn_some, qn_none, zk_0, zk_1, zk_n0, zk_n1, nI_add, pk_mul, pk_sub, nI_leE, nI_ltE, nI_eqE, nI_lt0, nI_ge0, nI_eq0, nI_gt0, nI_le0, ilt_t, ilt_f, ile_t, ile_f, ieq_t, ieq_f, if_tt, if_ff, Nat.add_sub_cancel]
        by_cases c4 : td + d ≤ 999
        · rw [if_pos c4, if_pos c4]
          obtain ⟨st', N', e, w', n', l'⟩ := f_run53 (G := G) (b := b) (h0 := h0) (nx := nx) (w := w) (days := d) hB0 hp1 c4 d 0 fuelL st N (by omega) (by unfold fuelL; omega) Wr.rf hN (by omega)
          exact ⟨st', N', e, w', n', by omega⟩
        · rw [if_neg c4, if_neg c4]
          exact ⟨st, N, rfl, Wr.rf, hN, by omega⟩
end M9
