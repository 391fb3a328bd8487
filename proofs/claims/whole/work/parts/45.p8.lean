/-- a clause: well or not, the place, what it tells, the steps it brings -/
def clT (w : Nat) (r : Bool × Nat × Int32) : Bool × Nat × Option (Nat × Int32) × List Int32 := (r.1, r.2.1, some (w, r.2.2), [])
def clC (r : Bool × Nat × List Int32) : Bool × Nat × Option (Nat × Int32) × List Int32 := (r.1, r.2.1, none, r.2.2)
def clP (tp : Nat → Int32) (z p : Nat) : Bool × Nat × Option (Nat × Int32) × List Int32 :=
  if hereP tp z p = nI 98 then clT 1 (tlP tp z 9 p)
  else if hereP tp z p = nI 104 then clC (chP tp z 1 p)
  else if hereP tp z p = nI 105 then clC (chP tp z 0 p)
  else if hereP tp z p = nI 108 then clT 2 (tlP tp z 10 p)
  else if hereP tp z p = nI 109 then clT 3 (tlP tp z 11 p)
  else if hereP tp z p = nI 119 then clT 0 (tlP tp z 8 p)
  else (false, p, none, [])
def wrO (s : Nat → Int32) (a : Nat) : Option (Nat × Int32) → Nat → Int32
  | none => s
  | some (w, v) => upK s (140 + 4 * a + w) v
/-- what a clause leaves -/
def Rc (st : MS) (a c d : Nat) (r : Bool × Nat × Option (Nat × Int32) × List Int32) (st' : MS) : Prop := (r.1 = true → FrM [5, 7, 8] (msa st 1 (emR (wrO (ma st 1) a r.2.2.1) a c r.2.2.2)) st' ∧ mi st' 5 = nI r.2.1 ∧ mi st' 8 = nI d ∧ mi st' 7 = nI 0) ∧ (r.1 = false → Rs st a c d (false, r.2.1, []) st')
theorem Rc.c {st st' : MS} {a c d : Nat} {r : Bool × Nat × List Int32} (h : Rs st a c d r st') : Rc st a c d (clC r) st' := by
  refine ⟨fun ok => ?_, fun no => ?_⟩
  · obtain ⟨X, f, q5, q8, qt, _⟩ := h
    obtain ⟨q7, hX⟩ := qt ok
    rw [hX] at f
    exact ⟨f, q5, q8, q7⟩
  · have no : r.1 = false := no
    exact h.no (by rw [no]; decide)
section P8
variable {G : Gx} {b : Nat} {h0 : Hp} {nx : Nat}
theorem f_tellsC {st : MS} {tp : Nat → Int32} {z p a c d w k : Nat} (hR : Rd st tp z p a c d) (hw : w < 4) (hk : k < 12) : ∃ st' : MS, F_X12_tells G (encM G b st h0) nx b (nI w) k = some ((), encM G b st' h0, nx) ∧ Rc st a c d (clT w (tlP tp z k p)) st' := by
  obtain ⟨st', e, h1, h2⟩ := f_tells (G := G) (b := b) (h0 := h0) (nx := nx) hR hw hk
  exact ⟨st', e, h1, h2⟩
set_option maxRecDepth 100000 in
set_option maxHeartbeats 4000000 in
theorem f_clause {st : MS} {tp : Nat → Int32} {z p a c : Nat} (hR : Rd st tp z p a c 0) : ∃ st' : MS, F_X12_clause G (encM G b st h0) nx b = some ((), encM G b st' h0, nx) ∧ Rc st a c 0 (clP tp z p) st' := by
  have hz := hR.1.2.2.1
  have e1 := f_here (G := G) (b := b) (h0 := h0) (nx := nx) hR.1
  rw [here_cg hz hR.2.2.2.2.2.2.2] at e1
  obtain ⟨s98, e98, r98⟩ := f_tellsC (G := G) (b := b) (h0 := h0) (nx := nx) (w := 1) (k := 9) hR (by omega) (by omega)
  obtain ⟨s104, e104, r104⟩ := f_changes (G := G) (b := b) (h0 := h0) (nx := nx) (w := 1) hR (by omega)
  obtain ⟨s105, e105, r105⟩ := f_changes (G := G) (b := b) (h0 := h0) (nx := nx) (w := 0) hR (by omega)
  obtain ⟨s108, e108, r108⟩ := f_tellsC (G := G) (b := b) (h0 := h0) (nx := nx) (w := 2) (k := 10) hR (by omega) (by omega)
  obtain ⟨s109, e109, r109⟩ := f_tellsC (G := G) (b := b) (h0 := h0) (nx := nx) (w := 3) (k := 11) hR (by omega) (by omega)
  obtain ⟨s119, e119, r119⟩ := f_tellsC (G := G) (b := b) (h0 := h0) (nx := nx) (w := 0) (k := 8) hR (by omega) (by omega)
  unfold F_X12_clause F_X12_clause_125 clP
  simp (maxSteps := 3000000) (disch := omega) only [e1, e98, e104, e105, e108, e109, e119, ma_msa_n, ma_msa_s, mi_msi_n, mi_msi_s, ml_msl_n, ml_msl_s, ma_msi, ma_msl, mi_msa, mi_msl, ml_msa, ml_msi, msa_msa, msi_msi, msl_msl, ck_m, gf_s, gf_image, gf_truths, gf_knownRow, gf_daysRow, gf_bests, gf_nots, gf_lookeds, gf_bestsAt, gf_worths, gf_keptKnown, gf_keptDays, gf_round, gf_sums, gf_bestRound, gf_bodies, gf_thrown, gf_hasImage, gf_act, gf_spot, gf_size, gf_isWrong, gf_open, gf_edgeThing, gf_edgeMore, gf_stamp, gf_whose, gf_wage, gf_roundMany, gf_bestSet, gf_ran, gf_kind, gf_who, gf_tellsV, pf_thrown, pf_hasImage, pf_act, pf_spot, pf_size, pf_isWrong, pf_open, pf_edgeThing, pf_edgeMore, pf_stamp, pf_whose, pf_wage, pf_roundMany, pf_bestSet, pf_ran, pf_kind, pf_who, pf_tellsV, al_s, as_s, al_image, as_image, al_truths, as_truths0, as_truths1, al_knownRow, as_knownRow, al_daysRow, as_daysRow, al_bests, as_bests, al_nots, as_nots, al_lookeds, as_lookeds, al_bestsAt, as_bestsAt, al_worths, as_worths, al_keptKnown, as_keptKnown, al_keptDays, as_keptDays, al_round, as_round, al_sums, as_sums, al_bestRound, as_bestRound, al_bodies, as_bodies, cl_some, nm_b, nn_some, qn_some, qn_none, zk_0, zk_1, zk_n0, zk_n1, nI_add, pk_mul, pk_sub, nI_leE, nI_ltE, nI_eqE, nI_lt0, nI_ge0, nI_eq0, nI_gt0, nI_le0, ilt_t, ilt_f, ile_t, ile_f, ieq_t, ieq_f, if_tt, if_ff, Nat.add_sub_cancel]
  by_cases c1 : hereP tp z p = nI 98
  · rw [if_pos c1, if_pos c1]
    exact ⟨s98, rfl, r98⟩
  rw [if_neg c1, if_neg c1]
  by_cases c2 : hereP tp z p = nI 104
  · rw [if_pos c2, if_pos c2]
    exact ⟨s104, rfl, Rc.c r104⟩
  rw [if_neg c2, if_neg c2]
  by_cases c3 : hereP tp z p = nI 105
  · rw [if_pos c3, if_pos c3]
    exact ⟨s105, rfl, Rc.c r105⟩
  rw [if_neg c3, if_neg c3]
  by_cases c4 : hereP tp z p = nI 108
  · rw [if_pos c4, if_pos c4]
    exact ⟨s108, rfl, r108⟩
  rw [if_neg c4, if_neg c4]
  by_cases c5 : hereP tp z p = nI 109
  · rw [if_pos c5, if_pos c5]
    exact ⟨s109, rfl, r109⟩
  rw [if_neg c5, if_neg c5]
  by_cases c6 : hereP tp z p = nI 119
  · rw [if_pos c6, if_pos c6]
    exact ⟨s119, rfl, r119⟩
  rw [if_neg c6, if_neg c6]
  refine ⟨msi st 7 (nI 1), rfl, fun q => absurd q (show ¬ false = true by decide), fun _ => ?_⟩
  exact Rs.bad (fun k n5 n7 n8 => mi_msi_n n7) rfl rfl hR.1.1 hR.2.2.1 mi_msi_s
end P8
