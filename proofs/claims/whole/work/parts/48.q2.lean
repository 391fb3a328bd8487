/-- clauses from a place on: well or not, the place, how many steps, the row -/
def soP (tp : Nat → Int32) (z a : Nat) : Nat → Nat → Nat → (Nat → Int32) → Bool × Nat × Nat × (Nat → Int32)
  | 0, p, c, X => (true, p, c, X)
  | r + 1, p, c, X =>
    if hereP tp z p = nI 59 then
      (if (clP tp z (p + 1)).1 = true then soP tp z a r (clP tp z (p + 1)).2.1 (c + (clP tp z (p + 1)).2.2.2.length) (emR (wrO X a (clP tp z (p + 1)).2.2.1) a c (clP tp z (p + 1)).2.2.2) else (false, (clP tp z (p + 1)).2.1, c, X))
    else (true, p, c, X)
theorem clP_w {tp : Nat → Int32} {z p : Nat} : ∀ w v, (clP tp z p).2.2.1 = some (w, v) → w < 4 := by
  intro w v h
  have one : ∀ (k : Nat) (r : Bool × Nat × Int32), k < 4 → (clT k r).2.2.1 = some (w, v) → w < 4 := fun k r hk q => by
    have q : some (k, r.2.2) = some (w, v) := q
    injection q with q
    injection q with q1 q2
    omega
  have non : ∀ (r : Bool × Nat × List Int32), (clC r).2.2.1 = some (w, v) → w < 4 := fun r q => by
    have q : (none : Option (Nat × Int32)) = some (w, v) := q
    cases q
  unfold clP at h
  split at h
  · exact one 1 _ (by omega) h
  · split at h
    · exact non _ h
    · split at h
      · exact non _ h
      · split at h
        · exact one 2 _ (by omega) h
        · split at h
          · exact one 3 _ (by omega) h
          · split at h
            · exact one 0 _ (by omega) h
            · have q : (none : Option (Nat × Int32)) = some (w, v) := h
              cases q
theorem wrO_n {s : Nat → Int32} {a k : Nat} {o : Option (Nat × Int32)} (ho : ∀ w v, o = some (w, v) → w < 4) (hk : k < 140 + 4 * a ∨ 144 + 4 * a ≤ k) : wrO s a o k = s k := by
  cases o with
  | none => rfl
  | some q =>
    obtain ⟨w, v⟩ := q
    have := ho w v rfl
    exact upK_n (by omega)
/-- a clause went well: the reader after -/
theorem Rc.rd {st st' : MS} {tp : Nat → Int32} {z q a c : Nat} {r : Bool × Nat × Option (Nat × Int32) × List Int32} (hR : Rd st tp z q a c 0) (h : Rc st a c 0 r st') (ok : r.1 = true) (ho : ∀ w v, r.2.2.1 = some (w, v) → w < 4) (hp : c + r.2.2.2.length ≤ r.2.1) (hz : r.2.1 ≤ z) : Rd st' tp z r.2.1 a (c + r.2.2.2.length) 0 ∧ ma st' 1 = emR (wrO (ma st 1) a r.2.2.1) a c r.2.2.2 ∧ AgF a (ma st 1) (ma st' 1) := by
  obtain ⟨⟨h5, h6, hz1, hp1⟩, h7, h8, h4, ha, hc, hcp, htp⟩ := hR
  obtain ⟨f, q5, q8, q7⟩ := h.1 ok
  have e1 : ma st' 1 = emR (wrO (ma st 1) a r.2.2.1) a c r.2.2.2 := by rw [f.ofa 1 (by decide), ma_msa_s]
  have ag : AgF a (ma st 1) (ma st' 1) := by
    rw [e1]
    exact AgF.trans (fun k _ k2 _ => wrO_n ho k2) (emR_ag r.2.2.2 _ c ha (by omega))
  refine ⟨⟨⟨q5, (f.of1 6 (by decide)).trans h6, hz1, hz⟩, q7, q8, (f.of1 4 (by decide)).trans h4, ha, by rw [e1]; exact emR_cn _ _ _ ((wrO_n ho (by omega)).trans hc), by omega, fun i hi => ?_⟩, e1, ag⟩
  rw [← htp i hi]
  unfold tpM
  exact ag (10 + i) (by omega) (by omega) (by omega)
