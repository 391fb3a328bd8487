/-! THE REFERENCE: its numbers (by their fields), its arrays, its cells at b .. b + 16. -/
theorem fits_z {x : Int32} (h : x = 0 ∨ x = 1) : fits .boolean (.int x) = true := by
  rcases h with rfl | rfl <;> rfl
theorem nar_z {x : Int32} (h : x = 0 ∨ x = 1) : narrow .boolean (.int x) = .int x := by
  rcases h with rfl | rfl <;> rfl
abbrev MS : Type := (Nat → Int32) × (Nat → Nat → Int32) × (Nat → Nat → Int64)
def mi (st : MS) : Nat → Int32 := st.1
def ma (st : MS) : Nat → Nat → Int32 := st.2.1
def ml (st : MS) : Nat → Nat → Int64 := st.2.2
def upK {α : Type} (f : Nat → α) (k : Nat) (x : α) : Nat → α := fun j => if j = k then x else f j
theorem upK_s {α : Type} {f : Nat → α} {k : Nat} {x : α} : upK f k x k = x := if_pos rfl
theorem upK_n {α : Type} {f : Nat → α} {k j : Nat} {x : α} (h : j ≠ k) : upK f k x j = f j := if_neg h
def msi (st : MS) (k : Nat) (x : Int32) : MS := (upK st.1 k x, st.2.1, st.2.2)
def msa (st : MS) (k : Nat) (f : Nat → Int32) : MS := (st.1, upK st.2.1 k f, st.2.2)
def msl (st : MS) (k : Nat) (f : Nat → Int64) : MS := (st.1, st.2.1, upK st.2.2 k f)
def mFs (b : Nat) (st : MS) : List Value := [.int (mi st 0), .ref (b + 1), .ref (b + 2), .int (mi st 3), .int (mi st 4), .int (mi st 5), .int (mi st 6), .int (mi st 7), .int (mi st 8), .ref (b + 3), .int (mi st 10), .int (mi st 11), .ref (b + 4), .ref (b + 5), .ref (b + 6), .ref (b + 7), .ref (b + 8), .ref (b + 9), .int (mi st 18), .int (mi st 19), .int (mi st 20), .ref (b + 10), .ref (b + 11), .ref (b + 12), .ref (b + 13), .int (mi st 25), .int (mi st 26), .ref (b + 14), .ref (b + 15), .ref (b + 16), .int (mi st 30), .int (mi st 31), .int (mi st 32), .int (mi st 33)]
/-- the reference's cells over the rest of the heap -/
def encM (G : Gx) (b : Nat) (st : MS) (h0 : Hp) : Hp := fun a => if a = b then some (ob 12 (mFs b st)) else if a = b + 1 then some (aI G 1240 (ma st 1)) else if a = b + 2 then some (aI G 1240 (ma st 2)) else if a = b + 3 then some (aZ G 64 (ma st 9)) else if a = b + 4 then some (aI G 27 (ma st 12)) else if a = b + 5 then some (aI G 27 (ma st 13)) else if a = b + 6 then some (aJ G 243 (ml st 14)) else if a = b + 7 then some (aJ G 243 (ml st 15)) else if a = b + 8 then some (aJ G 243 (ml st 16)) else if a = b + 9 then some (aI G 243 (ma st 17)) else if a = b + 10 then some (aI G 8 (ma st 21)) else if a = b + 11 then some (aI G 32 (ma st 22)) else if a = b + 12 then some (aI G 32 (ma st 23)) else if a = b + 13 then some (aI G 3 (ma st 24)) else if a = b + 14 then some (aJ G 201 (ml st 27)) else if a = b + 15 then some (aI G 3 (ma st 28)) else if a = b + 16 then some (aI G 20 (ma st 29)) else h0 a
theorem encM_0 {G : Gx} {b : Nat} {st : MS} {h0 : Hp} : encM G b st h0 b = some (ob 12 (mFs b st)) := by simp [encM]
theorem encM_s {G : Gx} {b : Nat} {st : MS} {h0 : Hp} : encM G b st h0 (b + 1) = some (aI G 1240 (ma st 1)) := by simp [encM]
theorem encM_image {G : Gx} {b : Nat} {st : MS} {h0 : Hp} : encM G b st h0 (b + 2) = some (aI G 1240 (ma st 2)) := by simp [encM]
theorem encM_truths {G : Gx} {b : Nat} {st : MS} {h0 : Hp} : encM G b st h0 (b + 3) = some (aZ G 64 (ma st 9)) := by simp [encM]
theorem encM_knownRow {G : Gx} {b : Nat} {st : MS} {h0 : Hp} : encM G b st h0 (b + 4) = some (aI G 27 (ma st 12)) := by simp [encM]
theorem encM_daysRow {G : Gx} {b : Nat} {st : MS} {h0 : Hp} : encM G b st h0 (b + 5) = some (aI G 27 (ma st 13)) := by simp [encM]
theorem encM_bests {G : Gx} {b : Nat} {st : MS} {h0 : Hp} : encM G b st h0 (b + 6) = some (aJ G 243 (ml st 14)) := by simp [encM]
theorem encM_nots {G : Gx} {b : Nat} {st : MS} {h0 : Hp} : encM G b st h0 (b + 7) = some (aJ G 243 (ml st 15)) := by simp [encM]
theorem encM_lookeds {G : Gx} {b : Nat} {st : MS} {h0 : Hp} : encM G b st h0 (b + 8) = some (aJ G 243 (ml st 16)) := by simp [encM]
theorem encM_bestsAt {G : Gx} {b : Nat} {st : MS} {h0 : Hp} : encM G b st h0 (b + 9) = some (aI G 243 (ma st 17)) := by simp [encM]
theorem encM_worths {G : Gx} {b : Nat} {st : MS} {h0 : Hp} : encM G b st h0 (b + 10) = some (aI G 8 (ma st 21)) := by simp [encM]
theorem encM_keptKnown {G : Gx} {b : Nat} {st : MS} {h0 : Hp} : encM G b st h0 (b + 11) = some (aI G 32 (ma st 22)) := by simp [encM]
theorem encM_keptDays {G : Gx} {b : Nat} {st : MS} {h0 : Hp} : encM G b st h0 (b + 12) = some (aI G 32 (ma st 23)) := by simp [encM]
theorem encM_round {G : Gx} {b : Nat} {st : MS} {h0 : Hp} : encM G b st h0 (b + 13) = some (aI G 3 (ma st 24)) := by simp [encM]
theorem encM_sums {G : Gx} {b : Nat} {st : MS} {h0 : Hp} : encM G b st h0 (b + 14) = some (aJ G 201 (ml st 27)) := by simp [encM]
theorem encM_bestRound {G : Gx} {b : Nat} {st : MS} {h0 : Hp} : encM G b st h0 (b + 15) = some (aI G 3 (ma st 28)) := by simp [encM]
theorem encM_bodies {G : Gx} {b : Nat} {st : MS} {h0 : Hp} : encM G b st h0 (b + 16) = some (aI G 20 (ma st 29)) := by simp [encM]
theorem encM_out {G : Gx} {b : Nat} {st : MS} {h0 : Hp} {a : Nat} (h : a < b ∨ b + 17 ≤ a) : encM G b st h0 a = h0 a := by
  unfold encM
  rw [if_neg (by omega), if_neg (by omega), if_neg (by omega), if_neg (by omega), if_neg (by omega), if_neg (by omega), if_neg (by omega), if_neg (by omega), if_neg (by omega), if_neg (by omega), if_neg (by omega), if_neg (by omega), if_neg (by omega), if_neg (by omega), if_neg (by omega), if_neg (by omega), if_neg (by omega)]
theorem encM_set0 {G : Gx} {b : Nat} {st st' : MS} {h0 : Hp} (h1 : st'.2 = st.2) : hset (encM G b st h0) b (ob 12 (mFs b st')) = encM G b st' h0 := by
  obtain ⟨i1, a1, l1⟩ := st
  obtain ⟨i2, a2, l2⟩ := st'
  cases h1
  funext a
  unfold hset encM
  by_cases e : a = b
  · rw [if_pos e, if_pos e]
  · rw [if_neg e, if_neg e, if_neg e]
    rfl
theorem encM_set_s {G : Gx} {b : Nat} {st : MS} {h0 : Hp} {f : Nat → Int32} : hset (encM G b st h0) (b + 1) (aI G 1240 f) = encM G b (msa st 1 f) h0 := by
  funext a
  unfold hset
  by_cases e : a = b + 1
  · subst e
    rw [if_pos rfl, encM_s]
    simp [ma, msa, upK]
  · rw [if_neg e]
    simp only [encM, if_neg e]
    simp [msa, upK, mi, ma, ml, mFs, upK]
theorem encM_set_image {G : Gx} {b : Nat} {st : MS} {h0 : Hp} {f : Nat → Int32} : hset (encM G b st h0) (b + 2) (aI G 1240 f) = encM G b (msa st 2 f) h0 := by
  funext a
  unfold hset
  by_cases e : a = b + 2
  · subst e
    rw [if_pos rfl, encM_image]
    simp [ma, msa, upK]
  · rw [if_neg e]
    simp only [encM, if_neg e]
    simp [msa, upK, mi, ma, ml, mFs, upK]
theorem encM_set_truths {G : Gx} {b : Nat} {st : MS} {h0 : Hp} {f : Nat → Int32} : hset (encM G b st h0) (b + 3) (aZ G 64 f) = encM G b (msa st 9 f) h0 := by
  funext a
  unfold hset
  by_cases e : a = b + 3
  · subst e
    rw [if_pos rfl, encM_truths]
    simp [ma, msa, upK]
  · rw [if_neg e]
    simp only [encM, if_neg e]
    simp [msa, upK, mi, ma, ml, mFs, upK]
theorem encM_set_knownRow {G : Gx} {b : Nat} {st : MS} {h0 : Hp} {f : Nat → Int32} : hset (encM G b st h0) (b + 4) (aI G 27 f) = encM G b (msa st 12 f) h0 := by
  funext a
  unfold hset
  by_cases e : a = b + 4
  · subst e
    rw [if_pos rfl, encM_knownRow]
    simp [ma, msa, upK]
  · rw [if_neg e]
    simp only [encM, if_neg e]
    simp [msa, upK, mi, ma, ml, mFs, upK]
theorem encM_set_daysRow {G : Gx} {b : Nat} {st : MS} {h0 : Hp} {f : Nat → Int32} : hset (encM G b st h0) (b + 5) (aI G 27 f) = encM G b (msa st 13 f) h0 := by
  funext a
  unfold hset
  by_cases e : a = b + 5
  · subst e
    rw [if_pos rfl, encM_daysRow]
    simp [ma, msa, upK]
  · rw [if_neg e]
    simp only [encM, if_neg e]
    simp [msa, upK, mi, ma, ml, mFs, upK]
theorem encM_set_bests {G : Gx} {b : Nat} {st : MS} {h0 : Hp} {f : Nat → Int64} : hset (encM G b st h0) (b + 6) (aJ G 243 f) = encM G b (msl st 14 f) h0 := by
  funext a
  unfold hset
  by_cases e : a = b + 6
  · subst e
    rw [if_pos rfl, encM_bests]
    simp [ml, msl, upK]
  · rw [if_neg e]
    simp only [encM, if_neg e]
    simp [msl, upK, mi, ma, ml, mFs, upK]
theorem encM_set_nots {G : Gx} {b : Nat} {st : MS} {h0 : Hp} {f : Nat → Int64} : hset (encM G b st h0) (b + 7) (aJ G 243 f) = encM G b (msl st 15 f) h0 := by
  funext a
  unfold hset
  by_cases e : a = b + 7
  · subst e
    rw [if_pos rfl, encM_nots]
    simp [ml, msl, upK]
  · rw [if_neg e]
    simp only [encM, if_neg e]
    simp [msl, upK, mi, ma, ml, mFs, upK]
theorem encM_set_lookeds {G : Gx} {b : Nat} {st : MS} {h0 : Hp} {f : Nat → Int64} : hset (encM G b st h0) (b + 8) (aJ G 243 f) = encM G b (msl st 16 f) h0 := by
  funext a
  unfold hset
  by_cases e : a = b + 8
  · subst e
    rw [if_pos rfl, encM_lookeds]
    simp [ml, msl, upK]
  · rw [if_neg e]
    simp only [encM, if_neg e]
    simp [msl, upK, mi, ma, ml, mFs, upK]
theorem encM_set_bestsAt {G : Gx} {b : Nat} {st : MS} {h0 : Hp} {f : Nat → Int32} : hset (encM G b st h0) (b + 9) (aI G 243 f) = encM G b (msa st 17 f) h0 := by
  funext a
  unfold hset
  by_cases e : a = b + 9
  · subst e
    rw [if_pos rfl, encM_bestsAt]
    simp [ma, msa, upK]
  · rw [if_neg e]
    simp only [encM, if_neg e]
    simp [msa, upK, mi, ma, ml, mFs, upK]
theorem encM_set_worths {G : Gx} {b : Nat} {st : MS} {h0 : Hp} {f : Nat → Int32} : hset (encM G b st h0) (b + 10) (aI G 8 f) = encM G b (msa st 21 f) h0 := by
  funext a
  unfold hset
  by_cases e : a = b + 10
  · subst e
    rw [if_pos rfl, encM_worths]
    simp [ma, msa, upK]
  · rw [if_neg e]
    simp only [encM, if_neg e]
    simp [msa, upK, mi, ma, ml, mFs, upK]
theorem encM_set_keptKnown {G : Gx} {b : Nat} {st : MS} {h0 : Hp} {f : Nat → Int32} : hset (encM G b st h0) (b + 11) (aI G 32 f) = encM G b (msa st 22 f) h0 := by
  funext a
  unfold hset
  by_cases e : a = b + 11
  · subst e
    rw [if_pos rfl, encM_keptKnown]
    simp [ma, msa, upK]
  · rw [if_neg e]
    simp only [encM, if_neg e]
    simp [msa, upK, mi, ma, ml, mFs, upK]
theorem encM_set_keptDays {G : Gx} {b : Nat} {st : MS} {h0 : Hp} {f : Nat → Int32} : hset (encM G b st h0) (b + 12) (aI G 32 f) = encM G b (msa st 23 f) h0 := by
  funext a
  unfold hset
  by_cases e : a = b + 12
  · subst e
    rw [if_pos rfl, encM_keptDays]
    simp [ma, msa, upK]
  · rw [if_neg e]
    simp only [encM, if_neg e]
    simp [msa, upK, mi, ma, ml, mFs, upK]
theorem encM_set_round {G : Gx} {b : Nat} {st : MS} {h0 : Hp} {f : Nat → Int32} : hset (encM G b st h0) (b + 13) (aI G 3 f) = encM G b (msa st 24 f) h0 := by
  funext a
  unfold hset
  by_cases e : a = b + 13
  · subst e
    rw [if_pos rfl, encM_round]
    simp [ma, msa, upK]
  · rw [if_neg e]
    simp only [encM, if_neg e]
    simp [msa, upK, mi, ma, ml, mFs, upK]
theorem encM_set_sums {G : Gx} {b : Nat} {st : MS} {h0 : Hp} {f : Nat → Int64} : hset (encM G b st h0) (b + 14) (aJ G 201 f) = encM G b (msl st 27 f) h0 := by
  funext a
  unfold hset
  by_cases e : a = b + 14
  · subst e
    rw [if_pos rfl, encM_sums]
    simp [ml, msl, upK]
  · rw [if_neg e]
    simp only [encM, if_neg e]
    simp [msl, upK, mi, ma, ml, mFs, upK]
theorem encM_set_bestRound {G : Gx} {b : Nat} {st : MS} {h0 : Hp} {f : Nat → Int32} : hset (encM G b st h0) (b + 15) (aI G 3 f) = encM G b (msa st 28 f) h0 := by
  funext a
  unfold hset
  by_cases e : a = b + 15
  · subst e
    rw [if_pos rfl, encM_bestRound]
    simp [ma, msa, upK]
  · rw [if_neg e]
    simp only [encM, if_neg e]
    simp [msa, upK, mi, ma, ml, mFs, upK]
theorem encM_set_bodies {G : Gx} {b : Nat} {st : MS} {h0 : Hp} {f : Nat → Int32} : hset (encM G b st h0) (b + 16) (aI G 20 f) = encM G b (msa st 29 f) h0 := by
  funext a
  unfold hset
  by_cases e : a = b + 16
  · subst e
    rw [if_pos rfl, encM_bodies]
    simp [ma, msa, upK]
  · rw [if_neg e]
    simp only [encM, if_neg e]
    simp [msa, upK, mi, ma, ml, mFs, upK]
section MR
variable {G : Gx} {M : Mt} {d : Nat} {post : Po} {pc : Nat} {ls : Lc} {stk : List Value} {nx kc ks b : Nat} {st : MS} {h0 : Hp}
theorem Ok.mget_s (ho : m_own M = RX12) (hd : decode (m_cc M) pc = .ok (.getfield 9, 3)) (k : Ok G M d post (pc + 3) ls (.ref (b + 1) :: stk) (encM G b st h0) nx kc ks) : Ok G M d post pc ls (.ref b :: stk) (encM G b st h0) nx kc ks :=
  Ok.getf (T := TX12) (N := 34) (kf := 1) (ci := 12) (ref := "GateWatchModel") hd rfl inX12 (by decide) (by rw [ho]; exact wd1088) (Or.inl rfl) encM_0 rfl k
theorem Ok.mget_image (ho : m_own M = RX12) (hd : decode (m_cc M) pc = .ok (.getfield 15, 3)) (k : Ok G M d post (pc + 3) ls (.ref (b + 2) :: stk) (encM G b st h0) nx kc ks) : Ok G M d post pc ls (.ref b :: stk) (encM G b st h0) nx kc ks :=
  Ok.getf (T := TX12) (N := 34) (kf := 2) (ci := 12) (ref := "GateWatchModel") hd rfl inX12 (by decide) (by rw [ho]; exact wd1089) (Or.inl rfl) encM_0 rfl k
theorem Ok.mget_hasImage (ho : m_own M = RX12) (hd : decode (m_cc M) pc = .ok (.getfield 331, 3)) (k : Ok G M d post (pc + 3) ls (.int (mi st 3) :: stk) (encM G b st h0) nx kc ks) : Ok G M d post pc ls (.ref b :: stk) (encM G b st h0) nx kc ks :=
  Ok.getf (T := TX12) (N := 34) (kf := 3) (ci := 12) (ref := "GateWatchModel") hd rfl inX12 (by decide) (by rw [ho]; exact wd1090) (Or.inl rfl) encM_0 rfl k
theorem Ok.mput_hasImage {x : Int32} (ho : m_own M = RX12) (hd : decode (m_cc M) pc = .ok (.putfield 331, 3)) (hx : x = 0 ∨ x = 1) (k : Ok G M d post (pc + 3) ls stk (encM G b (msi st 3 x) h0) nx kc ks) : Ok G M d post pc ls (.int x :: .ref b :: stk) (encM G b st h0) nx kc ks :=
  Ok.putf (T := TX12) (N := 34) (kf := 3) (ci := 12) (ref := "GateWatchModel") (ty := .boolean) hd rfl inX12 tyX12 tyX12_ok nmX12 (by decide) (by rw [ho]; exact wd1090) (Or.inl rfl) rfl (by decide +kernel) (nar_z hx) (fits_z hx) (by show 3 < 34; decide) encM_0 (Ok.eqh k ((show hset (encM G b st h0) b (ob 12 (mFs b (msi st 3 x))) = _ from encM_set0 rfl)))
theorem Ok.mget_act (ho : m_own M = RX12) (hd : decode (m_cc M) pc = .ok (.getfield 102, 3)) (k : Ok G M d post (pc + 3) ls (.int (mi st 4) :: stk) (encM G b st h0) nx kc ks) : Ok G M d post pc ls (.ref b :: stk) (encM G b st h0) nx kc ks :=
  Ok.getf (T := TX12) (N := 34) (kf := 4) (ci := 12) (ref := "GateWatchModel") hd rfl inX12 (by decide) (by rw [ho]; exact wd1091) (Or.inl rfl) encM_0 rfl k
theorem Ok.mput_act {x : Int32} (ho : m_own M = RX12) (hd : decode (m_cc M) pc = .ok (.putfield 102, 3)) (k : Ok G M d post (pc + 3) ls stk (encM G b (msi st 4 x) h0) nx kc ks) : Ok G M d post pc ls (.int x :: .ref b :: stk) (encM G b st h0) nx kc ks :=
  Ok.putf (T := TX12) (N := 34) (kf := 4) (ci := 12) (ref := "GateWatchModel") (ty := .int) hd rfl inX12 tyX12 tyX12_ok nmX12 (by decide) (by rw [ho]; exact wd1091) (Or.inl rfl) rfl (by decide +kernel) rfl rfl (by show 4 < 34; decide) encM_0 (Ok.eqh k ((show hset (encM G b st h0) b (ob 12 (mFs b (msi st 4 x))) = _ from encM_set0 rfl)))
theorem Ok.mget_spot (ho : m_own M = RX12) (hd : decode (m_cc M) pc = .ok (.getfield 75, 3)) (k : Ok G M d post (pc + 3) ls (.int (mi st 5) :: stk) (encM G b st h0) nx kc ks) : Ok G M d post pc ls (.ref b :: stk) (encM G b st h0) nx kc ks :=
  Ok.getf (T := TX12) (N := 34) (kf := 5) (ci := 12) (ref := "GateWatchModel") hd rfl inX12 (by decide) (by rw [ho]; exact wd1092) (Or.inl rfl) encM_0 rfl k
theorem Ok.mput_spot {x : Int32} (ho : m_own M = RX12) (hd : decode (m_cc M) pc = .ok (.putfield 75, 3)) (k : Ok G M d post (pc + 3) ls stk (encM G b (msi st 5 x) h0) nx kc ks) : Ok G M d post pc ls (.int x :: .ref b :: stk) (encM G b st h0) nx kc ks :=
  Ok.putf (T := TX12) (N := 34) (kf := 5) (ci := 12) (ref := "GateWatchModel") (ty := .int) hd rfl inX12 tyX12 tyX12_ok nmX12 (by decide) (by rw [ho]; exact wd1092) (Or.inl rfl) rfl (by decide +kernel) rfl rfl (by show 5 < 34; decide) encM_0 (Ok.eqh k ((show hset (encM G b st h0) b (ob 12 (mFs b (msi st 5 x))) = _ from encM_set0 rfl)))
theorem Ok.mget_size (ho : m_own M = RX12) (hd : decode (m_cc M) pc = .ok (.getfield 78, 3)) (k : Ok G M d post (pc + 3) ls (.int (mi st 6) :: stk) (encM G b st h0) nx kc ks) : Ok G M d post pc ls (.ref b :: stk) (encM G b st h0) nx kc ks :=
  Ok.getf (T := TX12) (N := 34) (kf := 6) (ci := 12) (ref := "GateWatchModel") hd rfl inX12 (by decide) (by rw [ho]; exact wd1093) (Or.inl rfl) encM_0 rfl k
theorem Ok.mput_size {x : Int32} (ho : m_own M = RX12) (hd : decode (m_cc M) pc = .ok (.putfield 78, 3)) (k : Ok G M d post (pc + 3) ls stk (encM G b (msi st 6 x) h0) nx kc ks) : Ok G M d post pc ls (.int x :: .ref b :: stk) (encM G b st h0) nx kc ks :=
  Ok.putf (T := TX12) (N := 34) (kf := 6) (ci := 12) (ref := "GateWatchModel") (ty := .int) hd rfl inX12 tyX12 tyX12_ok nmX12 (by decide) (by rw [ho]; exact wd1093) (Or.inl rfl) rfl (by decide +kernel) rfl rfl (by show 6 < 34; decide) encM_0 (Ok.eqh k ((show hset (encM G b st h0) b (ob 12 (mFs b (msi st 6 x))) = _ from encM_set0 rfl)))
theorem Ok.mget_isWrong (ho : m_own M = RX12) (hd : decode (m_cc M) pc = .ok (.getfield 81, 3)) (k : Ok G M d post (pc + 3) ls (.int (mi st 7) :: stk) (encM G b st h0) nx kc ks) : Ok G M d post pc ls (.ref b :: stk) (encM G b st h0) nx kc ks :=
  Ok.getf (T := TX12) (N := 34) (kf := 7) (ci := 12) (ref := "GateWatchModel") hd rfl inX12 (by decide) (by rw [ho]; exact wd1094) (Or.inl rfl) encM_0 rfl k
theorem Ok.mput_isWrong {x : Int32} (ho : m_own M = RX12) (hd : decode (m_cc M) pc = .ok (.putfield 81, 3)) (hx : x = 0 ∨ x = 1) (k : Ok G M d post (pc + 3) ls stk (encM G b (msi st 7 x) h0) nx kc ks) : Ok G M d post pc ls (.int x :: .ref b :: stk) (encM G b st h0) nx kc ks :=
  Ok.putf (T := TX12) (N := 34) (kf := 7) (ci := 12) (ref := "GateWatchModel") (ty := .boolean) hd rfl inX12 tyX12 tyX12_ok nmX12 (by decide) (by rw [ho]; exact wd1094) (Or.inl rfl) rfl (by decide +kernel) (nar_z hx) (fits_z hx) (by show 7 < 34; decide) encM_0 (Ok.eqh k ((show hset (encM G b st h0) b (ob 12 (mFs b (msi st 7 x))) = _ from encM_set0 rfl)))
theorem Ok.mget_open (ho : m_own M = RX12) (hd : decode (m_cc M) pc = .ok (.getfield 105, 3)) (k : Ok G M d post (pc + 3) ls (.int (mi st 8) :: stk) (encM G b st h0) nx kc ks) : Ok G M d post pc ls (.ref b :: stk) (encM G b st h0) nx kc ks :=
  Ok.getf (T := TX12) (N := 34) (kf := 8) (ci := 12) (ref := "GateWatchModel") hd rfl inX12 (by decide) (by rw [ho]; exact wd1095) (Or.inl rfl) encM_0 rfl k
theorem Ok.mput_open {x : Int32} (ho : m_own M = RX12) (hd : decode (m_cc M) pc = .ok (.putfield 105, 3)) (k : Ok G M d post (pc + 3) ls stk (encM G b (msi st 8 x) h0) nx kc ks) : Ok G M d post pc ls (.int x :: .ref b :: stk) (encM G b st h0) nx kc ks :=
  Ok.putf (T := TX12) (N := 34) (kf := 8) (ci := 12) (ref := "GateWatchModel") (ty := .int) hd rfl inX12 tyX12 tyX12_ok nmX12 (by decide) (by rw [ho]; exact wd1095) (Or.inl rfl) rfl (by decide +kernel) rfl rfl (by show 8 < 34; decide) encM_0 (Ok.eqh k ((show hset (encM G b st h0) b (ob 12 (mFs b (msi st 8 x))) = _ from encM_set0 rfl)))
theorem Ok.mget_truths (ho : m_own M = RX12) (hd : decode (m_cc M) pc = .ok (.getfield 18, 3)) (k : Ok G M d post (pc + 3) ls (.ref (b + 3) :: stk) (encM G b st h0) nx kc ks) : Ok G M d post pc ls (.ref b :: stk) (encM G b st h0) nx kc ks :=
  Ok.getf (T := TX12) (N := 34) (kf := 9) (ci := 12) (ref := "GateWatchModel") hd rfl inX12 (by decide) (by rw [ho]; exact wd1096) (Or.inl rfl) encM_0 rfl k
theorem Ok.mget_edgeThing (ho : m_own M = RX12) (hd : decode (m_cc M) pc = .ok (.getfield 22, 3)) (k : Ok G M d post (pc + 3) ls (.int (mi st 10) :: stk) (encM G b st h0) nx kc ks) : Ok G M d post pc ls (.ref b :: stk) (encM G b st h0) nx kc ks :=
  Ok.getf (T := TX12) (N := 34) (kf := 10) (ci := 12) (ref := "GateWatchModel") hd rfl inX12 (by decide) (by rw [ho]; exact wd1097) (Or.inl rfl) encM_0 rfl k
theorem Ok.mput_edgeThing {x : Int32} (ho : m_own M = RX12) (hd : decode (m_cc M) pc = .ok (.putfield 22, 3)) (k : Ok G M d post (pc + 3) ls stk (encM G b (msi st 10 x) h0) nx kc ks) : Ok G M d post pc ls (.int x :: .ref b :: stk) (encM G b st h0) nx kc ks :=
  Ok.putf (T := TX12) (N := 34) (kf := 10) (ci := 12) (ref := "GateWatchModel") (ty := .int) hd rfl inX12 tyX12 tyX12_ok nmX12 (by decide) (by rw [ho]; exact wd1097) (Or.inl rfl) rfl (by decide +kernel) rfl rfl (by show 10 < 34; decide) encM_0 (Ok.eqh k ((show hset (encM G b st h0) b (ob 12 (mFs b (msi st 10 x))) = _ from encM_set0 rfl)))
theorem Ok.mget_edgeMore (ho : m_own M = RX12) (hd : decode (m_cc M) pc = .ok (.getfield 161, 3)) (k : Ok G M d post (pc + 3) ls (.int (mi st 11) :: stk) (encM G b st h0) nx kc ks) : Ok G M d post pc ls (.ref b :: stk) (encM G b st h0) nx kc ks :=
  Ok.getf (T := TX12) (N := 34) (kf := 11) (ci := 12) (ref := "GateWatchModel") hd rfl inX12 (by decide) (by rw [ho]; exact wd1098) (Or.inl rfl) encM_0 rfl k
theorem Ok.mput_edgeMore {x : Int32} (ho : m_own M = RX12) (hd : decode (m_cc M) pc = .ok (.putfield 161, 3)) (k : Ok G M d post (pc + 3) ls stk (encM G b (msi st 11 x) h0) nx kc ks) : Ok G M d post pc ls (.int x :: .ref b :: stk) (encM G b st h0) nx kc ks :=
  Ok.putf (T := TX12) (N := 34) (kf := 11) (ci := 12) (ref := "GateWatchModel") (ty := .int) hd rfl inX12 tyX12 tyX12_ok nmX12 (by decide) (by rw [ho]; exact wd1098) (Or.inl rfl) rfl (by decide +kernel) rfl rfl (by show 11 < 34; decide) encM_0 (Ok.eqh k ((show hset (encM G b st h0) b (ob 12 (mFs b (msi st 11 x))) = _ from encM_set0 rfl)))
theorem Ok.mget_knownRow (ho : m_own M = RX12) (hd : decode (m_cc M) pc = .ok (.getfield 26, 3)) (k : Ok G M d post (pc + 3) ls (.ref (b + 4) :: stk) (encM G b st h0) nx kc ks) : Ok G M d post pc ls (.ref b :: stk) (encM G b st h0) nx kc ks :=
  Ok.getf (T := TX12) (N := 34) (kf := 12) (ci := 12) (ref := "GateWatchModel") hd rfl inX12 (by decide) (by rw [ho]; exact wd1099) (Or.inl rfl) encM_0 rfl k
theorem Ok.mget_daysRow (ho : m_own M = RX12) (hd : decode (m_cc M) pc = .ok (.getfield 29, 3)) (k : Ok G M d post (pc + 3) ls (.ref (b + 5) :: stk) (encM G b st h0) nx kc ks) : Ok G M d post pc ls (.ref b :: stk) (encM G b st h0) nx kc ks :=
  Ok.getf (T := TX12) (N := 34) (kf := 13) (ci := 12) (ref := "GateWatchModel") hd rfl inX12 (by decide) (by rw [ho]; exact wd1100) (Or.inl rfl) encM_0 rfl k
theorem Ok.mget_bests (ho : m_own M = RX12) (hd : decode (m_cc M) pc = .ok (.getfield 32, 3)) (k : Ok G M d post (pc + 3) ls (.ref (b + 6) :: stk) (encM G b st h0) nx kc ks) : Ok G M d post pc ls (.ref b :: stk) (encM G b st h0) nx kc ks :=
  Ok.getf (T := TX12) (N := 34) (kf := 14) (ci := 12) (ref := "GateWatchModel") hd rfl inX12 (by decide) (by rw [ho]; exact wd1101) (Or.inl rfl) encM_0 rfl k
theorem Ok.mget_nots (ho : m_own M = RX12) (hd : decode (m_cc M) pc = .ok (.getfield 36, 3)) (k : Ok G M d post (pc + 3) ls (.ref (b + 7) :: stk) (encM G b st h0) nx kc ks) : Ok G M d post pc ls (.ref b :: stk) (encM G b st h0) nx kc ks :=
  Ok.getf (T := TX12) (N := 34) (kf := 15) (ci := 12) (ref := "GateWatchModel") hd rfl inX12 (by decide) (by rw [ho]; exact wd1102) (Or.inl rfl) encM_0 rfl k
theorem Ok.mget_lookeds (ho : m_own M = RX12) (hd : decode (m_cc M) pc = .ok (.getfield 39, 3)) (k : Ok G M d post (pc + 3) ls (.ref (b + 8) :: stk) (encM G b st h0) nx kc ks) : Ok G M d post pc ls (.ref b :: stk) (encM G b st h0) nx kc ks :=
  Ok.getf (T := TX12) (N := 34) (kf := 16) (ci := 12) (ref := "GateWatchModel") hd rfl inX12 (by decide) (by rw [ho]; exact wd1103) (Or.inl rfl) encM_0 rfl k
theorem Ok.mget_bestsAt (ho : m_own M = RX12) (hd : decode (m_cc M) pc = .ok (.getfield 42, 3)) (k : Ok G M d post (pc + 3) ls (.ref (b + 9) :: stk) (encM G b st h0) nx kc ks) : Ok G M d post pc ls (.ref b :: stk) (encM G b st h0) nx kc ks :=
  Ok.getf (T := TX12) (N := 34) (kf := 17) (ci := 12) (ref := "GateWatchModel") hd rfl inX12 (by decide) (by rw [ho]; exact wd1104) (Or.inl rfl) encM_0 rfl k
theorem Ok.mget_stamp (ho : m_own M = RX12) (hd : decode (m_cc M) pc = .ok (.getfield 190, 3)) (k : Ok G M d post (pc + 3) ls (.int (mi st 18) :: stk) (encM G b st h0) nx kc ks) : Ok G M d post pc ls (.ref b :: stk) (encM G b st h0) nx kc ks :=
  Ok.getf (T := TX12) (N := 34) (kf := 18) (ci := 12) (ref := "GateWatchModel") hd rfl inX12 (by decide) (by rw [ho]; exact wd1105) (Or.inl rfl) encM_0 rfl k
theorem Ok.mput_stamp {x : Int32} (ho : m_own M = RX12) (hd : decode (m_cc M) pc = .ok (.putfield 190, 3)) (k : Ok G M d post (pc + 3) ls stk (encM G b (msi st 18 x) h0) nx kc ks) : Ok G M d post pc ls (.int x :: .ref b :: stk) (encM G b st h0) nx kc ks :=
  Ok.putf (T := TX12) (N := 34) (kf := 18) (ci := 12) (ref := "GateWatchModel") (ty := .int) hd rfl inX12 tyX12 tyX12_ok nmX12 (by decide) (by rw [ho]; exact wd1105) (Or.inl rfl) rfl (by decide +kernel) rfl rfl (by show 18 < 34; decide) encM_0 (Ok.eqh k ((show hset (encM G b st h0) b (ob 12 (mFs b (msi st 18 x))) = _ from encM_set0 rfl)))
theorem Ok.mget_whose (ho : m_own M = RX12) (hd : decode (m_cc M) pc = .ok (.getfield 187, 3)) (k : Ok G M d post (pc + 3) ls (.int (mi st 19) :: stk) (encM G b st h0) nx kc ks) : Ok G M d post pc ls (.ref b :: stk) (encM G b st h0) nx kc ks :=
  Ok.getf (T := TX12) (N := 34) (kf := 19) (ci := 12) (ref := "GateWatchModel") hd rfl inX12 (by decide) (by rw [ho]; exact wd1106) (Or.inl rfl) encM_0 rfl k
theorem Ok.mput_whose {x : Int32} (ho : m_own M = RX12) (hd : decode (m_cc M) pc = .ok (.putfield 187, 3)) (k : Ok G M d post (pc + 3) ls stk (encM G b (msi st 19 x) h0) nx kc ks) : Ok G M d post pc ls (.int x :: .ref b :: stk) (encM G b st h0) nx kc ks :=
  Ok.putf (T := TX12) (N := 34) (kf := 19) (ci := 12) (ref := "GateWatchModel") (ty := .int) hd rfl inX12 tyX12 tyX12_ok nmX12 (by decide) (by rw [ho]; exact wd1106) (Or.inl rfl) rfl (by decide +kernel) rfl rfl (by show 19 < 34; decide) encM_0 (Ok.eqh k ((show hset (encM G b st h0) b (ob 12 (mFs b (msi st 19 x))) = _ from encM_set0 rfl)))
theorem Ok.mget_wage (ho : m_own M = RX12) (hd : decode (m_cc M) pc = .ok (.getfield 197, 3)) (k : Ok G M d post (pc + 3) ls (.int (mi st 20) :: stk) (encM G b st h0) nx kc ks) : Ok G M d post pc ls (.ref b :: stk) (encM G b st h0) nx kc ks :=
  Ok.getf (T := TX12) (N := 34) (kf := 20) (ci := 12) (ref := "GateWatchModel") hd rfl inX12 (by decide) (by rw [ho]; exact wd1107) (Or.inl rfl) encM_0 rfl k
theorem Ok.mput_wage {x : Int32} (ho : m_own M = RX12) (hd : decode (m_cc M) pc = .ok (.putfield 197, 3)) (k : Ok G M d post (pc + 3) ls stk (encM G b (msi st 20 x) h0) nx kc ks) : Ok G M d post pc ls (.int x :: .ref b :: stk) (encM G b st h0) nx kc ks :=
  Ok.putf (T := TX12) (N := 34) (kf := 20) (ci := 12) (ref := "GateWatchModel") (ty := .int) hd rfl inX12 tyX12 tyX12_ok nmX12 (by decide) (by rw [ho]; exact wd1107) (Or.inl rfl) rfl (by decide +kernel) rfl rfl (by show 20 < 34; decide) encM_0 (Ok.eqh k ((show hset (encM G b st h0) b (ob 12 (mFs b (msi st 20 x))) = _ from encM_set0 rfl)))
theorem Ok.mget_worths (ho : m_own M = RX12) (hd : decode (m_cc M) pc = .ok (.getfield 45, 3)) (k : Ok G M d post (pc + 3) ls (.ref (b + 10) :: stk) (encM G b st h0) nx kc ks) : Ok G M d post pc ls (.ref b :: stk) (encM G b st h0) nx kc ks :=
  Ok.getf (T := TX12) (N := 34) (kf := 21) (ci := 12) (ref := "GateWatchModel") hd rfl inX12 (by decide) (by rw [ho]; exact wd1108) (Or.inl rfl) encM_0 rfl k
theorem Ok.mget_keptKnown (ho : m_own M = RX12) (hd : decode (m_cc M) pc = .ok (.getfield 48, 3)) (k : Ok G M d post (pc + 3) ls (.ref (b + 11) :: stk) (encM G b st h0) nx kc ks) : Ok G M d post pc ls (.ref b :: stk) (encM G b st h0) nx kc ks :=
  Ok.getf (T := TX12) (N := 34) (kf := 22) (ci := 12) (ref := "GateWatchModel") hd rfl inX12 (by decide) (by rw [ho]; exact wd1109) (Or.inl rfl) encM_0 rfl k
theorem Ok.mget_keptDays (ho : m_own M = RX12) (hd : decode (m_cc M) pc = .ok (.getfield 51, 3)) (k : Ok G M d post (pc + 3) ls (.ref (b + 12) :: stk) (encM G b st h0) nx kc ks) : Ok G M d post pc ls (.ref b :: stk) (encM G b st h0) nx kc ks :=
  Ok.getf (T := TX12) (N := 34) (kf := 23) (ci := 12) (ref := "GateWatchModel") hd rfl inX12 (by decide) (by rw [ho]; exact wd1110) (Or.inl rfl) encM_0 rfl k
theorem Ok.mget_round (ho : m_own M = RX12) (hd : decode (m_cc M) pc = .ok (.getfield 54, 3)) (k : Ok G M d post (pc + 3) ls (.ref (b + 13) :: stk) (encM G b st h0) nx kc ks) : Ok G M d post pc ls (.ref b :: stk) (encM G b st h0) nx kc ks :=
  Ok.getf (T := TX12) (N := 34) (kf := 24) (ci := 12) (ref := "GateWatchModel") hd rfl inX12 (by decide) (by rw [ho]; exact wd1111) (Or.inl rfl) encM_0 rfl k
theorem Ok.mget_roundMany (ho : m_own M = RX12) (hd : decode (m_cc M) pc = .ok (.getfield 244, 3)) (k : Ok G M d post (pc + 3) ls (.int (mi st 25) :: stk) (encM G b st h0) nx kc ks) : Ok G M d post pc ls (.ref b :: stk) (encM G b st h0) nx kc ks :=
  Ok.getf (T := TX12) (N := 34) (kf := 25) (ci := 12) (ref := "GateWatchModel") hd rfl inX12 (by decide) (by rw [ho]; exact wd1112) (Or.inl rfl) encM_0 rfl k
theorem Ok.mput_roundMany {x : Int32} (ho : m_own M = RX12) (hd : decode (m_cc M) pc = .ok (.putfield 244, 3)) (k : Ok G M d post (pc + 3) ls stk (encM G b (msi st 25 x) h0) nx kc ks) : Ok G M d post pc ls (.int x :: .ref b :: stk) (encM G b st h0) nx kc ks :=
  Ok.putf (T := TX12) (N := 34) (kf := 25) (ci := 12) (ref := "GateWatchModel") (ty := .int) hd rfl inX12 tyX12 tyX12_ok nmX12 (by decide) (by rw [ho]; exact wd1112) (Or.inl rfl) rfl (by decide +kernel) rfl rfl (by show 25 < 34; decide) encM_0 (Ok.eqh k ((show hset (encM G b st h0) b (ob 12 (mFs b (msi st 25 x))) = _ from encM_set0 rfl)))
theorem Ok.mget_bestSet (ho : m_own M = RX12) (hd : decode (m_cc M) pc = .ok (.getfield 258, 3)) (k : Ok G M d post (pc + 3) ls (.int (mi st 26) :: stk) (encM G b st h0) nx kc ks) : Ok G M d post pc ls (.ref b :: stk) (encM G b st h0) nx kc ks :=
  Ok.getf (T := TX12) (N := 34) (kf := 26) (ci := 12) (ref := "GateWatchModel") hd rfl inX12 (by decide) (by rw [ho]; exact wd1113) (Or.inl rfl) encM_0 rfl k
theorem Ok.mput_bestSet {x : Int32} (ho : m_own M = RX12) (hd : decode (m_cc M) pc = .ok (.putfield 258, 3)) (k : Ok G M d post (pc + 3) ls stk (encM G b (msi st 26 x) h0) nx kc ks) : Ok G M d post pc ls (.int x :: .ref b :: stk) (encM G b st h0) nx kc ks :=
  Ok.putf (T := TX12) (N := 34) (kf := 26) (ci := 12) (ref := "GateWatchModel") (ty := .int) hd rfl inX12 tyX12 tyX12_ok nmX12 (by decide) (by rw [ho]; exact wd1113) (Or.inl rfl) rfl (by decide +kernel) rfl rfl (by show 26 < 34; decide) encM_0 (Ok.eqh k ((show hset (encM G b st h0) b (ob 12 (mFs b (msi st 26 x))) = _ from encM_set0 rfl)))
theorem Ok.mget_sums (ho : m_own M = RX12) (hd : decode (m_cc M) pc = .ok (.getfield 57, 3)) (k : Ok G M d post (pc + 3) ls (.ref (b + 14) :: stk) (encM G b st h0) nx kc ks) : Ok G M d post pc ls (.ref b :: stk) (encM G b st h0) nx kc ks :=
  Ok.getf (T := TX12) (N := 34) (kf := 27) (ci := 12) (ref := "GateWatchModel") hd rfl inX12 (by decide) (by rw [ho]; exact wd1114) (Or.inl rfl) encM_0 rfl k
theorem Ok.mget_bestRound (ho : m_own M = RX12) (hd : decode (m_cc M) pc = .ok (.getfield 60, 3)) (k : Ok G M d post (pc + 3) ls (.ref (b + 15) :: stk) (encM G b st h0) nx kc ks) : Ok G M d post pc ls (.ref b :: stk) (encM G b st h0) nx kc ks :=
  Ok.getf (T := TX12) (N := 34) (kf := 28) (ci := 12) (ref := "GateWatchModel") hd rfl inX12 (by decide) (by rw [ho]; exact wd1115) (Or.inl rfl) encM_0 rfl k
theorem Ok.mget_bodies (ho : m_own M = RX12) (hd : decode (m_cc M) pc = .ok (.getfield 63, 3)) (k : Ok G M d post (pc + 3) ls (.ref (b + 16) :: stk) (encM G b st h0) nx kc ks) : Ok G M d post pc ls (.ref b :: stk) (encM G b st h0) nx kc ks :=
  Ok.getf (T := TX12) (N := 34) (kf := 29) (ci := 12) (ref := "GateWatchModel") hd rfl inX12 (by decide) (by rw [ho]; exact wd1116) (Or.inl rfl) encM_0 rfl k
theorem Ok.mget_ran (ho : m_own M = RX12) (hd : decode (m_cc M) pc = .ok (.getfield 295, 3)) (k : Ok G M d post (pc + 3) ls (.int (mi st 30) :: stk) (encM G b st h0) nx kc ks) : Ok G M d post pc ls (.ref b :: stk) (encM G b st h0) nx kc ks :=
  Ok.getf (T := TX12) (N := 34) (kf := 30) (ci := 12) (ref := "GateWatchModel") hd rfl inX12 (by decide) (by rw [ho]; exact wd1117) (Or.inl rfl) encM_0 rfl k
theorem Ok.mput_ran {x : Int32} (ho : m_own M = RX12) (hd : decode (m_cc M) pc = .ok (.putfield 295, 3)) (k : Ok G M d post (pc + 3) ls stk (encM G b (msi st 30 x) h0) nx kc ks) : Ok G M d post pc ls (.int x :: .ref b :: stk) (encM G b st h0) nx kc ks :=
  Ok.putf (T := TX12) (N := 34) (kf := 30) (ci := 12) (ref := "GateWatchModel") (ty := .int) hd rfl inX12 tyX12 tyX12_ok nmX12 (by decide) (by rw [ho]; exact wd1117) (Or.inl rfl) rfl (by decide +kernel) rfl rfl (by show 30 < 34; decide) encM_0 (Ok.eqh k ((show hset (encM G b st h0) b (ob 12 (mFs b (msi st 30 x))) = _ from encM_set0 rfl)))
theorem Ok.mget_kind (ho : m_own M = RX12) (hd : decode (m_cc M) pc = .ok (.getfield 304, 3)) (k : Ok G M d post (pc + 3) ls (.int (mi st 31) :: stk) (encM G b st h0) nx kc ks) : Ok G M d post pc ls (.ref b :: stk) (encM G b st h0) nx kc ks :=
  Ok.getf (T := TX12) (N := 34) (kf := 31) (ci := 12) (ref := "GateWatchModel") hd rfl inX12 (by decide) (by rw [ho]; exact wd1118) (Or.inl rfl) encM_0 rfl k
theorem Ok.mput_kind {x : Int32} (ho : m_own M = RX12) (hd : decode (m_cc M) pc = .ok (.putfield 304, 3)) (k : Ok G M d post (pc + 3) ls stk (encM G b (msi st 31 x) h0) nx kc ks) : Ok G M d post pc ls (.int x :: .ref b :: stk) (encM G b st h0) nx kc ks :=
  Ok.putf (T := TX12) (N := 34) (kf := 31) (ci := 12) (ref := "GateWatchModel") (ty := .int) hd rfl inX12 tyX12 tyX12_ok nmX12 (by decide) (by rw [ho]; exact wd1118) (Or.inl rfl) rfl (by decide +kernel) rfl rfl (by show 31 < 34; decide) encM_0 (Ok.eqh k ((show hset (encM G b st h0) b (ob 12 (mFs b (msi st 31 x))) = _ from encM_set0 rfl)))
theorem Ok.mget_who (ho : m_own M = RX12) (hd : decode (m_cc M) pc = .ok (.getfield 301, 3)) (k : Ok G M d post (pc + 3) ls (.int (mi st 32) :: stk) (encM G b st h0) nx kc ks) : Ok G M d post pc ls (.ref b :: stk) (encM G b st h0) nx kc ks :=
  Ok.getf (T := TX12) (N := 34) (kf := 32) (ci := 12) (ref := "GateWatchModel") hd rfl inX12 (by decide) (by rw [ho]; exact wd1119) (Or.inl rfl) encM_0 rfl k
theorem Ok.mput_who {x : Int32} (ho : m_own M = RX12) (hd : decode (m_cc M) pc = .ok (.putfield 301, 3)) (k : Ok G M d post (pc + 3) ls stk (encM G b (msi st 32 x) h0) nx kc ks) : Ok G M d post pc ls (.int x :: .ref b :: stk) (encM G b st h0) nx kc ks :=
  Ok.putf (T := TX12) (N := 34) (kf := 32) (ci := 12) (ref := "GateWatchModel") (ty := .int) hd rfl inX12 tyX12 tyX12_ok nmX12 (by decide) (by rw [ho]; exact wd1119) (Or.inl rfl) rfl (by decide +kernel) rfl rfl (by show 32 < 34; decide) encM_0 (Ok.eqh k ((show hset (encM G b st h0) b (ob 12 (mFs b (msi st 32 x))) = _ from encM_set0 rfl)))
theorem Ok.mget_tellsV (ho : m_own M = RX12) (hd : decode (m_cc M) pc = .ok (.getfield 310, 3)) (k : Ok G M d post (pc + 3) ls (.int (mi st 33) :: stk) (encM G b st h0) nx kc ks) : Ok G M d post pc ls (.ref b :: stk) (encM G b st h0) nx kc ks :=
  Ok.getf (T := TX12) (N := 34) (kf := 33) (ci := 12) (ref := "GateWatchModel") hd rfl inX12 (by decide) (by rw [ho]; exact wd1120) (Or.inl rfl) encM_0 rfl k
theorem Ok.mput_tellsV {x : Int32} (ho : m_own M = RX12) (hd : decode (m_cc M) pc = .ok (.putfield 310, 3)) (k : Ok G M d post (pc + 3) ls stk (encM G b (msi st 33 x) h0) nx kc ks) : Ok G M d post pc ls (.int x :: .ref b :: stk) (encM G b st h0) nx kc ks :=
  Ok.putf (T := TX12) (N := 34) (kf := 33) (ci := 12) (ref := "GateWatchModel") (ty := .int) hd rfl inX12 tyX12 tyX12_ok nmX12 (by decide) (by rw [ho]; exact wd1120) (Or.inl rfl) rfl (by decide +kernel) rfl rfl (by show 33 < 34; decide) encM_0 (Ok.eqh k ((show hset (encM G b st h0) b (ob 12 (mFs b (msi st 33 x))) = _ from encM_set0 rfl)))
theorem Ok.mald_s {i : Int32} (hd : decode (m_cc M) pc = .ok (.iaload, 1)) (hi : vp_in i 1240) (k : Ok G M d post (pc + 1) ls (.int (ma st 1 i.toNatClampNeg) :: stk) (encM G b st h0) nx kc ks) : Ok G M d post pc ls (.int i :: .ref (b + 1) :: stk) (encM G b st h0) nx kc ks :=
  Ok.iald hd encM_s hi k
theorem Ok.mast_s {i : Int32} {x : Int32} (hd : decode (m_cc M) pc = .ok (.iastore, 1)) (hi : vp_in i 1240) (k : Ok G M d post (pc + 1) ls stk (encM G b (msa st 1 (upd (ma st 1) i.toNatClampNeg x)) h0) nx kc ks) : Ok G M d post pc ls (.int x :: .int i :: .ref (b + 1) :: stk) (encM G b st h0) nx kc ks :=
  Ok.iast hd encM_s hi (Ok.eqh k encM_set_s)
theorem Ok.mald_image {i : Int32} (hd : decode (m_cc M) pc = .ok (.iaload, 1)) (hi : vp_in i 1240) (k : Ok G M d post (pc + 1) ls (.int (ma st 2 i.toNatClampNeg) :: stk) (encM G b st h0) nx kc ks) : Ok G M d post pc ls (.int i :: .ref (b + 2) :: stk) (encM G b st h0) nx kc ks :=
  Ok.iald hd encM_image hi k
theorem Ok.mast_image {i : Int32} {x : Int32} (hd : decode (m_cc M) pc = .ok (.iastore, 1)) (hi : vp_in i 1240) (k : Ok G M d post (pc + 1) ls stk (encM G b (msa st 2 (upd (ma st 2) i.toNatClampNeg x)) h0) nx kc ks) : Ok G M d post pc ls (.int x :: .int i :: .ref (b + 2) :: stk) (encM G b st h0) nx kc ks :=
  Ok.iast hd encM_image hi (Ok.eqh k encM_set_image)
theorem Ok.mald_truths {i : Int32} (hd : decode (m_cc M) pc = .ok (.baload, 1)) (hi : vp_in i 64) (k : Ok G M d post (pc + 1) ls (.int (ma st 9 i.toNatClampNeg) :: stk) (encM G b st h0) nx kc ks) : Ok G M d post pc ls (.int i :: .ref (b + 3) :: stk) (encM G b st h0) nx kc ks :=
  Ok.zald hd encM_truths hi k
theorem Ok.mast_truths {i : Int32} {x : Int32} (hd : decode (m_cc M) pc = .ok (.bastore, 1)) (hi : vp_in i 64) (k : Ok G M d post (pc + 1) ls stk (encM G b (msa st 9 (upd (ma st 9) i.toNatClampNeg (vp_nar .boolean x))) h0) nx kc ks) : Ok G M d post pc ls (.int x :: .int i :: .ref (b + 3) :: stk) (encM G b st h0) nx kc ks :=
  Ok.zast hd encM_truths hi (Ok.eqh k encM_set_truths)
theorem Ok.mald_knownRow {i : Int32} (hd : decode (m_cc M) pc = .ok (.iaload, 1)) (hi : vp_in i 27) (k : Ok G M d post (pc + 1) ls (.int (ma st 12 i.toNatClampNeg) :: stk) (encM G b st h0) nx kc ks) : Ok G M d post pc ls (.int i :: .ref (b + 4) :: stk) (encM G b st h0) nx kc ks :=
  Ok.iald hd encM_knownRow hi k
theorem Ok.mast_knownRow {i : Int32} {x : Int32} (hd : decode (m_cc M) pc = .ok (.iastore, 1)) (hi : vp_in i 27) (k : Ok G M d post (pc + 1) ls stk (encM G b (msa st 12 (upd (ma st 12) i.toNatClampNeg x)) h0) nx kc ks) : Ok G M d post pc ls (.int x :: .int i :: .ref (b + 4) :: stk) (encM G b st h0) nx kc ks :=
  Ok.iast hd encM_knownRow hi (Ok.eqh k encM_set_knownRow)
theorem Ok.mald_daysRow {i : Int32} (hd : decode (m_cc M) pc = .ok (.iaload, 1)) (hi : vp_in i 27) (k : Ok G M d post (pc + 1) ls (.int (ma st 13 i.toNatClampNeg) :: stk) (encM G b st h0) nx kc ks) : Ok G M d post pc ls (.int i :: .ref (b + 5) :: stk) (encM G b st h0) nx kc ks :=
  Ok.iald hd encM_daysRow hi k
theorem Ok.mast_daysRow {i : Int32} {x : Int32} (hd : decode (m_cc M) pc = .ok (.iastore, 1)) (hi : vp_in i 27) (k : Ok G M d post (pc + 1) ls stk (encM G b (msa st 13 (upd (ma st 13) i.toNatClampNeg x)) h0) nx kc ks) : Ok G M d post pc ls (.int x :: .int i :: .ref (b + 5) :: stk) (encM G b st h0) nx kc ks :=
  Ok.iast hd encM_daysRow hi (Ok.eqh k encM_set_daysRow)
theorem Ok.mald_bests {i : Int32} (hd : decode (m_cc M) pc = .ok (.laload, 1)) (hi : vp_in i 243) (k : Ok G M d post (pc + 1) ls (.long (ml st 14 i.toNatClampNeg) :: stk) (encM G b st h0) nx kc ks) : Ok G M d post pc ls (.int i :: .ref (b + 6) :: stk) (encM G b st h0) nx kc ks :=
  Ok.lald hd encM_bests hi k
theorem Ok.mast_bests {i : Int32} {x : Int64} (hd : decode (m_cc M) pc = .ok (.lastore, 1)) (hi : vp_in i 243) (k : Ok G M d post (pc + 1) ls stk (encM G b (msl st 14 (vp_updL (ml st 14) i.toNatClampNeg x)) h0) nx kc ks) : Ok G M d post pc ls (.long x :: .int i :: .ref (b + 6) :: stk) (encM G b st h0) nx kc ks :=
  Ok.last hd encM_bests hi (Ok.eqh k encM_set_bests)
theorem Ok.mald_nots {i : Int32} (hd : decode (m_cc M) pc = .ok (.laload, 1)) (hi : vp_in i 243) (k : Ok G M d post (pc + 1) ls (.long (ml st 15 i.toNatClampNeg) :: stk) (encM G b st h0) nx kc ks) : Ok G M d post pc ls (.int i :: .ref (b + 7) :: stk) (encM G b st h0) nx kc ks :=
  Ok.lald hd encM_nots hi k
theorem Ok.mast_nots {i : Int32} {x : Int64} (hd : decode (m_cc M) pc = .ok (.lastore, 1)) (hi : vp_in i 243) (k : Ok G M d post (pc + 1) ls stk (encM G b (msl st 15 (vp_updL (ml st 15) i.toNatClampNeg x)) h0) nx kc ks) : Ok G M d post pc ls (.long x :: .int i :: .ref (b + 7) :: stk) (encM G b st h0) nx kc ks :=
  Ok.last hd encM_nots hi (Ok.eqh k encM_set_nots)
theorem Ok.mald_lookeds {i : Int32} (hd : decode (m_cc M) pc = .ok (.laload, 1)) (hi : vp_in i 243) (k : Ok G M d post (pc + 1) ls (.long (ml st 16 i.toNatClampNeg) :: stk) (encM G b st h0) nx kc ks) : Ok G M d post pc ls (.int i :: .ref (b + 8) :: stk) (encM G b st h0) nx kc ks :=
  Ok.lald hd encM_lookeds hi k
theorem Ok.mast_lookeds {i : Int32} {x : Int64} (hd : decode (m_cc M) pc = .ok (.lastore, 1)) (hi : vp_in i 243) (k : Ok G M d post (pc + 1) ls stk (encM G b (msl st 16 (vp_updL (ml st 16) i.toNatClampNeg x)) h0) nx kc ks) : Ok G M d post pc ls (.long x :: .int i :: .ref (b + 8) :: stk) (encM G b st h0) nx kc ks :=
  Ok.last hd encM_lookeds hi (Ok.eqh k encM_set_lookeds)
theorem Ok.mald_bestsAt {i : Int32} (hd : decode (m_cc M) pc = .ok (.iaload, 1)) (hi : vp_in i 243) (k : Ok G M d post (pc + 1) ls (.int (ma st 17 i.toNatClampNeg) :: stk) (encM G b st h0) nx kc ks) : Ok G M d post pc ls (.int i :: .ref (b + 9) :: stk) (encM G b st h0) nx kc ks :=
  Ok.iald hd encM_bestsAt hi k
theorem Ok.mast_bestsAt {i : Int32} {x : Int32} (hd : decode (m_cc M) pc = .ok (.iastore, 1)) (hi : vp_in i 243) (k : Ok G M d post (pc + 1) ls stk (encM G b (msa st 17 (upd (ma st 17) i.toNatClampNeg x)) h0) nx kc ks) : Ok G M d post pc ls (.int x :: .int i :: .ref (b + 9) :: stk) (encM G b st h0) nx kc ks :=
  Ok.iast hd encM_bestsAt hi (Ok.eqh k encM_set_bestsAt)
theorem Ok.mald_worths {i : Int32} (hd : decode (m_cc M) pc = .ok (.iaload, 1)) (hi : vp_in i 8) (k : Ok G M d post (pc + 1) ls (.int (ma st 21 i.toNatClampNeg) :: stk) (encM G b st h0) nx kc ks) : Ok G M d post pc ls (.int i :: .ref (b + 10) :: stk) (encM G b st h0) nx kc ks :=
  Ok.iald hd encM_worths hi k
theorem Ok.mast_worths {i : Int32} {x : Int32} (hd : decode (m_cc M) pc = .ok (.iastore, 1)) (hi : vp_in i 8) (k : Ok G M d post (pc + 1) ls stk (encM G b (msa st 21 (upd (ma st 21) i.toNatClampNeg x)) h0) nx kc ks) : Ok G M d post pc ls (.int x :: .int i :: .ref (b + 10) :: stk) (encM G b st h0) nx kc ks :=
  Ok.iast hd encM_worths hi (Ok.eqh k encM_set_worths)
theorem Ok.mald_keptKnown {i : Int32} (hd : decode (m_cc M) pc = .ok (.iaload, 1)) (hi : vp_in i 32) (k : Ok G M d post (pc + 1) ls (.int (ma st 22 i.toNatClampNeg) :: stk) (encM G b st h0) nx kc ks) : Ok G M d post pc ls (.int i :: .ref (b + 11) :: stk) (encM G b st h0) nx kc ks :=
  Ok.iald hd encM_keptKnown hi k
theorem Ok.mast_keptKnown {i : Int32} {x : Int32} (hd : decode (m_cc M) pc = .ok (.iastore, 1)) (hi : vp_in i 32) (k : Ok G M d post (pc + 1) ls stk (encM G b (msa st 22 (upd (ma st 22) i.toNatClampNeg x)) h0) nx kc ks) : Ok G M d post pc ls (.int x :: .int i :: .ref (b + 11) :: stk) (encM G b st h0) nx kc ks :=
  Ok.iast hd encM_keptKnown hi (Ok.eqh k encM_set_keptKnown)
theorem Ok.mald_keptDays {i : Int32} (hd : decode (m_cc M) pc = .ok (.iaload, 1)) (hi : vp_in i 32) (k : Ok G M d post (pc + 1) ls (.int (ma st 23 i.toNatClampNeg) :: stk) (encM G b st h0) nx kc ks) : Ok G M d post pc ls (.int i :: .ref (b + 12) :: stk) (encM G b st h0) nx kc ks :=
  Ok.iald hd encM_keptDays hi k
theorem Ok.mast_keptDays {i : Int32} {x : Int32} (hd : decode (m_cc M) pc = .ok (.iastore, 1)) (hi : vp_in i 32) (k : Ok G M d post (pc + 1) ls stk (encM G b (msa st 23 (upd (ma st 23) i.toNatClampNeg x)) h0) nx kc ks) : Ok G M d post pc ls (.int x :: .int i :: .ref (b + 12) :: stk) (encM G b st h0) nx kc ks :=
  Ok.iast hd encM_keptDays hi (Ok.eqh k encM_set_keptDays)
theorem Ok.mald_round {i : Int32} (hd : decode (m_cc M) pc = .ok (.iaload, 1)) (hi : vp_in i 3) (k : Ok G M d post (pc + 1) ls (.int (ma st 24 i.toNatClampNeg) :: stk) (encM G b st h0) nx kc ks) : Ok G M d post pc ls (.int i :: .ref (b + 13) :: stk) (encM G b st h0) nx kc ks :=
  Ok.iald hd encM_round hi k
theorem Ok.mast_round {i : Int32} {x : Int32} (hd : decode (m_cc M) pc = .ok (.iastore, 1)) (hi : vp_in i 3) (k : Ok G M d post (pc + 1) ls stk (encM G b (msa st 24 (upd (ma st 24) i.toNatClampNeg x)) h0) nx kc ks) : Ok G M d post pc ls (.int x :: .int i :: .ref (b + 13) :: stk) (encM G b st h0) nx kc ks :=
  Ok.iast hd encM_round hi (Ok.eqh k encM_set_round)
theorem Ok.mald_sums {i : Int32} (hd : decode (m_cc M) pc = .ok (.laload, 1)) (hi : vp_in i 201) (k : Ok G M d post (pc + 1) ls (.long (ml st 27 i.toNatClampNeg) :: stk) (encM G b st h0) nx kc ks) : Ok G M d post pc ls (.int i :: .ref (b + 14) :: stk) (encM G b st h0) nx kc ks :=
  Ok.lald hd encM_sums hi k
theorem Ok.mast_sums {i : Int32} {x : Int64} (hd : decode (m_cc M) pc = .ok (.lastore, 1)) (hi : vp_in i 201) (k : Ok G M d post (pc + 1) ls stk (encM G b (msl st 27 (vp_updL (ml st 27) i.toNatClampNeg x)) h0) nx kc ks) : Ok G M d post pc ls (.long x :: .int i :: .ref (b + 14) :: stk) (encM G b st h0) nx kc ks :=
  Ok.last hd encM_sums hi (Ok.eqh k encM_set_sums)
theorem Ok.mald_bestRound {i : Int32} (hd : decode (m_cc M) pc = .ok (.iaload, 1)) (hi : vp_in i 3) (k : Ok G M d post (pc + 1) ls (.int (ma st 28 i.toNatClampNeg) :: stk) (encM G b st h0) nx kc ks) : Ok G M d post pc ls (.int i :: .ref (b + 15) :: stk) (encM G b st h0) nx kc ks :=
  Ok.iald hd encM_bestRound hi k
theorem Ok.mast_bestRound {i : Int32} {x : Int32} (hd : decode (m_cc M) pc = .ok (.iastore, 1)) (hi : vp_in i 3) (k : Ok G M d post (pc + 1) ls stk (encM G b (msa st 28 (upd (ma st 28) i.toNatClampNeg x)) h0) nx kc ks) : Ok G M d post pc ls (.int x :: .int i :: .ref (b + 15) :: stk) (encM G b st h0) nx kc ks :=
  Ok.iast hd encM_bestRound hi (Ok.eqh k encM_set_bestRound)
theorem Ok.mald_bodies {i : Int32} (hd : decode (m_cc M) pc = .ok (.iaload, 1)) (hi : vp_in i 20) (k : Ok G M d post (pc + 1) ls (.int (ma st 29 i.toNatClampNeg) :: stk) (encM G b st h0) nx kc ks) : Ok G M d post pc ls (.int i :: .ref (b + 16) :: stk) (encM G b st h0) nx kc ks :=
  Ok.iald hd encM_bodies hi k
theorem Ok.mast_bodies {i : Int32} {x : Int32} (hd : decode (m_cc M) pc = .ok (.iastore, 1)) (hi : vp_in i 20) (k : Ok G M d post (pc + 1) ls stk (encM G b (msa st 29 (upd (ma st 29) i.toNatClampNeg x)) h0) nx kc ks) : Ok G M d post pc ls (.int x :: .int i :: .ref (b + 16) :: stk) (encM G b st h0) nx kc ks :=
  Ok.iast hd encM_bodies hi (Ok.eqh k encM_set_bodies)
theorem Ok.mald_sN {i : Nat} {v : Int32} (hd : decode (m_cc M) pc = .ok (.iaload, 1)) (hi : i < 1240) (hv : ma st 1 i = v) (k : Ok G M d post (pc + 1) ls (.int v :: stk) (encM G b st h0) nx kc ks) : Ok G M d post pc ls (.int (nI i) :: .ref (b + 1) :: stk) (encM G b st h0) nx kc ks :=
  Ok.mald_s hd (vp_in_nI hi (by omega)) (by rw [nI_clamp (by omega), hv]; exact k)
theorem Ok.mast_sN {i : Nat} {x : Int32} (hd : decode (m_cc M) pc = .ok (.iastore, 1)) (hi : i < 1240) (k : Ok G M d post (pc + 1) ls stk (encM G b (msa st 1 (upK (ma st 1) i x)) h0) nx kc ks) : Ok G M d post pc ls (.int x :: .int (nI i) :: .ref (b + 1) :: stk) (encM G b st h0) nx kc ks := by
  refine Ok.mast_s hd (vp_in_nI hi (by omega)) ?_
  rw [nI_clamp (by omega)]
  exact k
theorem Ok.mald_imageN {i : Nat} {v : Int32} (hd : decode (m_cc M) pc = .ok (.iaload, 1)) (hi : i < 1240) (hv : ma st 2 i = v) (k : Ok G M d post (pc + 1) ls (.int v :: stk) (encM G b st h0) nx kc ks) : Ok G M d post pc ls (.int (nI i) :: .ref (b + 2) :: stk) (encM G b st h0) nx kc ks :=
  Ok.mald_image hd (vp_in_nI hi (by omega)) (by rw [nI_clamp (by omega), hv]; exact k)
theorem Ok.mast_imageN {i : Nat} {x : Int32} (hd : decode (m_cc M) pc = .ok (.iastore, 1)) (hi : i < 1240) (k : Ok G M d post (pc + 1) ls stk (encM G b (msa st 2 (upK (ma st 2) i x)) h0) nx kc ks) : Ok G M d post pc ls (.int x :: .int (nI i) :: .ref (b + 2) :: stk) (encM G b st h0) nx kc ks := by
  refine Ok.mast_image hd (vp_in_nI hi (by omega)) ?_
  rw [nI_clamp (by omega)]
  exact k
theorem Ok.mald_truthsN {i : Nat} {v : Int32} (hd : decode (m_cc M) pc = .ok (.baload, 1)) (hi : i < 64) (hv : ma st 9 i = v) (k : Ok G M d post (pc + 1) ls (.int v :: stk) (encM G b st h0) nx kc ks) : Ok G M d post pc ls (.int (nI i) :: .ref (b + 3) :: stk) (encM G b st h0) nx kc ks :=
  Ok.mald_truths hd (vp_in_nI hi (by omega)) (by rw [nI_clamp (by omega), hv]; exact k)
theorem Ok.mast_truthsN {i : Nat} {x : Int32} (hd : decode (m_cc M) pc = .ok (.bastore, 1)) (hi : i < 64) (hx : x = 0 ∨ x = 1) (k : Ok G M d post (pc + 1) ls stk (encM G b (msa st 9 (upK (ma st 9) i x)) h0) nx kc ks) : Ok G M d post pc ls (.int x :: .int (nI i) :: .ref (b + 3) :: stk) (encM G b st h0) nx kc ks := by
  refine Ok.mast_truths hd (vp_in_nI hi (by omega)) ?_
  rw [nI_clamp (by omega), show vp_nar .boolean x = x by rcases hx with rfl | rfl <;> rfl]
  exact k
theorem Ok.mald_knownRowN {i : Nat} {v : Int32} (hd : decode (m_cc M) pc = .ok (.iaload, 1)) (hi : i < 27) (hv : ma st 12 i = v) (k : Ok G M d post (pc + 1) ls (.int v :: stk) (encM G b st h0) nx kc ks) : Ok G M d post pc ls (.int (nI i) :: .ref (b + 4) :: stk) (encM G b st h0) nx kc ks :=
  Ok.mald_knownRow hd (vp_in_nI hi (by omega)) (by rw [nI_clamp (by omega), hv]; exact k)
theorem Ok.mast_knownRowN {i : Nat} {x : Int32} (hd : decode (m_cc M) pc = .ok (.iastore, 1)) (hi : i < 27) (k : Ok G M d post (pc + 1) ls stk (encM G b (msa st 12 (upK (ma st 12) i x)) h0) nx kc ks) : Ok G M d post pc ls (.int x :: .int (nI i) :: .ref (b + 4) :: stk) (encM G b st h0) nx kc ks := by
  refine Ok.mast_knownRow hd (vp_in_nI hi (by omega)) ?_
  rw [nI_clamp (by omega)]
  exact k
theorem Ok.mald_daysRowN {i : Nat} {v : Int32} (hd : decode (m_cc M) pc = .ok (.iaload, 1)) (hi : i < 27) (hv : ma st 13 i = v) (k : Ok G M d post (pc + 1) ls (.int v :: stk) (encM G b st h0) nx kc ks) : Ok G M d post pc ls (.int (nI i) :: .ref (b + 5) :: stk) (encM G b st h0) nx kc ks :=
  Ok.mald_daysRow hd (vp_in_nI hi (by omega)) (by rw [nI_clamp (by omega), hv]; exact k)
theorem Ok.mast_daysRowN {i : Nat} {x : Int32} (hd : decode (m_cc M) pc = .ok (.iastore, 1)) (hi : i < 27) (k : Ok G M d post (pc + 1) ls stk (encM G b (msa st 13 (upK (ma st 13) i x)) h0) nx kc ks) : Ok G M d post pc ls (.int x :: .int (nI i) :: .ref (b + 5) :: stk) (encM G b st h0) nx kc ks := by
  refine Ok.mast_daysRow hd (vp_in_nI hi (by omega)) ?_
  rw [nI_clamp (by omega)]
  exact k
theorem Ok.mald_bestsN {i : Nat} {v : Int64} (hd : decode (m_cc M) pc = .ok (.laload, 1)) (hi : i < 243) (hv : ml st 14 i = v) (k : Ok G M d post (pc + 1) ls (.long v :: stk) (encM G b st h0) nx kc ks) : Ok G M d post pc ls (.int (nI i) :: .ref (b + 6) :: stk) (encM G b st h0) nx kc ks :=
  Ok.mald_bests hd (vp_in_nI hi (by omega)) (by rw [nI_clamp (by omega), hv]; exact k)
theorem Ok.mast_bestsN {i : Nat} {x : Int64} (hd : decode (m_cc M) pc = .ok (.lastore, 1)) (hi : i < 243) (k : Ok G M d post (pc + 1) ls stk (encM G b (msl st 14 (upK (ml st 14) i x)) h0) nx kc ks) : Ok G M d post pc ls (.long x :: .int (nI i) :: .ref (b + 6) :: stk) (encM G b st h0) nx kc ks := by
  refine Ok.mast_bests hd (vp_in_nI hi (by omega)) ?_
  rw [nI_clamp (by omega)]
  exact k
theorem Ok.mald_notsN {i : Nat} {v : Int64} (hd : decode (m_cc M) pc = .ok (.laload, 1)) (hi : i < 243) (hv : ml st 15 i = v) (k : Ok G M d post (pc + 1) ls (.long v :: stk) (encM G b st h0) nx kc ks) : Ok G M d post pc ls (.int (nI i) :: .ref (b + 7) :: stk) (encM G b st h0) nx kc ks :=
  Ok.mald_nots hd (vp_in_nI hi (by omega)) (by rw [nI_clamp (by omega), hv]; exact k)
theorem Ok.mast_notsN {i : Nat} {x : Int64} (hd : decode (m_cc M) pc = .ok (.lastore, 1)) (hi : i < 243) (k : Ok G M d post (pc + 1) ls stk (encM G b (msl st 15 (upK (ml st 15) i x)) h0) nx kc ks) : Ok G M d post pc ls (.long x :: .int (nI i) :: .ref (b + 7) :: stk) (encM G b st h0) nx kc ks := by
  refine Ok.mast_nots hd (vp_in_nI hi (by omega)) ?_
  rw [nI_clamp (by omega)]
  exact k
theorem Ok.mald_lookedsN {i : Nat} {v : Int64} (hd : decode (m_cc M) pc = .ok (.laload, 1)) (hi : i < 243) (hv : ml st 16 i = v) (k : Ok G M d post (pc + 1) ls (.long v :: stk) (encM G b st h0) nx kc ks) : Ok G M d post pc ls (.int (nI i) :: .ref (b + 8) :: stk) (encM G b st h0) nx kc ks :=
  Ok.mald_lookeds hd (vp_in_nI hi (by omega)) (by rw [nI_clamp (by omega), hv]; exact k)
theorem Ok.mast_lookedsN {i : Nat} {x : Int64} (hd : decode (m_cc M) pc = .ok (.lastore, 1)) (hi : i < 243) (k : Ok G M d post (pc + 1) ls stk (encM G b (msl st 16 (upK (ml st 16) i x)) h0) nx kc ks) : Ok G M d post pc ls (.long x :: .int (nI i) :: .ref (b + 8) :: stk) (encM G b st h0) nx kc ks := by
  refine Ok.mast_lookeds hd (vp_in_nI hi (by omega)) ?_
  rw [nI_clamp (by omega)]
  exact k
theorem Ok.mald_bestsAtN {i : Nat} {v : Int32} (hd : decode (m_cc M) pc = .ok (.iaload, 1)) (hi : i < 243) (hv : ma st 17 i = v) (k : Ok G M d post (pc + 1) ls (.int v :: stk) (encM G b st h0) nx kc ks) : Ok G M d post pc ls (.int (nI i) :: .ref (b + 9) :: stk) (encM G b st h0) nx kc ks :=
  Ok.mald_bestsAt hd (vp_in_nI hi (by omega)) (by rw [nI_clamp (by omega), hv]; exact k)
theorem Ok.mast_bestsAtN {i : Nat} {x : Int32} (hd : decode (m_cc M) pc = .ok (.iastore, 1)) (hi : i < 243) (k : Ok G M d post (pc + 1) ls stk (encM G b (msa st 17 (upK (ma st 17) i x)) h0) nx kc ks) : Ok G M d post pc ls (.int x :: .int (nI i) :: .ref (b + 9) :: stk) (encM G b st h0) nx kc ks := by
  refine Ok.mast_bestsAt hd (vp_in_nI hi (by omega)) ?_
  rw [nI_clamp (by omega)]
  exact k
theorem Ok.mald_worthsN {i : Nat} {v : Int32} (hd : decode (m_cc M) pc = .ok (.iaload, 1)) (hi : i < 8) (hv : ma st 21 i = v) (k : Ok G M d post (pc + 1) ls (.int v :: stk) (encM G b st h0) nx kc ks) : Ok G M d post pc ls (.int (nI i) :: .ref (b + 10) :: stk) (encM G b st h0) nx kc ks :=
  Ok.mald_worths hd (vp_in_nI hi (by omega)) (by rw [nI_clamp (by omega), hv]; exact k)
theorem Ok.mast_worthsN {i : Nat} {x : Int32} (hd : decode (m_cc M) pc = .ok (.iastore, 1)) (hi : i < 8) (k : Ok G M d post (pc + 1) ls stk (encM G b (msa st 21 (upK (ma st 21) i x)) h0) nx kc ks) : Ok G M d post pc ls (.int x :: .int (nI i) :: .ref (b + 10) :: stk) (encM G b st h0) nx kc ks := by
  refine Ok.mast_worths hd (vp_in_nI hi (by omega)) ?_
  rw [nI_clamp (by omega)]
  exact k
theorem Ok.mald_keptKnownN {i : Nat} {v : Int32} (hd : decode (m_cc M) pc = .ok (.iaload, 1)) (hi : i < 32) (hv : ma st 22 i = v) (k : Ok G M d post (pc + 1) ls (.int v :: stk) (encM G b st h0) nx kc ks) : Ok G M d post pc ls (.int (nI i) :: .ref (b + 11) :: stk) (encM G b st h0) nx kc ks :=
  Ok.mald_keptKnown hd (vp_in_nI hi (by omega)) (by rw [nI_clamp (by omega), hv]; exact k)
theorem Ok.mast_keptKnownN {i : Nat} {x : Int32} (hd : decode (m_cc M) pc = .ok (.iastore, 1)) (hi : i < 32) (k : Ok G M d post (pc + 1) ls stk (encM G b (msa st 22 (upK (ma st 22) i x)) h0) nx kc ks) : Ok G M d post pc ls (.int x :: .int (nI i) :: .ref (b + 11) :: stk) (encM G b st h0) nx kc ks := by
  refine Ok.mast_keptKnown hd (vp_in_nI hi (by omega)) ?_
  rw [nI_clamp (by omega)]
  exact k
theorem Ok.mald_keptDaysN {i : Nat} {v : Int32} (hd : decode (m_cc M) pc = .ok (.iaload, 1)) (hi : i < 32) (hv : ma st 23 i = v) (k : Ok G M d post (pc + 1) ls (.int v :: stk) (encM G b st h0) nx kc ks) : Ok G M d post pc ls (.int (nI i) :: .ref (b + 12) :: stk) (encM G b st h0) nx kc ks :=
  Ok.mald_keptDays hd (vp_in_nI hi (by omega)) (by rw [nI_clamp (by omega), hv]; exact k)
theorem Ok.mast_keptDaysN {i : Nat} {x : Int32} (hd : decode (m_cc M) pc = .ok (.iastore, 1)) (hi : i < 32) (k : Ok G M d post (pc + 1) ls stk (encM G b (msa st 23 (upK (ma st 23) i x)) h0) nx kc ks) : Ok G M d post pc ls (.int x :: .int (nI i) :: .ref (b + 12) :: stk) (encM G b st h0) nx kc ks := by
  refine Ok.mast_keptDays hd (vp_in_nI hi (by omega)) ?_
  rw [nI_clamp (by omega)]
  exact k
theorem Ok.mald_roundN {i : Nat} {v : Int32} (hd : decode (m_cc M) pc = .ok (.iaload, 1)) (hi : i < 3) (hv : ma st 24 i = v) (k : Ok G M d post (pc + 1) ls (.int v :: stk) (encM G b st h0) nx kc ks) : Ok G M d post pc ls (.int (nI i) :: .ref (b + 13) :: stk) (encM G b st h0) nx kc ks :=
  Ok.mald_round hd (vp_in_nI hi (by omega)) (by rw [nI_clamp (by omega), hv]; exact k)
theorem Ok.mast_roundN {i : Nat} {x : Int32} (hd : decode (m_cc M) pc = .ok (.iastore, 1)) (hi : i < 3) (k : Ok G M d post (pc + 1) ls stk (encM G b (msa st 24 (upK (ma st 24) i x)) h0) nx kc ks) : Ok G M d post pc ls (.int x :: .int (nI i) :: .ref (b + 13) :: stk) (encM G b st h0) nx kc ks := by
  refine Ok.mast_round hd (vp_in_nI hi (by omega)) ?_
  rw [nI_clamp (by omega)]
  exact k
theorem Ok.mald_sumsN {i : Nat} {v : Int64} (hd : decode (m_cc M) pc = .ok (.laload, 1)) (hi : i < 201) (hv : ml st 27 i = v) (k : Ok G M d post (pc + 1) ls (.long v :: stk) (encM G b st h0) nx kc ks) : Ok G M d post pc ls (.int (nI i) :: .ref (b + 14) :: stk) (encM G b st h0) nx kc ks :=
  Ok.mald_sums hd (vp_in_nI hi (by omega)) (by rw [nI_clamp (by omega), hv]; exact k)
theorem Ok.mast_sumsN {i : Nat} {x : Int64} (hd : decode (m_cc M) pc = .ok (.lastore, 1)) (hi : i < 201) (k : Ok G M d post (pc + 1) ls stk (encM G b (msl st 27 (upK (ml st 27) i x)) h0) nx kc ks) : Ok G M d post pc ls (.long x :: .int (nI i) :: .ref (b + 14) :: stk) (encM G b st h0) nx kc ks := by
  refine Ok.mast_sums hd (vp_in_nI hi (by omega)) ?_
  rw [nI_clamp (by omega)]
  exact k
theorem Ok.mald_bestRoundN {i : Nat} {v : Int32} (hd : decode (m_cc M) pc = .ok (.iaload, 1)) (hi : i < 3) (hv : ma st 28 i = v) (k : Ok G M d post (pc + 1) ls (.int v :: stk) (encM G b st h0) nx kc ks) : Ok G M d post pc ls (.int (nI i) :: .ref (b + 15) :: stk) (encM G b st h0) nx kc ks :=
  Ok.mald_bestRound hd (vp_in_nI hi (by omega)) (by rw [nI_clamp (by omega), hv]; exact k)
theorem Ok.mast_bestRoundN {i : Nat} {x : Int32} (hd : decode (m_cc M) pc = .ok (.iastore, 1)) (hi : i < 3) (k : Ok G M d post (pc + 1) ls stk (encM G b (msa st 28 (upK (ma st 28) i x)) h0) nx kc ks) : Ok G M d post pc ls (.int x :: .int (nI i) :: .ref (b + 15) :: stk) (encM G b st h0) nx kc ks := by
  refine Ok.mast_bestRound hd (vp_in_nI hi (by omega)) ?_
  rw [nI_clamp (by omega)]
  exact k
theorem Ok.mald_bodiesN {i : Nat} {v : Int32} (hd : decode (m_cc M) pc = .ok (.iaload, 1)) (hi : i < 20) (hv : ma st 29 i = v) (k : Ok G M d post (pc + 1) ls (.int v :: stk) (encM G b st h0) nx kc ks) : Ok G M d post pc ls (.int (nI i) :: .ref (b + 16) :: stk) (encM G b st h0) nx kc ks :=
  Ok.mald_bodies hd (vp_in_nI hi (by omega)) (by rw [nI_clamp (by omega), hv]; exact k)
theorem Ok.mast_bodiesN {i : Nat} {x : Int32} (hd : decode (m_cc M) pc = .ok (.iastore, 1)) (hi : i < 20) (k : Ok G M d post (pc + 1) ls stk (encM G b (msa st 29 (upK (ma st 29) i x)) h0) nx kc ks) : Ok G M d post pc ls (.int x :: .int (nI i) :: .ref (b + 16) :: stk) (encM G b st h0) nx kc ks := by
  refine Ok.mast_bodies hd (vp_in_nI hi (by omega)) ?_
  rw [nI_clamp (by omega)]
  exact k
end MR
