/-! THE CLASS: a clause -/
/-- what a clause leaves of the object: something told, or a clause more -/
def Rk (y : YS) (c b : Nat) (r : Bool × Nat × Option (Nat × Int32) × List Int32) (y' : YS) : Prop :=
  (∃ w v, r.2.2.1 = some (w, nI v) ∧ r.2.2.2 = [] ∧ w < 4 ∧ v ≤ 999 ∧ yi y' 5 = yi y 5 ∧ yi y' 9 = yi y 9 ∧ (∀ k, k ≠ 1 → ya y' k = ya y k) ∧ ya y' 1 = upK (ya y 1) (2 + w) (nI v)) ∨
  (∃ g : Sg, r.2.2.1 = none ∧ SgOk g ∧ r.2.2.2 = g.2.2 ++ [-10 - nI 2 * g.2.1 - g.1] ∧ yi y' 5 = nI (c + g.2.2.length) ∧ yi y' 9 = nI (b + 1) ∧ ya y' 1 = ya y 1 ∧ ya y' 6 = ya y 6 ∧ ya y' 2 = emY (ya y 2) c g.2.2 ∧ ya y' 3 = upK (ya y 3) b g.1 ∧ ya y' 4 = upK (ya y 4) b g.2.1 ∧ ya y' 5 = upK (ya y 5) b (nI (c + g.2.2.length)))
theorem ffF : ¬ false = true := by decide
section YC
variable {G : Gx} {Y n nx : Nat} {y : YS} {h0 : Hp} {tp : Nat → Int32}
theorem RdY.mv {p c q : Nat} (hR : RdY y tp n p c) (h1 : p ≤ q) (h2 : q ≤ n) : RdY (ysi y 2 (nI q)) tp n q c := ⟨hR.1.cg rfl, yi_ysi_s, h2, by rw [yi_ysi_n (by decide)]; exact hR.2.2.2.1, by have := hR.2.2.2.2; omega⟩
theorem y_addClause {b c : Nat} (hb : yi y 9 = nI b) (hb9 : b ≤ 9) (hc : yi y 5 = nI c) (w v : Int32) : F_X7_addClause G (encY G Y n y h0) nx Y w v = some (nI 1, encY G Y n (ysi (ysa (ysa (ysa y 3 (upK (ya y 3) b w)) 4 (upK (ya y 4) b v)) 5 (upK (ya y 5) b (nI c))) 9 (nI (b + 1))) h0, nx) := by
  unfold F_X7_addClause
  simp (maxSteps := 3000000) (disch := omega) only [hb, hc, yi_ysi_s, yi_ysi_n, ya_ysi, yi_ysa, ya_ysa_s, ya_ysa_n, ysi_ysi, ysa_ysa, yk, yg_0, yg_1, yg_2, yg_3, yg_4, yg_5, yg_6, yg_7, yg_8, yg_9, yp_2, yp_3, yp_5, yp_9, yas_1, yas_2, yas_3, yas_4, yas_5, yal_6, yln_6, cl_some, nm_b, nn_some, qn_some, qn_none, zk_0, zk_1, zk_n0, zk_n1, nI_add, pk_mul, pk_sub, nI_leE, nI_ltE, nI_eqE, nI_lt0, nI_ge0, nI_eq0, nI_gt0, nI_le0, ilt_t, ilt_f, ile_t, ile_f, ieq_t, ieq_f, if_tt, if_ff, Nat.add_sub_cancel]
set_option maxRecDepth 100000 in
set_option maxHeartbeats 1000000 in
theorem y_clW {p c b k : Nat} (hk : k < 6) (hR : RdY y tp n p c) (hb : yi y 9 = nI b) (hb9 : b ≤ 9) (h : hereP tp n p = W0 k) {r : Bool × Nat × Option (Nat × Int32) × List Int32} (hr : r = if k = 0 then clC (chP tp n 0 p) else if k = 1 then clC (chP tp n 1 p) else clT (k - 2) (tlP tp n (6 + k) p)) : ∃ y' : YS, F_X7_readClause G (encY G Y n y h0) nx Y = some (b2i r.1, encY G Y n y' h0, nx) ∧ yi y' 2 = nI r.2.1 ∧ (r.1 = true → Rk y c b r y') := by
  obtain ⟨hT, h2, hpn, h5, hc⟩ := id hR
  have hn : n ≤ 120 := hT.1
  obtain ⟨q1, q2, q3, q4⟩ := aW_le hk hR
  have ew := y_word (G := G) (Y := Y) (nx := nx) (h0 := h0) hk hR h
  have hsp := sp_app (tp := tp) (z := n) (Wor k) [nI 32] p
  rw [← W_sp k hk] at hsp
  generalize hQ : spP tp n (Wor k) p = Q at *
  obtain ⟨qb, q⟩ := Q
  have hqn : q ≤ n := by have : q = p + aW tp n p k := q2; omega
  have hpq : p ≤ q := by have : q = p + aW tp n p k := q2; omega
  have hR1 := hR.mv hpq hqn
  have bad : ∀ pos : Nat, (∀ v : Int32, r = (false, pos, none, []) ∨ r = (false, pos, some (k - 2, v), [])) → True := fun _ _ => trivial
  unfold F_X7_readClause F_X7_readClause_25
  rw [yk, ew, cl_some]
  cases qb with
  | false =>
    have hsp : spP tp n (txB.getD (6 + k) []) p = (false, q) := hsp.trans (if_neg (show ¬ false = true by decide))
    rw [if_neg (show ¬ (false, q).1 = true from ffF), if_pos (by decide), zk_n0]
    refine ⟨ysi y 2 (nI q), ?_, ?_, ?_⟩
    · rw [hr]
      by_cases k0 : k = 0
      · subst k0
        rw [if_pos rfl]
        unfold clC chP
        rw [hsp, if_neg (show ¬ (false, q).1 = true from ffF)]
        rfl
      · rw [if_neg k0]
        by_cases k1 : k = 1
        · subst k1
          rw [if_pos rfl]
          unfold clC chP
          rw [hsp, if_neg (show ¬ (false, q).1 = true from ffF)]
          rfl
        · rw [if_neg k1]
          unfold clT tlP
          rw [hsp, if_neg (show ¬ (false, q).1 = true from ffF)]
          rfl
    · rw [hr, yi_ysi_s]
      by_cases k0 : k = 0
      · subst k0
        rw [if_pos rfl]
        unfold clC chP
        rw [hsp, if_neg (show ¬ (false, q).1 = true from ffF)]
      · rw [if_neg k0]
        by_cases k1 : k = 1
        · subst k1
          rw [if_pos rfl]
          unfold clC chP
          rw [hsp, if_neg (show ¬ (false, q).1 = true from ffF)]
        · rw [if_neg k1]
          unfold clT tlP
          rw [hsp, if_neg (show ¬ (false, q).1 = true from ffF)]
    · intro z
      exfalso
      rw [hr] at z
      by_cases k0 : k = 0
      · subst k0
        rw [if_pos rfl] at z
        unfold clC chP at z
        rw [hsp, if_neg (show ¬ (false, q).1 = true from ffF)] at z
        exact absurd z (show ¬ false = true by decide)
      · rw [if_neg k0] at z
        by_cases k1 : k = 1
        · subst k1
          rw [if_pos rfl] at z
          unfold clC chP at z
          rw [hsp, if_neg (show ¬ (false, q).1 = true from ffF)] at z
          exact absurd z (show ¬ false = true by decide)
        · rw [if_neg k1] at z
          unfold clT tlP at z
          rw [hsp, if_neg (show ¬ (false, q).1 = true from ffF)] at z
          exact absurd z (show ¬ false = true by decide)
  | true =>
    have hsp : spP tp n (txB.getD (6 + k) []) p = if hereP tp n q = nI 32 then (true, q + 1) else (false, q) := hsp.trans (if_pos (show true = true from rfl))
    rw [if_pos (show (true, q).1 = true from rfl), if_neg (nI_pos (by omega)), yk]
    -- a clause that fails at a place
    have fail : ∀ (pos : Nat) (y1 : YS) (o : Option (Nat × Int32)) (l : List Int32), r = (false, pos, o, l) → yi y1 2 = nI pos → ∃ y' : YS, some (nI 0, encY G Y n y1 h0, nx) = some (b2i r.1, encY G Y n y' h0, nx) ∧ yi y' 2 = nI r.2.1 ∧ (r.1 = true → Rk y c b r y') := by
      intro pos y1 o l e1 e2
      rw [e1]
      exact ⟨y1, rfl, e2, fun z => absurd z (show ¬ false = true by decide)⟩
    by_cases c32 : hereP tp n q = nI 32
    · have e0 := y_takeT (G := G) (Y := Y) (nx := nx) (h0 := h0) hR1 (show 32 < 128 by decide) c32
      have hq1 := here_lt c32 (by decide)
      have hR2 := hR1.adv hq1
      rw [if_pos c32] at hsp
      rw [e0, cl_some, if_neg (show ¬ nI 1 = 0 by decide), yk]
      obtain ⟨y1, e1, f1, p1, v1⟩ := y_number (G := G) (Y := Y) (nx := nx) (h0 := h0) hR2.1 hR2.2.1 hR2.2.2.1
      obtain ⟨u, hu, eu⟩ := fg_le hT.2.2 3 (q + 1) 0 (by omega) (by decide)
      rw [e1, cl_some]
      by_cases cf : isFg tp n (q + 1)
      · rw [if_pos cf] at p1 ⊢
        rw [if_neg (show ¬ nI 1 = 0 by decide)]
        have hfl := fgL_le (tp := tp) (z := n) 3 (nI 0) (q + 1)
        generalize hF : fgL tp n 3 (nI 0) (q + 1) = F at *
        obtain ⟨fv, fp⟩ := F
        have eu : fv = nI u := eu
        have p1 : yi y1 2 = nI fp := p1
        have v1 : yi y1 3 = fv := v1
        have hfp : q + 1 ≤ fp := hfl.1
        have hfn : fp ≤ n := by
          rcases hfl.2 with z | z
          · exact z
          · have z : fp = q + 1 := z
            omega
        have rF : Ry (ysi (ysi y 2 (nI q)) 2 (nI (q + 1))) c (true, fp, []) y1 := Ry.fg f1 p1 hR2.2.2.2.1
        have hR3 : RdY y1 tp n fp c := by
          have := Ry.rd hR2 rF rfl (by show q + 1 + 0 ≤ fp; omega) hfn
          exact this
        have a1 : ya y1 = ya y := f1.2
        have b9 : yi y1 9 = nI b := by rw [f1.1 9 (by decide) (by decide), yi_ysi_n (by decide), yi_ysi_n (by decide)]; exact hb
        by_cases k2 : k < 2
        · -- a clause that changes
          have hrw : r = clC (chP tp n k p) := by
            rw [hr]
            by_cases k0 : k = 0
            · subst k0; rw [if_pos rfl]
            · obtain rfl : k = 1 := by omega
              rw [if_neg k0, if_pos rfl]
          have hch : chP tp n k p = chQ tp n k (q + 1) := by
            unfold chP
            rw [hsp, if_pos (show (true, q + 1).1 = true from rfl)]
          have hcq : chQ tp n k (q + 1) = if hereP tp n fp = nI 32 then (if (pz tp n 1000 2 0 (fp + 1)).1 = true then (true, (pz tp n 1000 2 0 (fp + 1)).2.1, (pz tp n 1000 2 0 (fp + 1)).2.2 ++ [-10 - nI 2 * fv - nI k]) else (false, (pz tp n 1000 2 0 (fp + 1)).2.1, [])) else (false, fp, []) := by
            unfold chQ
            rw [if_pos cf, hF]
          rw [hch, hcq] at hrw
          have ek : ∀ (A B : Rz Int32), (if nI k = 0 then A else if nI k = nI 1 then A else B) = A := fun A B => by
            by_cases k0 : k = 0
            · subst k0; rw [if_pos (show nI 0 = 0 from rfl)]
            · obtain rfl : k = 1 := by omega
              rw [if_neg (show ¬ nI 1 = 0 by decide), if_pos rfl]
          rw [ek]
          unfold F_X7_readClause_48 F_X7_readClause_83 F_X7_readClause_84
          rw [yg_3, v1, yk]
          by_cases d32 : hereP tp n fp = nI 32
          · have e3 := y_takeT (G := G) (Y := Y) (nx := nx) (h0 := h0) hR3 (show 32 < 128 by decide) d32
            have hR4 := hR3.adv (here_lt d32 (by decide))
            obtain ⟨y2, e4, r4⟩ := y_either (G := G) (Y := Y) (nx := nx) (h0 := h0) hR4
            have ok := pz_ok (tp := tp) (z := n) 1000 2 0 (fp + 1) (by have := here_lt d32 (by decide); omega)
            rw [if_pos d32] at hrw
            rw [e3, cl_some, if_neg (show ¬ nI 1 = 0 by decide), yk, e4, cl_some]
            by_cases cr : (pz tp n 1000 2 0 (fp + 1)).1 = true
            · rw [if_pos cr] at hrw
              have hB := pz_okB hT.2.2 cr
              obtain ⟨c5, c2⟩ := r4.2.2.2 cr
              have b92 : yi y2 9 = nI b := by rw [r4.1 9 (by decide) (by decide) (by decide), yi_ysi_n (by decide)]; exact b9
              have e5 := y_addClause (G := G) (Y := Y) (n := n) (nx := nx) (h0 := h0) b92 hb9 c5 (nI k) fv
              rw [if_neg (by rw [b2_t cr]; decide), yk, e5, cl_some, if_neg (show ¬ nI 1 = 0 by decide), zk_n1]
              rw [hrw]
              have ak : ∀ j, j ≠ 2 → ya y2 j = ya y j := fun j hj => by rw [r4.2.1 j hj, ya_ysi, a1]
              refine ⟨_, rfl, ?_, fun _ => Or.inr ⟨(nI k, fv, (pz tp n 1000 2 0 (fp + 1)).2.2), rfl, ⟨?_, ⟨u, by omega, eu⟩, hB⟩, rfl, ?_, yi_ysi_s, ?_, ?_, ?_, ?_, ?_, ?_⟩⟩
              · rw [yi_ysi_n (by decide)]
                exact r4.2.2.1
              · by_cases k0 : k = 0
                · subst k0; exact Or.inl rfl
                · obtain rfl : k = 1 := by omega
                  exact Or.inr rfl
              · rw [yi_ysi_n (by decide)]
                exact c5
              · rw [ya_ysi, ya_ysa_n (by decide), ya_ysa_n (by decide), ya_ysa_n (by decide)]
                exact ak 1 (by decide)
              · rw [ya_ysi, ya_ysa_n (by decide), ya_ysa_n (by decide), ya_ysa_n (by decide)]
                exact ak 6 (by decide)
              · rw [ya_ysi, ya_ysa_n (by decide), ya_ysa_n (by decide), ya_ysa_n (by decide), c2, ya_ysi, a1]
              · rw [ya_ysi, ya_ysa_n (by decide), ya_ysa_n (by decide), ya_ysa_s, ak 3 (by decide)]
              · rw [ya_ysi, ya_ysa_n (by decide), ya_ysa_s, ak 4 (by decide)]
              · rw [ya_ysi, ya_ysa_s, ak 5 (by decide)]
            · rw [if_neg cr] at hrw
              have eb : b2i (pz tp n 1000 2 0 (fp + 1)).1 = 0 := by rw [b2_f cr]; rfl
              rw [if_pos eb, zk_n0]
              exact fail _ y2 none [] hrw r4.2.2.1
          · have e3 := y_takeF (G := G) (Y := Y) (nx := nx) (h0 := h0) hR3 (show 32 < 128 by decide) d32
            rw [if_neg d32] at hrw
            rw [e3, cl_some, if_pos (show nI 0 = 0 from rfl), zk_n0]
            exact fail _ y1 none [] hrw p1
        · -- a clause that tells
          have hrw : r = clT (k - 2) (tlP tp n (6 + k) p) := by rw [hr, if_neg (by omega), if_neg (by omega)]
          have htl : tlP tp n (6 + k) p = (true, fp, fv) := by
            unfold tlP
            rw [hsp, if_pos (show (true, q + 1).1 = true from rfl)]
            show (if isFg tp n (q + 1) then _ else _) = _
            rw [if_pos cf, hF]
          rw [htl] at hrw
          have ek : ∀ (A B : Rz Int32), (if nI k = 0 then A else if nI k = nI 1 then A else B) = B := fun A B => by
            rw [if_neg (fun z => by have := (nI_eq (a := k) (b := 0) (by omega) (by omega)).mp z; omega), if_neg (fun z => by have := (nI_eq (a := k) (b := 1) (by omega) (by omega)).mp z; omega)]
          rw [ek, yg_0, yg_3, v1, nn_some, yas_1 (by omega), zk_n1]
          rw [hrw]
          refine ⟨_, rfl, ?_, fun _ => Or.inl ⟨k - 2, u, by rw [← eu]; rfl, rfl, by omega, by omega, ?_, ?_, fun j hj => ?_, ?_⟩⟩
          · rw [yi_ysa]; exact p1
          · rw [yi_ysa, f1.1 5 (by decide) (by decide), yi_ysi_n (by decide), yi_ysi_n (by decide)]
          · rw [yi_ysa, f1.1 9 (by decide) (by decide), yi_ysi_n (by decide), yi_ysi_n (by decide)]
          · rw [ya_ysa_n hj, a1]
          · rw [ya_ysa_s, a1, eu, show 2 + (k - 2) = k by omega]
      · rw [if_neg cf] at p1 ⊢
        rw [if_pos (show nI 0 = 0 from rfl), zk_n0]
        by_cases k2 : k < 2
        · have hrw : r = clC (chP tp n k p) := by
            rw [hr]
            by_cases k0 : k = 0
            · subst k0; rw [if_pos rfl]
            · obtain rfl : k = 1 := by omega
              rw [if_neg k0, if_pos rfl]
          have hch : chP tp n k p = (false, q + 1, []) := by
            unfold chP
            rw [hsp, if_pos (show (true, q + 1).1 = true from rfl)]
            unfold chQ
            rw [if_neg cf]
          rw [hch] at hrw
          exact fail _ y1 none [] hrw p1
        · have hrw : r = clT (k - 2) (tlP tp n (6 + k) p) := by rw [hr, if_neg (by omega), if_neg (by omega)]
          have htl : tlP tp n (6 + k) p = (false, q + 1, 0) := by
            unfold tlP
            rw [hsp, if_pos (show (true, q + 1).1 = true from rfl)]
            show (if isFg tp n (q + 1) then _ else _) = _
            rw [if_neg cf]
          rw [htl] at hrw
          exact fail _ y1 _ [] hrw p1
    · have e0 := y_takeF (G := G) (Y := Y) (nx := nx) (h0 := h0) hR1 (show 32 < 128 by decide) c32
      rw [if_neg c32] at hsp
      rw [e0, cl_some, if_pos (show nI 0 = 0 from rfl), zk_n0]
      by_cases k2 : k < 2
      · have hrw : r = clC (chP tp n k p) := by
          rw [hr]
          by_cases k0 : k = 0
          · subst k0; rw [if_pos rfl]
          · obtain rfl : k = 1 := by omega
            rw [if_neg k0, if_pos rfl]
        have hch : chP tp n k p = (false, q, []) := by
          unfold chP
          rw [hsp, if_neg (show ¬ (false, q).1 = true from ffF)]
        rw [hch] at hrw
        exact fail _ _ none [] hrw yi_ysi_s
      · have hrw : r = clT (k - 2) (tlP tp n (6 + k) p) := by rw [hr, if_neg (by omega), if_neg (by omega)]
        have htl : tlP tp n (6 + k) p = (false, q, 0) := by
          unfold tlP
          rw [hsp, if_neg (show ¬ (false, q).1 = true from ffF)]
        rw [htl] at hrw
        exact fail _ _ _ [] hrw yi_ysi_s
theorem W0_v : W0 0 = nI 105 ∧ W0 1 = nI 104 ∧ W0 2 = nI 119 ∧ W0 3 = nI 98 ∧ W0 4 = nI 108 ∧ W0 5 = nI 109 := by decide
set_option maxRecDepth 100000 in
set_option maxHeartbeats 1000000 in
theorem y_clause {p c b : Nat} (hR : RdY y tp n p c) (hb : yi y 9 = nI b) (hb9 : b ≤ 9) : ∃ y' : YS, F_X7_readClause G (encY G Y n y h0) nx Y = some (b2i (clP tp n p).1, encY G Y n y' h0, nx) ∧ yi y' 2 = nI (clP tp n p).2.1 ∧ ((clP tp n p).1 = true → Rk y c b (clP tp n p) y') := by
  obtain ⟨w0, w1, w2, w3, w4, w5⟩ := W0_v
  unfold clP
  by_cases c3 : hereP tp n p = nI 98
  · rw [if_pos c3]
    exact y_clW (k := 3) (by omega) hR hb hb9 (c3.trans w3.symm) rfl
  rw [if_neg c3]
  by_cases c1 : hereP tp n p = nI 104
  · rw [if_pos c1]
    exact y_clW (k := 1) (by omega) hR hb hb9 (c1.trans w1.symm) rfl
  rw [if_neg c1]
  by_cases c0 : hereP tp n p = nI 105
  · rw [if_pos c0]
    exact y_clW (k := 0) (by omega) hR hb hb9 (c0.trans w0.symm) rfl
  rw [if_neg c0]
  by_cases c4 : hereP tp n p = nI 108
  · rw [if_pos c4]
    exact y_clW (k := 4) (by omega) hR hb hb9 (c4.trans w4.symm) rfl
  rw [if_neg c4]
  by_cases c5 : hereP tp n p = nI 109
  · rw [if_pos c5]
    exact y_clW (k := 5) (by omega) hR hb hb9 (c5.trans w5.symm) rfl
  rw [if_neg c5]
  by_cases c2 : hereP tp n p = nI 119
  · rw [if_pos c2]
    exact y_clW (k := 2) (by omega) hR hb hb9 (c2.trans w2.symm) rfl
  rw [if_neg c2]
  have ew := y_word0 (G := G) (Y := Y) (nx := nx) (h0 := h0) hR (fun k hk => by
    rcases (show k = 0 ∨ k = 1 ∨ k = 2 ∨ k = 3 ∨ k = 4 ∨ k = 5 by omega) with rfl | rfl | rfl | rfl | rfl | rfl
    · rw [w0]; exact c0
    · rw [w1]; exact c1
    · rw [w2]; exact c2
    · rw [w3]; exact c3
    · rw [w4]; exact c4
    · rw [w5]; exact c5)
  refine ⟨ysi y 2 (nI p), ?_, yi_ysi_s, fun z => absurd z (show ¬ false = true by decide)⟩
  unfold F_X7_readClause F_X7_readClause_25
  rw [yk, ew, cl_some, if_pos (by decide), zk_n0]
  rfl
end YC
