/-! WHAT HOLDS BETWEEN THE TWO -/
def Bk2 (G : Gx) (lo : Nat) (h : Hp) (fi : Nat → Int32) (fa : Nat → Nat → Int32) (fr : Nat → Nat → Option Nat) (s : Nat → Int32) : Prop := ∃ ns nt np lk td q, BkR G lo h fi fa fr s ns nt np q ∧ VaR s ns nt np lk td q
theorem Bk2.cg {G : Gx} {lo : Nat} {h h' : Hp} {fi fi' : Nat → Int32} {fa fa' : Nat → Nat → Int32} {fr fr' : Nat → Nat → Option Nat} {s s' : Nat → Int32} (H : Bk2 G lo h fi fa fr s) (hh : ∀ q x, lo ≤ q → h q = some x → h' q = some x) (es : ∀ k, k < 1240 → s' k = s k) (ei : ∀ i, i < 6 → fi' (111 + i) = fi (111 + i)) (e2 : ∀ j, j < 120 → fa' 2 j = fa 2 j) (e3 : ∀ j, j < 6 → fr' 3 j = fr 3 j) (e4 : ∀ i j, i < 6 → j < 8 → fa' (4 + i) j = fa (4 + i) j) (e10 : ∀ j, j < 8 → fa' 10 j = vp_nar .boolean (fa 10 j) ∨ fa' 10 j = fa 10 j) (e11 : ∀ j, j < 12 → fr' 11 j = fr 11 j) (e12 : ∀ j, j < 12 → fa' 12 j = fa 12 j) (e14 : ∀ p j, p < 12 → j < 10 → fa' (14 + p) j = fa (14 + p) j) : Bk2 G lo h' fi' fa' fr' s' := by
  obtain ⟨ns, nt, np, lk, td, q, ⟨⟨i1, i2, i3, i4, i5, i6⟩, t, so, pl, ta⟩, ⟨w1, w2, w3, w4, w5, w6, w7, w8, w9, w10, w11, w12, w13, w14, w15⟩⟩ := H
  have eN : ∀ k, k < 1240 → sN s' k = sN s k := fun k hk => by unfold sN; rw [es k hk]
  refine ⟨ns, nt, np, lk, td, q, ⟨⟨?_, ?_, ?_, ?_, ?_, ?_⟩, ?_, ?_, ?_, ?_⟩, ⟨(es 0 (by omega)).trans w1, w2, (es 1 (by omega)).trans w3, w4, (es 2 (by omega)).trans w5, w6, (es 3 (by omega)).trans w7, w8, by rw [es 4 (by omega)]; exact w9, (es 5 (by omega)).trans w10, w11, ?_, ?_, fun a ha => CodeOk_cg (by omega) (fun k _ h2 => es k (by omega)) (w14 a ha), fun j hj => by rw [es (10 + j) (by omega)]; exact w15 j hj⟩⟩
  · rw [es 5 (by omega)]; exact (ei 0 (by omega)).trans i1
  · rw [es 0 (by omega)]; exact (ei 1 (by omega)).trans i2
  · rw [es 1 (by omega)]; exact (ei 2 (by omega)).trans i3
  · rw [es 2 (by omega)]; exact (ei 3 (by omega)).trans i4
  · rw [es 3 (by omega)]; exact (ei 4 (by omega)).trans i5
  · rw [es 4 (by omega)]; exact (ei 5 (by omega)).trans i6
  · intro j hj
    obtain ⟨t1, t2, t3, t4, t5, t6, t7⟩ := t j hj
    have b10 : fa' 10 j = fa 10 j := by
      rcases e10 j (by omega) with z | z
      · rw [z]
        refine nar_b2 ?_
        rw [t7]
        exact (w12 j hj).2.2.2.1
      · exact z
    rw [es (1010 + j) (by omega), es (1018 + j) (by omega), es (1034 + j) (by omega), es (1042 + j) (by omega), es (1050 + j) (by omega), es (1058 + j) (by omega), es (1026 + j) (by omega)]
    exact ⟨(e4 0 j (by omega) (by omega)).trans t1, (e4 1 j (by omega) (by omega)).trans t2, (e4 2 j (by omega) (by omega)).trans t3, (e4 3 j (by omega) (by omega)).trans t4, (e4 4 j (by omega) (by omega)).trans t5, (e4 5 j (by omega) (by omega)).trans t6, b10.trans t7⟩
  · intro a ha
    obtain ⟨p, ep, sp⟩ := so a ha
    exact ⟨p, (e3 a (by omega)).trans ep, (sp.heap hh).cg (by omega) (fun k _ h2 => es k (by omega)) (w14 a ha).2.1⟩
  · intro p hp
    obtain ⟨q', x1, x2, x3, x4, x5⟩ := pl p hp
    obtain ⟨u1, u2, r, u3, u4, u5⟩ := w13 p hp
    have er : sN s (1094 + p) = r := by unfold sN; rw [u4, nI_clamp (by omega)]
    rw [eN (1070 + p) (by omega), eN (1094 + p) (by omega), es (1082 + p) (by omega), es (1094 + p) (by omega)]
    exact ⟨q', (e11 p (by omega)).trans x1, x2, hh _ _ x2 x3, (e12 p (by omega)).trans x4, fun j hj => by
      rw [er] at hj
      rw [e14 p j (by omega) (by omega), es (1110 + 10 * p + j) (by omega)]
      exact x5 j (by rw [er]; exact hj)⟩
  · intro j hj
    rw [e2 j (by omega), es (10 + j) (by omega)]
    exact ta j hj
  · intro j hj
    unfold ThV
    rw [es (1010 + j) (by omega), es (1018 + j) (by omega), es (1034 + j) (by omega), es (1042 + j) (by omega), es (1026 + j) (by omega)]
    exact w12 j hj
  · intro j hj
    obtain ⟨u1, u2, r, u3, u4, u5⟩ := w13 j hj
    exact ⟨by rw [es (1070 + j) (by omega)]; exact u1, by rw [es (1082 + j) (by omega)]; exact u2, r, u3, by rw [es (1094 + j) (by omega)]; exact u4, fun i hi => by rw [es (1110 + 10 * j + i) (by omega)]; exact u5 i hi⟩
theorem RfR.up {lo : Nat} {h0 h0' : Hp} {fr fr' : Nat → Nat → Option Nat} (h : RfR lo h0 fr) (hk : ∀ q x, lo ≤ q → h0 q = some x → h0' q = some x) (e3 : ∀ j, j < 6 → fr' 3 j = fr 3 j) (e11 : ∀ j, j < 12 → fr' 11 j = fr 11 j) : RfR lo h0' fr' := ⟨fun k q hk1 he => by
    rw [e3 k hk1] at he
    obtain ⟨a, fs, b⟩ := h.1 k q hk1 he
    exact ⟨a, fs, hk _ _ a b⟩, fun k q hk1 he => by
    rw [e11 k hk1] at he
    obtain ⟨a, c, fs, b1, b2⟩ := h.2 k q hk1 he
    exact ⟨a, c, fs, b1, hk _ _ a b2⟩⟩
theorem encM_in {G : Gx} {b a : Nat} {st : MS} {H H' : Hp} (h1 : b ≤ a) (h2 : a < b + 17) : encM G b st H a = encM G b st H' a := by
  unfold encM
  by_cases z : a = b
  · rw [if_pos z, if_pos z]
  rw [if_neg z, if_neg z]
  by_cases z : a = b + 1
  · rw [if_pos z, if_pos z]
  rw [if_neg z, if_neg z]
  by_cases z : a = b + 2
  · rw [if_pos z, if_pos z]
  rw [if_neg z, if_neg z]
  by_cases z : a = b + 3
  · rw [if_pos z, if_pos z]
  rw [if_neg z, if_neg z]
  by_cases z : a = b + 4
  · rw [if_pos z, if_pos z]
  rw [if_neg z, if_neg z]
  by_cases z : a = b + 5
  · rw [if_pos z, if_pos z]
  rw [if_neg z, if_neg z]
  by_cases z : a = b + 6
  · rw [if_pos z, if_pos z]
  rw [if_neg z, if_neg z]
  by_cases z : a = b + 7
  · rw [if_pos z, if_pos z]
  rw [if_neg z, if_neg z]
  by_cases z : a = b + 8
  · rw [if_pos z, if_pos z]
  rw [if_neg z, if_neg z]
  by_cases z : a = b + 9
  · rw [if_pos z, if_pos z]
  rw [if_neg z, if_neg z]
  by_cases z : a = b + 10
  · rw [if_pos z, if_pos z]
  rw [if_neg z, if_neg z]
  by_cases z : a = b + 11
  · rw [if_pos z, if_pos z]
  rw [if_neg z, if_neg z]
  by_cases z : a = b + 12
  · rw [if_pos z, if_pos z]
  rw [if_neg z, if_neg z]
  by_cases z : a = b + 13
  · rw [if_pos z, if_pos z]
  rw [if_neg z, if_neg z]
  by_cases z : a = b + 14
  · rw [if_pos z, if_pos z]
  rw [if_neg z, if_neg z]
  by_cases z : a = b + 15
  · rw [if_pos z, if_pos z]
  rw [if_neg z, if_neg z]
  by_cases z : a = b + 16
  · rw [if_pos z, if_pos z]
  rw [if_neg z, if_neg z]
  omega
theorem encMX {G : Gx} {X b : Nat} {c : CS} {S : MS} {h1 : Hp} (h : X + 108 ≤ b) : encM G b S (encX G X c h1) = encX G X c (encM G b S h1) := by
  funext a
  by_cases c1 : X ≤ a ∧ a < X + 108
  · rw [encM_out (by omega)]
    unfold encX
    rw [if_pos c1, if_pos c1]
  · rw [encX_out (by omega)]
    by_cases c2 : b ≤ a ∧ a < b + 17
    · exact encM_in c2.1 c2.2
    · rw [encM_out (by omega), encM_out (by omega), encX_out (by omega)]
theorem encM_id {G : Gx} {b : Nat} {S : MS} {h1 h2 : Hp} (h : ∀ q, b ≤ q → q < b + 17 → h2 q = encM G b S h1 q) : encM G b S h2 = h2 := by
  funext a
  by_cases c2 : b ≤ a ∧ a < b + 17
  · rw [h a c2.1 c2.2]
    exact encM_in c2.1 c2.2
  · exact encM_out (by omega)
section XIM
variable {G : Gx} {X lo nx : Nat} {h0 : Hp} {c : CS} {S : MS} {ns nt np lk td q : Nat}
theorem x_image (hR : RfR lo h0 (xr c)) (hlo : X + 108 ≤ lo) (hb : TyR (xa c)) : ∃ c' : CS, F_X11_image G (encX G X c h0) nx X = some (xi c 115, encX G X c' h0, nx) ∧ FrX (fun k => PCi k ∨ k = 0) c c' ∧ CpOi c c' ∧ xi c' 0 = nI 1 := by
  obtain ⟨c', r1, r2, r3⟩ := x_copyi (nx := nx) (X := X) hR hlo hb
  unfold F_X11_image
  rw [xg_0_1, xg_0_0, nn_some, nn_some, xk_26, r1, cl_some, zk_n1, xp_0_2, xg_0_0, nn_some, xg_1_16]
  refine ⟨xsi c' 0 (nI 1), ?_, r2.trans (FrX.si (P := fun k => k = 0) rfl) (fun _ z => Or.inl z) (fun _ z => Or.inr z), ?_, xi_xsi_s⟩
  · rw [xi_xsi_n (by decide), r2.i 115 (by unfold PCi; omega)]
  · obtain ⟨a1, a2⟩ := r3
    exact ⟨fun i hi => by rw [xi_xsi_n (by omega)]; exact a1 i hi, a2⟩
theorem x_undo (hR : RfR lo h0 (fun k => xr c (k + 25))) (hlo : X + 108 ≤ lo) (hb : TyR (fun k => xa c (k + 25))) (hz : ¬ xi c 0 = 0) : ∃ c' : CS, F_X11_undo G (encX G X c h0) nx X = some (xi c 125, encX G X c' h0, nx) ∧ FrX PCu c c' ∧ CpOu c c' := by
  obtain ⟨c', r1, r2, r3⟩ := x_copyu (nx := nx) (X := X) hR hlo hb
  unfold F_X11_undo
  rw [xg_0_2, if_neg hz, xg_0_0, xg_0_1, nn_some, nn_some, xk_1, r1, cl_some, xg_0_0, nn_some, xg_1_16]
  exact ⟨c', by rw [show xi c' 115 = xi c 125 from r3.1 4 (by omega)], r2, r3⟩
theorem x_undo0 (hz : xi c 0 = 0) : F_X11_undo G (encX G X c h0) nx X = some (-3, encX G X c h0, nx) := by
  unfold F_X11_undo
  rw [xg_0_2, if_pos hz]
end XIM
/-- between the two programs, all the way -/
def XI (G : Gx) (X b : Nat) (h1 : Hp) (nx : Nat) (c : CS) (S : MS) (N : Nat) : Prop :=
  X + 108 = b ∧ b + 17 ≤ g_B G + nx ∧ Fsh G h1 nx ∧ Bk2 G (b + 17) h1 (xi c) (xa c) (xr c) (ma S 1) ∧ TyR (xa c) ∧ RfR (b + 17) h1 (xr c) ∧ TyR (fun k => xa c (k + 25)) ∧ RfR (b + 17) h1 (fun k => xr c (k + 25)) ∧ ((xi c 0 = nI 0 ∧ mi S 3 = nI 0) ∨ (xi c 0 = nI 1 ∧ mi S 3 = nI 1 ∧ Bk2 G (b + 17) h1 (fun k => xi c (k + 10)) (fun k => xa c (k + 25)) (fun k => xr c (k + 25)) (ma S 2))) ∧ (∀ j, j < 8 → xa c 106 j = nI 0) ∧ (∃ r, r ≤ 20 ∧ BdR (xa c 107) S r) ∧ mi S 10 = -1 ∧ StOk S N
theorem Fsh.M {G : Gx} {b nx : Nat} {S : MS} {h1 : Hp} (h : Fsh G h1 nx) (hb : b + 17 ≤ g_B G + nx) : Fsh G (encM G b S h1) nx := fun q hq => by
  rw [encM_out (by omega)]
  exact h q hq
theorem up_M {G : Gx} {b : Nat} {S : MS} {h1 : Hp} : ∀ q x, b + 17 ≤ q → h1 q = some x → encM G b S h1 q = some x := fun q x hq hx => by
  rw [encM_out (by omega)]
  exact hx
theorem Bk2.XC {G : Gx} {X b : Nat} {h1 h2 : Hp} {c : CS} {s : Nat → Int32} (H : Bk2 G (b + 17) h1 (xi c) (xa c) (xr c) s) (hX : X + 108 = b) (hh : ∀ q x, b + 17 ≤ q → h1 q = some x → h2 q = some x) : ∃ ns nt np lk td q, XC G X (b + 17) h2 c s ns nt np lk td q := by
  obtain ⟨ns, nt, np, lk, td, q, H⟩ := H.cg hh (fun _ _ => rfl) (fun _ _ => rfl) (fun _ _ => rfl) (fun _ _ => rfl) (fun _ _ _ _ => rfl) (fun _ _ => Or.inr rfl) (fun _ _ => rfl) (fun _ _ => rfl) (fun _ _ _ _ => rfl)
  exact ⟨ns, nt, np, lk, td, q, by omega, H.1, H.2⟩
theorem XC.bk2 {G : Gx} {X lo : Nat} {h : Hp} {c : CS} {s : Nat → Int32} {ns nt np lk td q : Nat} (H : XC G X lo h c s ns nt np lk td q) : Bk2 G lo h (xi c) (xa c) (xr c) s := ⟨ns, nt, np, lk, td, q, H.2.1, H.2.2⟩
/-- the book may change, nothing else that is asked -/
theorem XI.gen2 {G : Gx} {X b nx nx2 N N' : Nat} {h1 h2 : Hp} {c c' : CS} {S S' : MS} (H : XI G X b h1 nx c S N) (hh : ∀ q x, b + 17 ≤ q → h1 q = some x → h2 q = some x) (hf : Fsh G h2 nx2) (hn : nx ≤ nx2) (hB : Bk2 G (b + 17) h2 (xi c') (xa c') (xr c') (ma S' 1)) (hT : TyR (xa c')) (hR : RfR (b + 17) h2 (xr c')) (fr : ∀ k, k = 0 ∨ (27 ≤ k ∧ k < 51) ∨ k = 106 ∨ (121 ≤ k ∧ k < 127) → xi c' k = xi c k ∧ xa c' k = xa c k ∧ xr c' k = xr c k) (h3 : mi S' 3 = mi S 3) (hm2 : ma S' 2 = ma S 2) (h10 : mi S' 10 = mi S 10) (hBd : ∃ r, r ≤ 20 ∧ BdR (xa c' 107) S' r) (hN : StOk S' N') : XI G X b h2 nx2 c' S' N' := by
  obtain ⟨a1, a2, a3, a4, a5, a6, a7, a8, a9, a10, a11, a12, a13⟩ := H
  refine ⟨a1, by omega, hf, hB, hT, hR, ?_, ?_, ?_, ?_, hBd, h10.trans a12, hN⟩
  · intro j hj
    show fits .byte (.int (xa c' (2 + 25) j)) = true
    rw [(fr (2 + 25) (by omega)).2.1]
    exact a7 j hj
  · exact a8.up hh (fun j _ => by show xr c' (3 + 25) j = xr c (3 + 25) j; rw [(fr (3 + 25) (by omega)).2.2]) (fun j _ => by show xr c' (11 + 25) j = xr c (11 + 25) j; rw [(fr (11 + 25) (by omega)).2.2])
  · rcases a9 with ⟨z1, z2⟩ | ⟨z1, z2, z3⟩
    · exact Or.inl ⟨(fr 0 (by omega)).1.trans z1, h3.trans z2⟩
    · refine Or.inr ⟨(fr 0 (by omega)).1.trans z1, h3.trans z2, ?_⟩
      rw [hm2]
      exact z3.cg hh (fun _ _ => rfl) (fun i hi => (fr (111 + i + 10) (by omega)).1) (fun j _ => by show xa c' (2 + 25) j = xa c (2 + 25) j; rw [(fr (2 + 25) (by omega)).2.1]) (fun j _ => by show xr c' (3 + 25) j = xr c (3 + 25) j; rw [(fr (3 + 25) (by omega)).2.2]) (fun i j hi _ => by show xa c' (4 + i + 25) j = xa c (4 + i + 25) j; rw [(fr (4 + i + 25) (by omega)).2.1]) (fun j _ => Or.inr (by show xa c' (10 + 25) j = xa c (10 + 25) j; rw [(fr (10 + 25) (by omega)).2.1])) (fun j _ => by show xr c' (11 + 25) j = xr c (11 + 25) j; rw [(fr (11 + 25) (by omega)).2.2]) (fun j _ => by show xa c' (12 + 25) j = xa c (12 + 25) j; rw [(fr (12 + 25) (by omega)).2.1]) (fun p j hp _ => by show xa c' (14 + p + 25) j = xa c (14 + p + 25) j; rw [(fr (14 + p + 25) (by omega)).2.1])
  · intro j hj
    rw [(fr 106 (by omega)).2.1]
    exact a10 j hj
theorem XI.gen {G : Gx} {X b nx nx2 N N' : Nat} {h1 h2 : Hp} {c c' : CS} {S S' : MS} (H : XI G X b h1 nx c S N) (hh : ∀ q x, b + 17 ≤ q → h1 q = some x → h2 q = some x) (hf : Fsh G h2 nx2) (hn : nx ≤ nx2) (hB : Bk2 G (b + 17) h2 (xi c') (xa c') (xr c') (ma S' 1)) (hT : TyR (xa c')) (hR : RfR (b + 17) h2 (xr c')) (fr : ∀ k, k = 0 ∨ (27 ≤ k ∧ k < 51) ∨ k = 106 ∨ k = 107 ∨ (121 ≤ k ∧ k < 127) → xi c' k = xi c k ∧ xa c' k = xa c k ∧ xr c' k = xr c k) (h3 : mi S' 3 = mi S 3) (hm2 : ma S' 2 = ma S 2) (h10 : mi S' 10 = mi S 10) (h30 : mi S' 30 = mi S 30) (h29 : ma S' 29 = ma S 29) (hN : StOk S' N') : XI G X b h2 nx2 c' S' N' := by
  refine H.gen2 hh hf hn hB hT hR (fun k hk => fr k (by omega)) h3 hm2 h10 ?_ hN
  obtain ⟨r, r1, r2, r3, r4⟩ := H.2.2.2.2.2.2.2.2.2.2.1
  rw [(fr 107 (by omega)).2.1]
  exact ⟨r, r1, h30.trans r2, r3, fun j hj => by rw [h29]; exact r4 j hj⟩
