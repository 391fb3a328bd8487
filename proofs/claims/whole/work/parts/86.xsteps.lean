/-! EVERY CALL -/
def St {α : Type} (G : Gx) (X b : Nat) (cl rf : Hp → Nat → Rz α) (h1 : Hp) (nx : Nat) (c : CS) (S : MS) (N : Nat) : Prop := ∃ (v : α) (c1 : CS) (h2 : Hp) (nx2 : Nat) (S2 : MS) (N2 : Nat), cl (encX G X c (encM G b S h1)) nx = some (v, encX G X c1 (encM G b S h2), nx2) ∧ rf (encX G X c1 (encM G b S h2)) nx2 = some (v, encX G X c1 (encM G b S2 h2), nx2) ∧ XI G X b h2 nx2 c1 S2 N2 ∧ N2 ≤ N + 117384
section XST2
variable {α : Type} {G : Gx} {X b nx N : Nat} {h1 : Hp} {c : CS} {S : MS}
theorem XI.st {cl rf : Hp → Nat → Rz α} {v : α} {c' : CS} {h2 : Hp} {nx2 N' : Nat} {S' : MS} {P : Nat → Prop} {ks : List Nat} (H : XI G X b h1 nx c S N) (e1 : cl (encX G X c (encM G b S h1)) nx = some (v, encX G X c' h2, nx2)) (hG : HG G (encM G b S h1) nx h2 nx2) (f1 : FrX P c c') (hP : ∀ k, P k → ¬ (k = 0 ∨ (27 ≤ k ∧ k < 51) ∨ k = 106 ∨ k = 107 ∨ (121 ≤ k ∧ k < 127))) (hT : TyR (xa c')) (hR : RfR (b + 17) h2 (xr c')) (hB : Bk2 G (b + 17) h2 (xi c') (xa c') (xr c') (ma S' 1)) (e2 : rf (encM G b S (encX G X c' h2)) nx2 = some (v, encM G b S' (encX G X c' h2), nx2)) (f2 : FrM ks S S') (hk : ∀ k ∈ [2, 3, 10, 29, 30], k ∉ ks) (n2 : StOk S' N') (n3 : N' ≤ N + 117384) : St G X b cl rf h1 nx c S N := by
  obtain ⟨a1, a2, a3, -⟩ := id H
  have hM := a3.M (S := S) a2
  have eM : encM G b S h2 = h2 := encM_id (h1 := h1) (fun q z1 z2 => hG.2.1 q (by omega))
  refine ⟨v, c', h2, nx2, S', N', by rw [eM]; exact e1, ?_, ?_, n3⟩
  · rw [← encMX (by omega), ← encMX (by omega)]
    exact e2
  · have kk : ∀ k, k ∈ [2, 3, 10, 29, 30] → mi S' k = mi S k ∧ ma S' k = ma S k := fun k hk' => ⟨f2.of1 k (hk k hk'), f2.ofa k (hk k hk')⟩
    refine H.gen (fun q x hq hx => hG.keep hM q x (up_M q x hq hx)) hG.2.2 hG.1 hB hT hR (fun k hk' => ?_) (kk 3 (by decide)).1 (kk 2 (by decide)).2 (kk 10 (by decide)).1 (kk 30 (by decide)).1 (kk 29 (by decide)).2 n2
    have hn : ¬ P k := fun z => hP k z hk'
    exact ⟨f1.i k hn, f1.a k hn, f1.r k hn⟩
theorem XI.xc (H : XI G X b h1 nx c S N) : ∃ ns nt np lk td q, XC G X (b + 17) (encM G b S h1) c (ma S 1) ns nt np lk td q := H.2.2.2.1.XC H.1 up_M
/-- the book as it was -/
theorem XI.po {cl rf : Hp → Nat → Rz α} {v : α} {c' : CS} {N' : Nat} {S' : MS} {ks : List Nat} (H : XI G X b h1 nx c S N) (e1 : cl (encX G X c (encM G b S h1)) nx = some (v, encX G X c' (encM G b S h1), nx)) (f1 : FrX PO c c') (e2 : rf (encM G b S (encX G X c' (encM G b S h1))) nx = some (v, encM G b S' (encX G X c' (encM G b S h1)), nx)) (f2 : FrM ks S S') (h1' : 1 ∉ ks) (hk : ∀ k ∈ [2, 3, 10, 29, 30], k ∉ ks) (n2 : StOk S' N') (n3 : N' ≤ N + 117384) : St G X b cl rf h1 nx c S N := by
  obtain ⟨ns, nt, np, lk, td, q, hC⟩ := H.xc
  have no : ∀ k, k < 51 → ¬ PO k := fun k hk z => by unfold PO at z; omega
  refine H.st e1 (HG.rf (H.2.2.1.M H.2.1)) f1 (fun k z w => by unfold PO at z; omega) ?_ ?_ ?_ e2 f2 hk n2 n3
  · intro j hj
    rw [f1.a 2 (no 2 (by omega))]
    exact H.2.2.2.2.1 j hj
  · exact H.2.2.2.2.2.1.up up_M (fun j _ => by rw [f1.r 3 (no 3 (by omega))]) (fun j _ => by rw [f1.r 11 (no 11 (by omega))])
  · rw [f2.ofa 1 h1']
    exact (hC.po f1).bk2
/-- a new book -/
theorem XI.bk {cl rf : Hp → Nat → Rz α} {v : α} {c' : CS} {N' ns nt np lk td q : Nat} {S' : MS} {s' : Nat → Int32} {P : Nat → Prop} {ks : List Nat} (H : XI G X b h1 nx c S N) (e1 : cl (encX G X c (encM G b S h1)) nx = some (v, encX G X c' (encM G b S h1), nx)) (f1 : FrX P c c') (hP : ∀ k, P k → ¬ (k = 0 ∨ (27 ≤ k ∧ k < 51) ∨ k = 106 ∨ k = 107 ∨ (121 ≤ k ∧ k < 127))) (hT : TyR (xa c')) (er : xr c' 3 = xr c 3 ∧ xr c' 11 = xr c 11) (hC : XC G X (b + 17) (encM G b S h1) c' s' ns nt np lk td q) (e2 : rf (encM G b S (encX G X c' (encM G b S h1))) nx = some (v, encM G b S' (encX G X c' (encM G b S h1)), nx)) (es : ma S' 1 = s') (f2 : FrM ks S S') (hk : ∀ k ∈ [2, 3, 10, 29, 30], k ∉ ks) (n2 : StOk S' N') (n3 : N' ≤ N + 117384) : St G X b cl rf h1 nx c S N := by
  refine H.st e1 (HG.rf (H.2.2.1.M H.2.1)) f1 hP hT ?_ ?_ e2 f2 hk n2 n3
  · exact H.2.2.2.2.2.1.up up_M (fun j _ => by rw [er.1]) (fun j _ => by rw [er.2])
  · rw [es]
    exact hC.bk2
theorem XI.m10 (H : XI G X b h1 nx c S N) : mi S 10 = -1 := H.2.2.2.2.2.2.2.2.2.2.2.1
theorem XI.sto (H : XI G X b h1 nx c S N) : StOk S N := H.2.2.2.2.2.2.2.2.2.2.2.2
theorem XI.tod (H : XI G X b h1 nx c S N) : ∀ j, j < 8 → xa c 106 j = nI 0 := H.2.2.2.2.2.2.2.2.2.1
theorem XI.bod (H : XI G X b h1 nx c S N) : ∃ r, r ≤ 20 ∧ BdR (xa c 107) S r := H.2.2.2.2.2.2.2.2.2.2.1
theorem XI.tyr (H : XI G X b h1 nx c S N) : TyR (xa c) := H.2.2.2.2.1
theorem XI.rfr (H : XI G X b h1 nx c S N) : RfR (b + 17) (encM G b S h1) (xr c) := H.2.2.2.2.2.1.up up_M (fun _ _ => rfl) (fun _ _ => rfl)
theorem ty_of {P : Nat → Prop} {c c' : CS} (f : FrX P c c') (hP : ¬ P 2) (h : TyR (xa c)) : TyR (xa c') := fun j hj => by rw [f.a 2 hP]; exact h j hj
theorem lk_of {s : Nat → Int32} {l nt : Nat} (h4 : s 4 = nI l) (hl : l ≤ 3) (h1 : s 1 = nI nt) (hn : nt ≤ 8) : lkF s = nI (min l nt) := by
  unfold lkF
  rw [h4, h1]
  by_cases c : nI l < nI nt
  · rw [if_pos c]
    rw [nI_ltE (by omega) (by omega)] at c
    rw [Nat.min_eq_left (by omega)]
  · rw [if_neg c]
    rw [nI_ltE (by omega) (by omega)] at c
    rw [Nat.min_eq_right (by omega)]
theorem XC.bok {lo : Nat} {h0 : Hp} {ns nt np lk td q : Nat} (hC : XC G X lo h0 c (ma S 1) ns nt np lk td q) : BOk S nt np lk td := by
  obtain ⟨-, -, w1, w2, w3, w4, w5, w6, w7, w8, ⟨l, l1, l3, l4, l5⟩, w10, w11, w12, w13, w14, w15⟩ := id hC
  have hmin : min l nt ≤ nt := Nat.min_le_right _ _
  have hmin3 : min l nt ≤ l := Nat.min_le_left _ _
  refine ⟨⟨w3, w4, by rw [l5]; exact lk_of l4 l3 w3 w4, by omega⟩, by omega, fun t ht => x_ThOk hC ht, w5, w6, fun p hp => ?_, w7, by omega⟩
  obtain ⟨⟨k, k6, ek⟩, ⟨v, v99, ev⟩, r, r10, er, -⟩ := w13 p hp
  have s1 : sN (ma S 1) (1070 + p) = k := by unfold sN; rw [ek, nI_clamp (by omega)]
  have s2 : sN (ma S 1) (1082 + p) = v := by unfold sN; rw [ev, nI_clamp (by omega)]
  have s3 : sN (ma S 1) (1094 + p) = r := by unfold sN; rw [er, nI_clamp (by omega)]
  exact ⟨⟨by omega, by rw [s1]; exact ek, by omega, by rw [s2]; exact ev, by omega⟩, by rw [s3]; exact er, by omega⟩
theorem XC.sok {lo : Nat} {h0 : Hp} {ns nt np lk td q : Nat} (hC : XC G X lo h0 c (ma S 1) ns nt np lk td q) : SOk S ns := ⟨hC.2.2.1, hC.2.2.2.1, hC.2.2.2.2.2.2.2.2.2.2.2.2.2.2.2.1⟩
theorem s_best (H : XI G X b h1 nx c S N) (hN : N + 117384 < 2 ^ 31) (t : Int32) (w : Int32) (n : Int32) (k : Int32) : St G X b (fun h y => F_X11_best G h y X t w n k) (fun h y => F_X12_best G h y b t w n k) h1 nx c S N := by
  obtain ⟨ns, nt, np, lk, td, q, hC⟩ := H.xc
  have hB := hC.bok
  have h10 := H.m10
  obtain ⟨c', e1, f1⟩ := x_best (nx := nx) hC h10 t w n k
  obtain ⟨S', N', e2, f2, n2, n3⟩ := f_best (G := G) (b := b) (h0 := encX G X c' (encM G b S h1)) (nx := nx) hB H.sto (by omega) t w n k
  exact H.po e1 f1 e2 f2 (by decide) (by decide) n2 (by omega)
theorem s_number (H : XI G X b h1 nx c S N) (hN : N + 117384 < 2 ^ 31) (t : Int32) (n : Int32) : St G X b (fun h y => F_X11_number G h y X t n) (fun h y => F_X12_number G h y b t n) h1 nx c S N := by
  obtain ⟨ns, nt, np, lk, td, q, hC⟩ := H.xc
  have hB := hC.bok
  have h10 := H.m10
  obtain ⟨c', e1, f1⟩ := x_number (nx := nx) hC h10 t n
  obtain ⟨S', N', e2, f2, n2, n3⟩ := f_number (G := G) (b := b) (h0 := encX G X c' (encM G b S h1)) (nx := nx) hB H.sto (by omega) t n
  exact H.po e1 f1 e2 f2 (by decide) (by decide) n2 (by omega)
theorem s_such (H : XI G X b h1 nx c S N) (hN : N + 117384 < 2 ^ 31) (t : Int32) (n : Int32) : St G X b (fun h y => F_X11_such G h y X t n) (fun h y => F_X12_such G h y b t n) h1 nx c S N := by
  obtain ⟨ns, nt, np, lk, td, q, hC⟩ := H.xc
  have hB := hC.bok
  have h10 := H.m10
  obtain ⟨c', e1, f1⟩ := x_such (nx := nx) hC h10 t n
  obtain ⟨S', N', e2, f2, n2, n3⟩ := f_such (G := G) (b := b) (h0 := encX G X c' (encM G b S h1)) (nx := nx) hB H.sto (by omega) t n
  exact H.po e1 f1 e2 f2 (by decide) (by decide) n2 (by omega)
theorem s_whom (H : XI G X b h1 nx c S N) (hN : N + 117384 < 2 ^ 31) (p : Int32) : St G X b (fun h y => F_X11_whom G h y X p) (fun h y => F_X12_whom G h y b p) h1 nx c S N := by
  obtain ⟨ns, nt, np, lk, td, q, hC⟩ := H.xc
  have hB := hC.bok
  have h10 := H.m10
  obtain ⟨c', e1, f1⟩ := x_whom (nx := nx) hC h10 H.tod p
  obtain ⟨S', N', e2, f2, n2, n3⟩ := f_whom (G := G) (b := b) (h0 := encX G X c' (encM G b S h1)) (nx := nx) hB H.sto (by omega) p
  exact H.po e1 f1 e2 f2 (by decide) (by decide) n2 (by omega)
theorem s_mean (H : XI G X b h1 nx c S N) (hN : N + 117384 < 2 ^ 31) (p : Int32) (d : Int32) : St G X b (fun h y => F_X11_mean G h y X p d) (fun h y => F_X12_mean G h y b p d) h1 nx c S N := by
  obtain ⟨ns, nt, np, lk, td, q, hC⟩ := H.xc
  have hB := hC.bok
  have h10 := H.m10
  obtain ⟨c', e1, f1⟩ := x_mean (nx := nx) hC h10 p d
  obtain ⟨S', N', e2, f2, n2, n3⟩ := f_mean (G := G) (b := b) (h0 := encX G X c' (encM G b S h1)) (nx := nx) hB H.sto (by omega) p d
  exact H.po e1 f1 e2 f2 (by decide) (by decide) n2 (by omega)
theorem s_all (H : XI G X b h1 nx c S N) (hN : N + 117384 < 2 ^ 31) (d : Int32) (w : Int32) : St G X b (fun h y => F_X11_all G h y X d w) (fun h y => F_X12_all G h y b d w) h1 nx c S N := by
  obtain ⟨ns, nt, np, lk, td, q, hC⟩ := H.xc
  have hB := hC.bok
  have h10 := H.m10
  obtain ⟨c', e1, f1⟩ := x_all (nx := nx) hC h10 d w
  obtain ⟨S', N', e2, f2, n2, n3⟩ := f_all (G := G) (b := b) (h0 := encX G X c' (encM G b S h1)) (nx := nx) hB H.sto (by omega) d w
  exact H.po e1 f1 e2 f2 (by decide) (by decide) n2 (by omega)
theorem s_loses (H : XI G X b h1 nx c S N) (hN : N + 117384 < 2 ^ 31) (p : Int32) (d : Int32) : St G X b (fun h y => F_X11_loses G h y X p d) (fun h y => F_X12_loses G h y b p d) h1 nx c S N := by
  obtain ⟨ns, nt, np, lk, td, q, hC⟩ := H.xc
  have hB := hC.bok
  have h10 := H.m10
  obtain ⟨c', e1, f1⟩ := x_loses (nx := nx) hC h10 p d
  obtain ⟨S', N', e2, f2, n2, n3⟩ := f_loses (G := G) (b := b) (h0 := encX G X c' (encM G b S h1)) (nx := nx) hB H.sto (by omega) p d
  exact H.po e1 f1 e2 f2 (by decide) (by decide) n2 (by omega)
theorem s_bound (H : XI G X b h1 nx c S N) (hN : N + 117384 < 2 ^ 31) (n : Int32) : St G X b (fun h y => F_X11_bound G h y X n) (fun h y => F_X12_bound G h y b n) h1 nx c S N := by
  obtain ⟨ns, nt, np, lk, td, q, hC⟩ := H.xc
  have hB := hC.bok
  have h10 := H.m10
  obtain ⟨c', e1, f1⟩ := x_bound (nx := nx) hC h10 n
  obtain ⟨S', N', e2, f2, n2, n3⟩ := f_bound (G := G) (b := b) (h0 := encX G X c' (encM G b S h1)) (nx := nx) hB H.sto (by omega) n
  have f2 : FrM KS S S' := by have := f2; unfold Wr at this; rw [msa_self] at this; exact this
  exact H.po e1 f1 e2 f2 (by decide) (by decide) n2 (by omega)
theorem s_judged (H : XI G X b h1 nx c S N) (hN : N + 117384 < 2 ^ 31) (p : Int32) (d : Int32) : St G X b (fun h y => F_X11_judged G h y X p d) (fun h y => F_X12_judged G h y b p d) h1 nx c S N := by
  obtain ⟨ns, nt, np, lk, td, q, hC⟩ := H.xc
  have hB := hC.bok
  have h10 := H.m10
  obtain ⟨c', e1, f1⟩ := x_judged (nx := nx) hC h10 p d
  obtain ⟨S', N', e2, f2, n2, n3⟩ := f_judged (G := G) (b := b) (h0 := encX G X c' (encM G b S h1)) (nx := nx) hB H.sto (by omega) p d
  have f2 : FrM KS S S' := by have := f2; unfold Wr at this; rw [msa_self] at this; exact this
  exact H.po e1 f1 e2 f2 (by decide) (by decide) n2 (by omega)
theorem s_round (H : XI G X b h1 nx c S N) (hN : N + 117384 < 2 ^ 31) (mm : Int32) (w : Int32) : St G X b (fun h y => F_X11_round G h y X mm w) (fun h y => F_X12_round G h y b mm w) h1 nx c S N := by
  obtain ⟨ns, nt, np, lk, td, q, hC⟩ := H.xc
  have hB := hC.bok
  have h10 := H.m10
  obtain ⟨c', e1, f1⟩ := x_round (nx := nx) hC h10 mm w
  obtain ⟨S', N', e2, f2, n2, n3⟩ := f_round (G := G) (b := b) (h0 := encX G X c' (encM G b S h1)) (nx := nx) hB H.sto (by omega) mm w
  exact H.po e1 f1 e2 f2 (by decide) (by decide) n2 (by omega)
theorem s_tour (H : XI G X b h1 nx c S N) (hN : N + 117384 < 2 ^ 31) (w : Int32) (n : Int32) : St G X b (fun h y => F_X11_tour G h y X w n) (fun h y => F_X12_tour G h y b w n) h1 nx c S N := by
  obtain ⟨ns, nt, np, lk, td, q, hC⟩ := H.xc
  have hB := hC.bok
  have h10 := H.m10
  obtain ⟨c', e1, f1⟩ := x_tour (nx := nx) hC h10 w n
  obtain ⟨S', N', e2, f2, n2, n3⟩ := f_tour (G := G) (b := b) (h0 := encX G X c' (encM G b S h1)) (nx := nx) hB H.sto (by omega) w n
  have f2 : FrM KS S S' := by have := f2; unfold Wr at this; rw [msa_self] at this; exact this
  exact H.po e1 f1 e2 f2 (by decide) (by decide) n2 (by omega)
theorem s_edge (H : XI G X b h1 nx c S N) (hN : N + 117384 < 2 ^ 31) (t : Int32) (n : Int32) : St G X b (fun h y => F_X11_edge G h y X t n) (fun h y => F_X12_edge G h y b t n) h1 nx c S N := by
  obtain ⟨ns, nt, np, lk, td, q, hC⟩ := H.xc
  have hB := hC.bok
  have h10 := H.m10
  obtain ⟨c', e1, f1⟩ := x_edge (nx := nx) hC h10 t n
  obtain ⟨S', N', e2, f2, n2, n3⟩ := f_edge (G := G) (b := b) (h0 := encX G X c' (encM G b S h1)) (nx := nx) hB H.sto h10 (by omega) t n
  exact H.po e1 f1 e2 f2 (by decide) (by decide) n2 (by omega)
theorem s_told (H : XI G X b h1 nx c S N) (hN : N + 117384 < 2 ^ 31) (a : Int32) (d : Int32) (k : Int32) (w : Int32) : St G X b (fun h y => F_X11_told G h y X a d k w) (fun h y => F_X12_told G h y b a d k w) h1 nx c S N := by
  obtain ⟨ns, nt, np, lk, td, q, hC⟩ := H.xc
  have hB := hC.bok
  have h10 := H.m10
  obtain ⟨S', e2, f2⟩ := f_told (G := G) (b := b) (h0 := encX G X c (encM G b S h1)) (nx := nx) hC.sok a d k w
  exact H.po (x_told hC a d k w) FrX.rf e2 f2 (by decide) (by decide) (StOk_fr f2 (by decide) (by decide) H.sto) (by omega)
theorem s_of (H : XI G X b h1 nx c S N) (hN : N + 117384 < 2 ^ 31) (t : Int32) (w : Int32) : St G X b (fun h y => F_X11_of G h y X t w) (fun h y => F_X12_of G h y b t w) h1 nx c S N := by
  obtain ⟨ns, nt, np, lk, td, q, hC⟩ := H.xc
  have hB := hC.bok
  have h10 := H.m10
  exact H.po (x_of hC t w) FrX.rf (f_of hB.1.1 hB.1.2.1 t w) (FrM.rf (ks := [])) (by decide) (by decide) H.sto (by omega)
theorem s_as (H : XI G X b h1 nx c S N) (hN : N + 117384 < 2 ^ 31) (p : Int32) (u : Int32) : St G X b (fun h y => F_X11_as G h y X p u) (fun h y => F_X12_as G h y b p u) h1 nx c S N := by
  obtain ⟨ns, nt, np, lk, td, q, hC⟩ := H.xc
  have hB := hC.bok
  have h10 := H.m10
  exact H.po (x_as hC p u) FrX.rf (f_as hB p u) (FrM.rf (ks := [])) (by decide) (by decide) H.sto (by omega)
theorem s_trace (H : XI G X b h1 nx c S N) (hN : N + 117384 < 2 ^ 31) (k : Int32) : St G X b (fun h y => F_X11_trace G h y X k) (fun h y => F_X12_trace G h y b k) h1 nx c S N := by
  obtain ⟨ns, nt, np, lk, td, q, hC⟩ := H.xc
  have hB := hC.bok
  have h10 := H.m10
  obtain ⟨r, hr, hb⟩ := H.bod
  exact H.po (x_trace hb hr k) FrX.rf (f_trace hb.1 hr k) (FrM.rf (ks := [])) (by decide) (by decide) H.sto (by omega)
theorem s_count (H : XI G X b h1 nx c S N) (hN : N + 117384 < 2 ^ 31) (w : Int32) : St G X b (fun h y => F_X11_count G h y X w) (fun h y => F_X12_count G h y b w) h1 nx c S N := by
  obtain ⟨ns, nt, np, lk, td, q, hC⟩ := H.xc
  have hB := hC.bok
  have h10 := H.m10
  obtain ⟨r, hr, hb⟩ := H.bod
  exact H.po (x_count hC (hb.2.1.trans hb.1.symm) w) FrX.rf (f_count w) (FrM.rf (ks := [])) (by decide) (by decide) H.sto (by omega)
theorem s_thing (H : XI G X b h1 nx c S N) (hN : N + 117384 < 2 ^ 31) (a : Int32) (v : Int32) : St G X b (fun h y => F_X11_thing G h y X a v) (fun h y => F_X12_thing G h y b a v) h1 nx c S N := by
  obtain ⟨ns, nt, np, lk, td, q, hC⟩ := H.xc
  have hB := hC.bok
  have h10 := H.m10
  obtain ⟨c', nt', lk', e1, f1, er, hC'⟩ := x_thing (nx := nx) hC a v
  exact H.bk e1 f1 (fun k z w => by unfold PB1 at z; omega) (ty_of f1 (fun z => by unfold PB1 at z; omega) H.tyr) ⟨by rw [er], by rw [er]⟩ hC' (f_thing hB.1.1 hB.1.2.1 a v) ma_msa_s (FrM.msa (k := 1) (ks := [1]) (by decide)) (by decide) (StOk_msa1 H.sto) (by omega)
theorem s_looks (H : XI G X b h1 nx c S N) (hN : N + 117384 < 2 ^ 31) (v : Int32) : St G X b (fun h y => F_X11_looks G h y X v) (fun h y => F_X12_looks G h y b v) h1 nx c S N := by
  obtain ⟨ns, nt, np, lk, td, q, hC⟩ := H.xc
  have hB := hC.bok
  have h10 := H.m10
  obtain ⟨c', lk', e1, f1, er, hC'⟩ := x_looks (nx := nx) hC v
  exact H.bk e1 f1 (fun k z w => by unfold PB1 at z; omega) (ty_of f1 (fun z => by unfold PB1 at z; omega) H.tyr) ⟨by rw [er], by rw [er]⟩ hC' (f_looksA v) ma_msa_s (FrM.msa (k := 1) (ks := [1]) (by decide)) (by decide) (StOk_msa1 H.sto) (by omega)
theorem s_row (H : XI G X b h1 nx c S N) (hN : N + 117384 < 2 ^ 31) (p : Int32) (set : Int32) : St G X b (fun h y => F_X11_row G h y X p set) (fun h y => F_X12_row G h y b p set) h1 nx c S N := by
  obtain ⟨ns, nt, np, lk, td, q, hC⟩ := H.xc
  have hB := hC.bok
  have h10 := H.m10
  obtain ⟨c', e1, f1, er, hC'⟩ := x_row (nx := nx) hC p set
  exact H.bk e1 f1 (fun k z w => by unfold PB1 at z; omega) (ty_of f1 (fun z => by unfold PB1 at z; omega) H.tyr) ⟨by rw [er], by rw [er]⟩ hC' (f_row hB p set) ma_msa_s (FrM.msa (k := 1) (ks := [1]) (by decide)) (by decide) (StOk_msa1 H.sto) (by omega)
theorem s_seen (H : XI G X b h1 nx c S N) (hN : N + 117384 < 2 ^ 31) (t : Int32) {w : Int32} (hw : w = nI 0 ∨ w = nI 1) : St G X b (fun h y => F_X11_seen G h y X t w) (fun h y => F_X12_seen G h y b t w) h1 nx c S N := by
  obtain ⟨ns, nt, np, lk, td, q, hC⟩ := H.xc
  have hB := hC.bok
  have h10 := H.m10
  obtain ⟨c', e1, f1, hC'⟩ := x_seen (nx := nx) hC t hw
  exact H.bk e1 f1 (fun k z w => by unfold PD at z; omega) (ty_of f1 (fun z => by unfold PD at z; omega) H.tyr) ⟨f1.r 3 (fun z => by unfold PD at z; omega), f1.r 11 (fun z => by unfold PD at z; omega)⟩ hC' (f_seen hB.1.1 hB.1.2.1 t w) ma_msa_s (FrM.msa (k := 1) (ks := [1]) (by decide)) (by decide) (StOk_msa1 H.sto) (by omega)
theorem s_days (H : XI G X b h1 nx c S N) (hN : N + 117384 < 2 ^ 31) (d : Int32) : St G X b (fun h y => F_X11_days G h y X d) (fun h y => F_X12_days G h y b d) h1 nx c S N := by
  obtain ⟨ns, nt, np, lk, td, q, hC⟩ := H.xc
  have hB := hC.bok
  have h10 := H.m10
  obtain ⟨c', e1, f1, hC'⟩ := x_days (nx := nx) h10 hC d
  obtain ⟨S', e2, f2, n2⟩ := f_days (G := G) (b := b) (h0 := encX G X c' (encM G b S h1)) (nx := nx) hB H.sto d
  exact H.bk e1 f1 (fun k z w => by unfold PD at z; omega) (ty_of f1 (fun z => by unfold PD at z; omega) H.tyr) ⟨f1.r 3 (fun z => by unfold PD at z; omega), f1.r 11 (fun z => by unfold PD at z; omega)⟩ hC' e2 ((f2.ofa 1 (by decide)).trans ma_msa_s) (FrM.trans (FrM.msa (k := 1) (ks := [1]) (by decide)) f2) (by decide) n2 (by omega)
theorem s_run (H : XI G X b h1 nx c S N) (hN : N + 117384 < 2 ^ 31) (p : Int32) (d : Int32) (w : Int32) : St G X b (fun h y => F_X11_run G h y X p d w) (fun h y => F_X12_run G h y b p d w) h1 nx c S N := by
  obtain ⟨ns, nt, np, lk, td, q, hC⟩ := H.xc
  have hB := hC.bok
  have h10 := H.m10
  obtain ⟨c', e1, f1, hC'⟩ := x_run (nx := nx) hC h10 H.tod p d w
  obtain ⟨S', N', e2, f2, n2, n3⟩ := f_run (G := G) (b := b) (h0 := encX G X c' (encM G b S h1)) (nx := nx) hB H.sto (by omega) p d w
  exact H.bk e1 f1 (fun k z w => by unfold PD at z; omega) (ty_of f1 (fun z => by unfold PD at z; omega) H.tyr) ⟨f1.r 3 (fun z => by unfold PD at z; omega), f1.r 11 (fun z => by unfold PD at z; omega)⟩ hC' e2 ((f2.ofa 1 (by decide)).trans ma_msa_s) (FrM.trans (FrM.msa (k := 1) (ks := [1]) (by decide)) f2) (by decide) n2 (by omega)
theorem s_feed (H : XI G X b h1 nx c S N) (hN : N + 117384 < 2 ^ 31) (x : Int64) (n : Int32) : St G X b (fun h y => F_X11_feed G h y X x n) (fun h y => F_X12_feed G h y b x n) h1 nx c S N := by
  obtain ⟨ns, nt, np, lk, td, q, hC⟩ := H.xc
  obtain ⟨c', q', e1, f1, hT, er, hC'⟩ := x_feed (nx := nx) hC H.tyr x n
  exact H.bk e1 f1 (fun k z w => by unfold PFe at z; omega) hT ⟨by rw [er], by rw [er]⟩ hC' (f_feed hC.2.2.2.2.2.2.2.2.2.2.2.1 hC.2.2.2.2.2.2.2.2.2.2.2.2.1 x n) ma_msa_s (FrM.msa (k := 1) (ks := [1]) (by decide)) (by decide) (StOk_msa1 H.sto) (by omega)
theorem s_plan (H : XI G X b h1 nx c S N) (hN : N + 117384 < 2 ^ 31) (k : Int32) (v : Int32) : St G X b (fun h y => F_X11_plan G h y X k v) (fun h y => F_X12_plan G h y b k v) h1 nx c S N := by
  obtain ⟨ns, nt, np, lk, td, q, hC⟩ := H.xc
  have hB := hC.bok
  have h10 := H.m10
  obtain ⟨c', h2, nx2, np', e1, hG, f1, hR, hC', -⟩ := x_plan hC H.2.1 (H.2.2.1.M H.2.1) H.rfr k v
  exact H.st e1 hG f1 (fun k z w => by unfold PB1 at z; omega) (ty_of f1 (fun z => by unfold PB1 at z; omega) H.tyr) hR (by rw [ma_msa_s]; exact hC'.bk2) (f_planA hB.2.2.2.1 hB.2.2.2.2.1 k v) (FrM.msa (k := 1) (ks := [1]) (by decide)) (by decide) (StOk_msa1 H.sto) (by omega)
end XST2
