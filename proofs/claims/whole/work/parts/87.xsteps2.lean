/-! SORT, ACT, IMAGE, UNDO; THE START -/
section XST3
variable {G : Gx} {X b nx N : Nat} {h1 : Hp} {c : CS} {S : MS}
theorem s_sort (H : XI G X b h1 nx c S N) : St G X b (fun h y => F_X11_sort G h y X) (fun h y => F_X12_sort G h y b) h1 nx c S N := by
  obtain ⟨ns, nt, np, lk, td, q, hC⟩ := H.xc
  obtain ⟨n1, n2⟩ := hC.nsC
  by_cases c6 : ns = 6
  · subst c6
    exact H.po (x_sort6 hC) FrX.rf (f_sort6 n1) (FrM.rf (ks := [])) (by decide) (by decide) H.sto (by omega)
  · have hn : ns < 6 := by omega
    have h5 : ma S 1 5 = nI q := hC.2.2.2.2.2.2.2.2.2.2.2.1
    have hq : q ≤ 120 := hC.2.2.2.2.2.2.2.2.2.2.2.2.1
    obtain ⟨c', h2, nx2, e1, hG, -, f1, hR, hy, hz⟩ := x_sort hC hn H.2.1 (H.2.2.1.M H.2.1) H.rfr H.tyr
    obtain ⟨S', e2, f2, gy, gz⟩ := f_sort (G := G) (b := b) (h0 := encX G X c' h2) (nx := nx2) n1 hn h5 hq
    refine H.st e1 hG f1 (fun k z w => by unfold PSo at z; omega) (ty_of f1 (fun z => by unfold PSo at z; omega) H.tyr) hR ?_ e2 f2 (by decide) (StOk_fr f2 (by decide) (by decide) H.sto) (by omega)
    by_cases cs : soOk (ma S 1) ns q
    · rw [gy cs]
      exact (hy cs).bk2
    · exact (hz cs _ (gz cs)).bk2
theorem s_act (H : XI G X b h1 nx c S N) (p w x : Int32) : St G X b (fun h y => F_X11_act G h y X p w x) (fun h y => F_X12_act G h y b p w x) h1 nx c S N := by
  obtain ⟨ns, nt, np, lk, td, q, hC⟩ := H.xc
  have hB := hC.bok
  have e1 := x_act (nx := nx) hC p w x
  generalize hc' : xsa c 107 (wB (upK (xa c 107) 0 (nI 0)) 0 (actF S p w x).2) = c' at e1
  obtain ⟨S', st0, e2, eS, f0, e30⟩ := f_act (G := G) (b := b) (h0 := encX G X c' h1) (nx := nx) hB p w x
  have f2 : FrM ([30, 31, 32, 33] ++ [29, 30]) S S' := by
    rw [eS]
    exact f0.trans (wrB_fr _ _ _)
  have xo : ∀ k, k ≠ 107 → xa c' k = xa c k := fun k hk => by rw [← hc']; exact xa_xsa_n hk
  have io : ∀ k, xi c' k = xi c k := fun k => by rw [← hc']; rfl
  have ro : ∀ k, xr c' k = xr c k := fun k => by rw [← hc']; rfl
  refine ⟨_, c', h1, nx, S', N, e1, by rw [← encMX (by have := H.1; omega), ← encMX (by have := H.1; omega)]; exact e2, ?_, by omega⟩
  refine H.gen2 (fun q x _ hx => hx) H.2.2.1 (Nat.le_refl _) ?_ ?_ ?_ (fun k hk => ⟨io k, xo k (by omega), ro k⟩) (f2.of1 3 (by decide)) (f2.ofa 2 (by decide)) (f2.of1 10 (by decide)) ?_ (StOk_fr f2 (by decide) (by decide) H.sto)
  · rw [f2.ofa 1 (by decide)]
    exact H.2.2.2.1.cg (fun q x _ hx => hx) (fun _ _ => rfl) (fun i _ => io _) (fun j _ => by rw [xo 2 (by decide)]) (fun j _ => by rw [ro]) (fun i j hi _ => by rw [xo _ (by omega)]) (fun j _ => Or.inr (by rw [xo 10 (by decide)])) (fun j _ => by rw [ro]) (fun j _ => by rw [xo 12 (by decide)]) (fun p j hp _ => by rw [xo _ (by omega)])
  · intro j hj
    rw [xo 2 (by decide)]
    exact H.tyr j hj
  · exact H.2.2.2.2.2.1.up (fun q x _ hx => hx) (fun j _ => by rw [ro]) (fun j _ => by rw [ro])
  · have l8 : (actF S p w x).2.length ≤ 8 := by
      unfold actF
      split
      · simp
      · split
        · simp
        · exact actL_len _ _
    refine ⟨0 + (actF S p w x).2.length, by omega, ?_⟩
    have hb : BdR (upK (xa c 107) 0 (nI 0)) st0 0 := ⟨e30, upK_s, fun j hj => absurd hj (by omega)⟩
    have := BdR.wr (actF S p w x).2 hb
    rw [← eS] at this
    rw [← hc', xa_xsa_s]
    exact this
theorem s_image (H : XI G X b h1 nx c S N) : St G X b (fun h y => F_X11_image G h y X) (fun h y => F_X12_image G h y b) h1 nx c S N := by
  obtain ⟨ns, nt, np, lk, td, q, hC⟩ := H.xc
  obtain ⟨a1, a2, a3, a4, a5, a6, a7, a8, a9, a10, a11, a12, a13⟩ := id H
  obtain ⟨c', e1, f1, ⟨k1, k2, k3, k4, k5, k6, k7, k8⟩, e0⟩ := x_image (G := G) (X := X) (nx := nx) H.rfr (by omega) H.tyr
  have e115 : xi c 115 = ma S 1 3 := hC.bk.2.2.2.2.1
  rw [e115] at e1
  have no : ∀ k, ¬ (k = 0 ∨ (27 ≤ k ∧ k < 51) ∨ (121 ≤ k ∧ k < 127)) → ¬ (PCi k ∨ k = 0) := fun k hk z => by unfold PCi at z; omega
  refine ⟨_, c', h1, nx, msi (msa S 2 (cpF 1240 (ma S 1) (ma S 2))) 3 (nI 1), N, e1, by rw [← encMX (by omega), ← encMX (by omega)]; exact f_image, ?_, by omega⟩
  refine ⟨a1, a2, a3, ?_, ?_, ?_, ?_, ?_, Or.inr ⟨e0, mi_msi_s, ?_⟩, ?_, ?_, ?_, ?_⟩
  · rw [show ma (msi (msa S 2 (cpF 1240 (ma S 1) (ma S 2))) 3 (nI 1)) 1 = ma S 1 from ma_msa_n (by decide)]
    exact a4.cg (fun q x _ hx => hx) (fun _ _ => rfl) (fun i _ => f1.i _ (no _ (by omega))) (fun j _ => by rw [f1.a 2 (no _ (by omega))]) (fun j _ => by rw [f1.r 3 (no _ (by omega))]) (fun i j hi _ => by rw [f1.a _ (no _ (by omega))]) (fun j _ => Or.inr (by rw [f1.a 10 (no _ (by omega))])) (fun j _ => by rw [f1.r 11 (no _ (by omega))]) (fun j _ => by rw [f1.a 12 (no _ (by omega))]) (fun p j hp _ => by rw [f1.a _ (no _ (by omega))])
  · exact ty_of f1 (no _ (by omega)) a5
  · exact a6.up (fun q x _ hx => hx) (fun j _ => by rw [f1.r 3 (no _ (by omega))]) (fun j _ => by rw [f1.r 11 (no _ (by omega))])
  · intro j hj
    show fits .byte (.int (xa c' 27 j)) = true
    rw [k2 j hj]
    exact a5 j hj
  · exact a6.up (fun q x _ hx => hx) k3 k6
  · rw [show ma (msi (msa S 2 (cpF 1240 (ma S 1) (ma S 2))) 3 (nI 1)) 2 = cpF 1240 (ma S 1) (ma S 2) from ma_msa_s]
    exact a4.cg (fun q x _ hx => hx) (fun k hk => if_pos hk) (fun i hi => by
      show xi c' (111 + i + 10) = _
      rw [show 111 + i + 10 = 121 + i by omega]
      exact k1 i hi) k2 k3 (fun i j hi hj => by
      show xa c' (4 + i + 25) j = _
      rw [show 4 + i + 25 = 29 + i by omega]
      exact k4 i j hi hj) (fun j hj => Or.inl (k5 j hj)) k6 k7 (fun p j hp hj => by
      show xa c' (14 + p + 25) j = _
      rw [show 14 + p + 25 = 39 + p by omega]
      exact k8 p j hp hj)
  · intro j hj
    rw [f1.a 106 (no _ (by omega))]
    exact a10 j hj
  · rw [f1.a 107 (no _ (by omega))]
    obtain ⟨r, r1, r2, r3, r4⟩ := a11
    exact ⟨r, r1, (mi_msi_n (st := msa S 2 (cpF 1240 (ma S 1) (ma S 2))) (k := 3) (j := 30) (by decide)).trans r2, r3, fun j hj => by
      rw [show ma (msi (msa S 2 (cpF 1240 (ma S 1) (ma S 2))) 3 (nI 1)) 29 = ma S 29 from ma_msa_n (by decide)]
      exact r4 j hj⟩
  · exact (mi_msi_n (st := msa S 2 (cpF 1240 (ma S 1) (ma S 2))) (k := 3) (j := 10) (by decide)).trans a12
  · exact StOk_fr ((FrM.msa (k := 2) (ks := [2, 3]) (by decide)).trans (FrM.msi (k := 3) (ks := [2, 3]) (by decide))) (by decide) (by decide) a13
theorem s_undo (H : XI G X b h1 nx c S N) : St G X b (fun h y => F_X11_undo G h y X) (fun h y => F_X12_undo G h y b) h1 nx c S N := by
  obtain ⟨a1, a2, a3, a4, a5, a6, a7, a8, a9, a10, a11, a12, a13⟩ := id H
  rcases a9 with ⟨z1, z2⟩ | ⟨z1, z2, z3⟩
  · have eu : undoF S = (-3, ma S 1) := if_pos z2
    have e2 := f_undo (G := G) (b := b) (h0 := encX G X c (encM G b S h1)) (nx := nx) (st := S)
    rw [eu] at e2
    have e2 : F_X12_undo G (encM G b S (encX G X c (encM G b S h1))) nx b = some (-3, encM G b (msa S 1 (ma S 1)) (encX G X c (encM G b S h1)), nx) := e2
    rw [msa_self] at e2
    exact H.po (x_undo0 z1) FrX.rf e2 (FrM.rf (ks := [])) (by decide) (by decide) a13 (by omega)
  · have hz : ¬ xi c 0 = 0 := by rw [z1]; decide
    have eu : undoF S = (ma S 2 3, cpF 1240 (ma S 2) (ma S 1)) := if_neg (by rw [z2]; decide)
    obtain ⟨c', e1, f1, ⟨k1, k2, k3, k4, k5, k6, k7, k8⟩⟩ := x_undo (G := G) (X := X) (nx := nx) (h0 := encM G b S h1) (a8.up up_M (fun _ _ => rfl) (fun _ _ => rfl)) (by omega) a7 hz
    have e125 : xi c 125 = ma S 2 3 := by
      obtain ⟨ns, nt, np, lk, td, q, hK, -⟩ := z3
      exact hK.1.2.2.2.2.1
    rw [e125] at e1
    have e2 := f_undo (G := G) (b := b) (h0 := encX G X c' (encM G b S h1)) (nx := nx) (st := S)
    rw [eu] at e2
    refine H.st e1 (HG.rf (a3.M a2)) f1 (fun k z w => by unfold PCu at z; omega) ?_ ?_ ?_ e2 (FrM.msa (k := 1) (ks := [1]) (by decide)) (by decide) (StOk_msa1 a13) (by omega)
    · intro j hj
      rw [k2 j hj]
      exact a7 j hj
    · exact a8.up up_M k3 k6
    · rw [ma_msa_s]
      exact z3.cg up_M (fun k hk => if_pos hk) (fun i hi => by
        show _ = xi c (111 + i + 10)
        rw [show 111 + i + 10 = 121 + i by omega]
        exact k1 i hi) k2 k3 (fun i j hi hj => by
        show _ = xa c (4 + i + 25) j
        rw [show 4 + i + 25 = 29 + i by omega]
        exact k4 i j hi hj) (fun j hj => Or.inl (k5 j hj)) k6 k7 (fun p j hp hj => by
        show _ = xa c (14 + p + 25) j
        rw [show 14 + p + 25 = 39 + p by omega]
        exact k8 p j hp hj)
theorem XI.begin {H : Hp} (hX : X + 108 = b) (hb : b + 17 ≤ g_B G + nx) (hf : Fsh G H nx) : XI G X b H nx c0S s0M 0 := by
  have z0 : (0 : Int32) = nI 0 := rfl
  have r0 : ∀ k, k ≠ 4 → ma s0M 1 k = nI 0 := fun k hk => by
    show (if 1 = 1 ∧ k = 4 then nI 1 else 0) = nI 0
    rw [if_neg (fun z => hk z.2)]
    rfl
  have r4 : ma s0M 1 4 = nI 1 := rfl
  refine ⟨hX, hb, hf, ⟨0, 0, 0, 0, 0, 0, ⟨⟨?_, ?_, ?_, ?_, ?_, ?_⟩, fun t ht => absurd ht (by omega), fun t ht => absurd ht (by omega), fun t ht => absurd ht (by omega), fun t ht => absurd ht (by omega)⟩, ⟨r0 0 (by decide), by omega, r0 1 (by decide), by omega, r0 2 (by decide), by omega, r0 3 (by decide), by omega, ⟨1, by omega, by omega, r4, rfl⟩, r0 5 (by decide), by omega, fun t ht => absurd ht (by omega), fun t ht => absurd ht (by omega), fun t ht => absurd ht (by omega), fun t ht => absurd ht (by omega)⟩⟩, fun j hj => rfl, ?_, fun j hj => rfl, ?_, Or.inl ⟨rfl, rfl⟩, fun j hj => rfl, ⟨0, by omega, rfl, rfl, fun j hj => absurd hj (by omega)⟩, rfl, rfl, fun i => ⟨0, by omega, rfl⟩⟩
  · rw [r0 5 (by decide)]; rfl
  · rw [r0 0 (by decide)]; rfl
  · rw [r0 1 (by decide)]; rfl
  · rw [r0 2 (by decide)]; rfl
  · rw [r0 3 (by decide)]; rfl
  · rw [r4]; rfl
  · exact ⟨fun k q _ he => absurd he (by show ¬ none = some q; simp), fun k q _ he => absurd he (by show ¬ none = some q; simp)⟩
  · exact ⟨fun k q _ he => absurd he (by show ¬ none = some q; simp), fun k q _ he => absurd he (by show ¬ none = some q; simp)⟩
end XST3
