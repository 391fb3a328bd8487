section XY2
variable {G : Gx} {X lo nx : Nat} {h0 : Hp} {c : CS} {S : MS} {ns nt np lk td q : Nat}
set_option maxRecDepth 100000 in
set_option maxHeartbeats 1000000 in
theorem x_bound (hC : XC G X lo h0 c (ma S 1) ns nt np lk td q) (h10 : mi S 10 = -1) (n : Int32) : ∃ c' : CS, F_X11_bound G (encX G X c h0) nx X n = some (boundF S nt lk n, encX G X c' h0, nx) ∧ FrX PO c c' := by
  have h8 := x_nt8 hC
  obtain ⟨mn, hmn⟩ : ∃ mn : Int64, mn = noJ := ⟨_, rfl⟩
  obtain ⟨V, hV⟩ : ∃ V : Int64, V = bdM (bdS S nt lk n.toNatClampNeg nt) 200 := ⟨_, rfl⟩
  have eb : boundF S nt lk n = if bIn n (nI 1) (nI 8) = 0 then mn else V := by
    unfold boundF
    rw [hV, hmn]
  rw [eb]
  clear eb
  unfold F_X11_bound
  rw [show (-9223372036854775808 : Int64) = mn from hmn.symm]
  clear hmn
  rw [x_within, cl_some]
  by_cases c3 : bIn n (nI 1) (nI 8) = 0
  · rw [if_pos c3, if_pos c3]
    exact ⟨c, rfl, FrX.rf⟩
  rw [if_neg c3, if_neg c3]
  obtain ⟨n, hn1, hn, rfl⟩ := bIn_lh (by omega) (by omega) c3
  obtain ⟨c2, e2, f2, l2, w2⟩ := x_layAll (nx := nx) hC h10 (n := n) (by omega)
  have hC2 := hC.po (f2.mono po_pua)
  have h5 := x_thC hC2
  have el := x_looksOrAll (nx := nx) hC2
  have hL2 := l2
  obtain ⟨c3, e3, f3⟩ := x_sumAlone (nx := nx) hC2 hn1 hn (w := 0) (by omega) hL2
  rw [bd_z (nt := nt) (lk := lk) hn] at e3
  obtain ⟨c', r1, r2⟩ := x_bd60 (nx := nx) hC2 hn1 hn hL2 200 0 fuelL c3 (by omega) (by unfold fuelL; omega) f3
  refine ⟨c', ?_, f2.trans r2 po_pua po_pw⟩
  rw [hV, nI_clamp (by omega)]
  rw [xg_0_3, nn_some, xk_51, e2, cl_some, xg_0_0, nn_some, xg_1_11, h5, xg_0_0, nn_some, xk_1, el, cl_some, nm_b, xg_0_3, nn_some, xk_51, e3, cl_some]
  exact r1
end XY2
