section XY2
variable {G : Gx} {X lo nx : Nat} {h0 : Hp} {c : CS} {S : MS} {ns nt np lk td q : Nat}
set_option maxRecDepth 100000 in
set_option maxHeartbeats 1000000 in
theorem x_bound (hC : XC G X lo h0 c (ma S 1) ns nt np lk td q) (h10 : mi S 10 = -1) (n : Int32) : ∃ c' : CS, F_X11_bound G (encX G X c h0) nx X n = some (boundF S nt lk n, encX G X c' h0, nx) ∧ FrX PO c c' := by
  have h8 := x_nt8 hC
  obtain ⟨mx, hmx, hle⟩ : ∃ mx : Int64, mx = 9223372036854775807 ∧ ∀ x : Int64, x ≤ mx := ⟨_, rfl, le_maxJ⟩
  obtain ⟨mn, hmn⟩ : ∃ mn : Int64, mn = noJ := ⟨_, rfl⟩
  obtain ⟨V, hV⟩ : ∃ V : Int64, V = bdM (bdS S nt lk n.toNatClampNeg nt) 200 := ⟨_, rfl⟩
  have eb : boundF S nt lk n = if bIn n (nI 1) (nI 8) = 0 then mn else V := by
    unfold boundF
    rw [hV, hmn]
  rw [eb]
  clear eb
  unfold F_X11_bound
  rw [← hmx, show (-9223372036854775808 : Int64) = mn from hmn.symm]
  clear hmx hmn
  rw [x_within, cl_some]
  by_cases c3 : bIn n (nI 1) (nI 8) = 0
  · rw [if_pos c3, if_pos c3]
    exact ⟨c, rfl, FrX.rf⟩
  rw [if_neg c3, if_neg c3]
  obtain ⟨n, hn1, hn, rfl⟩ := bIn_lh (by omega) (by omega) c3
  obtain ⟨c2, e2, f2, l2, w2⟩ := x_layAll (nx := nx) hC h10 (n := n) (by omega)
  have hC2 := hC.po (f2.mono po_pua)
  have h5 := x_thC hC2
  have el := x_looksOrAll (nx := nx) hC2
  have key : ∀ ls : Int64, (∀ x : Int64, x ≤ ls) → ∃ c' : CS, F_X11_bound_54 G fuelL (encX G X c2 h0) nx X (nI n) ((nI n).toInt64 * 1000 * (nI nt - nI lk).toInt64) ls (nI 0) = some (bdM (bdS S nt lk n nt) 200, encX G X c' h0, nx) ∧ FrX PW c2 c' := fun ls hls => x_bd54 (nx := nx) hC2 hn1 hn l2 201 0 fuelL c2 ls (by omega) (by unfold fuelL; omega) FrX.rf (fun _ => hls) (fun z => absurd z (by omega))
  obtain ⟨c', r1, r2⟩ := key mx hle
  refine ⟨c', ?_, f2.trans r2 po_pua po_pw⟩
  rw [hV, nI_clamp (by omega)]
  rw [xg_0_3, nn_some, xk_51, e2, cl_some, xg_0_0, nn_some, xg_1_11, h5, xg_0_0, nn_some, xk_1, el, cl_some, nm_b]
  exact r1
end XY2
