/-! THE LAW -/
section LAW
variable {G : Gx} {X b nx N : Nat} {h1 : Hp} {c : CS} {S : MS}
theorem sl_k {β : Type} {f : Int32 → Option β} {k : Nat} (h : k < g_L G) (hL : g_L G ≤ 320) : slI G (nI k) f = f (g_xs G k) := by
  unfold slI
  rw [if_pos (nI_inB h (by omega)), nI_clamp (by omega)]
theorem sl_d {β : Type} {f : Int32 → Option β} {j : Nat} (k : Nat) (h : j + k < g_L G) (hL : g_L G ≤ 320) : slI G (nI j + nI k) f = f (g_xs G (j + k)) := by
  rw [nI_add]
  exact sl_k h hL
theorem lg_self {x : Int64} : lg_cmp x x = 0 := by
  unfold lg_cmp
  rw [if_neg (by simp), if_pos rfl]
theorem ck_b {β : Type} {f : Nat → Option β} (h : X + 108 ≤ b) : ck (encX G X c (encM G b S h1)) b [12] f = f 12 := by
  rw [← encMX h]
  exact ck_m
theorem law_go {F : Hp → Nat → Nat → Nat → Int32 → Rz Int32} {h : Hp} {j : Nat} : F_L_law_1114 G F h nx X b (nI (5 * j)) = F h nx X b (nI (5 * (j + 1))) := by
  unfold F_L_law_1114
  rw [nm_b, nI_add]
  rfl
def LawT (G : Gx) (X b : Nat) (n : Nat) (h1 : Hp) (nx : Nat) (c : CS) (S : MS) (N j : Nat) : Prop := ∃ (h2 : Hp) (nx2 : Nat) (c1 : CS) (S2 : MS) (N2 : Nat), F_L_law_18 G (n + 1) (encX G X c (encM G b S h1)) nx X b (nI (5 * j)) = F_L_law_18 G n (encX G X c1 (encM G b S2 h2)) nx2 X b (nI (5 * (j + 1))) ∧ XI G X b h2 nx2 c1 S2 N2 ∧ N2 ≤ N + 117384
set_option maxRecDepth 100000 in
set_option maxHeartbeats 4000000 in
theorem law_turn (n : Nat) {j : Nat} (H : XI G X b h1 nx c S N) (hN : N + 117384 < 2 ^ 31) (hL : g_L G ≤ 320) (hj : 5 * j + 5 ≤ g_L G) : LawT G X b n h1 nx c S N j := by
  have hb : X + 108 ≤ b := by have := H.1; omega
  have hc : ¬ (nI (g_L G) - nI 5 < nI (5 * j)) := by
    intro q
    have q' := Int32.lt_iff_toInt_lt.mp q
    rw [fb_subI (by rw [nI_toInt (by omega), nI_toInt (by omega)]; omega) (by rw [nI_toInt (by omega), nI_toInt (by omega)]; omega), nI_toInt (by omega), nI_toInt (by omega), nI_toInt (by omega)] at q'
    omega
  have s0 : ∀ f : Int32 → Option (Int32 × Hp × Nat), slI G (nI (5 * j)) f = f (g_xs G (5 * j)) := fun f => sl_k (by omega) hL
  have s1 : ∀ f : Int32 → Option (Int32 × Hp × Nat), slI G (nI (5 * j) + nI 1) f = f (g_xs G (5 * j + 1)) := fun f => sl_d 1 (by omega) hL
  have s2 : ∀ f : Int32 → Option (Int32 × Hp × Nat), slI G (nI (5 * j) + nI 2) f = f (g_xs G (5 * j + 2)) := fun f => sl_d 2 (by omega) hL
  have s3 : ∀ f : Int32 → Option (Int32 × Hp × Nat), slI G (nI (5 * j) + nI 3) f = f (g_xs G (5 * j + 3)) := fun f => sl_d 3 (by omega) hL
  have s4 : ∀ f : Int32 → Option (Int32 × Hp × Nat), slI G (nI (5 * j) + nI 4) f = f (g_xs G (5 * j + 4)) := fun f => sl_d 4 (by omega) hL
  generalize g_xs G (5 * j) = w0 at s0
  generalize g_xs G (5 * j + 1) = w1 at s1
  generalize g_xs G (5 * j + 2) = w2 at s2
  generalize g_xs G (5 * j + 3) = w3 at s3
  generalize g_xs G (5 * j + 4) = w4 at s4
  unfold LawT
  rw [F_L_law_18_s, if_neg hc, s0]
  by_cases z : (w0 &&& nI 31) = nI 0
  · rw [if_pos z]
    obtain ⟨v, c1, h2, nx2, S2, N2, e1, e2, hI, hn⟩ := s_feed H hN (((w1.toInt64 <<< ((nI 32).toInt64 &&& 63)) ||| (w2.toInt64 &&& (4294967295 : Int64)))) w3
    refine ⟨h2, nx2, c1, S2, N2, ?_, hI, hn⟩
    (try dsimp only at e1)
    (try dsimp only at e2)
    rw [s1, s2, s3, xk_0, e1, cl_some, s1, s2, s3, ck_b hb, e2, cl_some, if_pos rfl, law_go]
  rw [if_neg z]
  clear z
  by_cases z : (w0 &&& nI 31) = nI 1
  · rw [if_pos z]
    obtain ⟨v, c1, h2, nx2, S2, N2, e1, e2, hI, hn⟩ := s_sort H 
    refine ⟨h2, nx2, c1, S2, N2, ?_, hI, hn⟩
    (try dsimp only at e1)
    (try dsimp only at e2)
    rw [xk_0, e1, cl_some, ck_b hb, e2, cl_some, if_pos rfl, law_go]
  rw [if_neg z]
  clear z
  by_cases z : (w0 &&& nI 31) = nI 2
  · rw [if_pos z]
    obtain ⟨v, c1, h2, nx2, S2, N2, e1, e2, hI, hn⟩ := s_told H hN w1 w2 w3 w4
    refine ⟨h2, nx2, c1, S2, N2, ?_, hI, hn⟩
    (try dsimp only at e1)
    (try dsimp only at e2)
    rw [s1, s2, s3, s4, xk_0, e1, cl_some, s1, s2, s3, s4, ck_b hb, e2, cl_some, if_pos rfl, law_go]
  rw [if_neg z]
  clear z
  by_cases z : (w0 &&& nI 31) = nI 3
  · rw [if_pos z]
    obtain ⟨v, c1, h2, nx2, S2, N2, e1, e2, hI, hn⟩ := s_thing H hN w1 w2
    refine ⟨h2, nx2, c1, S2, N2, ?_, hI, hn⟩
    (try dsimp only at e1)
    (try dsimp only at e2)
    rw [s1, s2, xk_0, e1, cl_some, s1, s2, ck_b hb, e2, cl_some, if_pos rfl, law_go]
  rw [if_neg z]
  clear z
  by_cases z : (w0 &&& nI 31) = nI 4
  · rw [if_pos z]
    obtain ⟨v, c1, h2, nx2, S2, N2, e1, e2, hI, hn⟩ := s_of H hN w1 w2
    refine ⟨h2, nx2, c1, S2, N2, ?_, hI, hn⟩
    (try dsimp only at e1)
    (try dsimp only at e2)
    rw [s1, s2, xk_0, e1, cl_some, s1, s2, ck_b hb, e2, cl_some, if_pos rfl, law_go]
  rw [if_neg z]
  clear z
  by_cases z : (w0 &&& nI 31) = nI 5
  · rw [if_pos z]
    obtain ⟨v, c1, h2, nx2, S2, N2, e1, e2, hI, hn⟩ := s_days H hN w1
    refine ⟨h2, nx2, c1, S2, N2, ?_, hI, hn⟩
    (try dsimp only at e1)
    (try dsimp only at e2)
    rw [s1, xk_0, e1, cl_some, s1, ck_b hb, e2, cl_some, if_pos rfl, law_go]
  rw [if_neg z]
  clear z
  by_cases z : (w0 &&& nI 31) = nI 6
  · rw [if_pos z]
    rw [s1, s2]
    have main : ∀ w : Int32, (w = nI 0 ∨ w = nI 1) → (∀ (h : Hp) (n' : Nat) (r : Int32), (if w2 = 0 then F_L_law_423 G (F_L_law_18 G n) h n' r b w1 (nI 0) X b (nI (5 * j)) else F_L_law_423 G (F_L_law_18 G n) h n' r b w1 (nI 1) X b (nI (5 * j))) = F_L_law_423 G (F_L_law_18 G n) h n' r b w1 w X b (nI (5 * j))) → ∃ (h2 : Hp) (nx2 : Nat) (c1 : CS) (S2 : MS) (N2 : Nat), F_L_law_401 G (F_L_law_18 G n) (encX G X c (encM G b S h1)) nx X w1 w X b (nI (5 * j)) = F_L_law_18 G n (encX G X c1 (encM G b S2 h2)) nx2 X b (nI (5 * (j + 1))) ∧ XI G X b h2 nx2 c1 S2 N2 ∧ N2 ≤ N + 117384 := by
      intro w hw hif
      obtain ⟨v, c1, h2, nx2, S2, N2, e1, e2, hI, hn⟩ := s_seen H hN w1 hw
      refine ⟨h2, nx2, c1, S2, N2, ?_, hI, hn⟩
      (try dsimp only at e1)
      (try dsimp only at e2)
      unfold F_L_law_401
      rw [xk_0, e1, cl_some, s1, s2, hif]
      unfold F_L_law_423
      rw [ck_b hb, e2, cl_some, if_pos rfl, law_go]
    by_cases y : w2 = 0
    · rw [if_pos y]
      exact main (nI 0) (Or.inl rfl) (fun _ _ _ => if_pos y)
    · rw [if_neg y]
      exact main (nI 1) (Or.inr rfl) (fun _ _ _ => if_neg y)
  rw [if_neg z]
  clear z
  by_cases z : (w0 &&& nI 31) = nI 7
  · rw [if_pos z]
    obtain ⟨v, c1, h2, nx2, S2, N2, e1, e2, hI, hn⟩ := s_best H hN w1 w2 w3 w4
    refine ⟨h2, nx2, c1, S2, N2, ?_, hI, hn⟩
    (try dsimp only at e1)
    (try dsimp only at e2)
    rw [s1, s2, s3, s4, xk_0, e1, cl_some, s1, s2, s3, s4, ck_b hb, e2, cl_some, if_pos lg_self, law_go]
  rw [if_neg z]
  clear z
  by_cases z : (w0 &&& nI 31) = nI 8
  · rw [if_pos z]
    obtain ⟨v, c1, h2, nx2, S2, N2, e1, e2, hI, hn⟩ := s_number H hN w1 w2
    refine ⟨h2, nx2, c1, S2, N2, ?_, hI, hn⟩
    (try dsimp only at e1)
    (try dsimp only at e2)
    rw [s1, s2, xk_0, e1, cl_some, s1, s2, ck_b hb, e2, cl_some, if_pos rfl, law_go]
  rw [if_neg z]
  clear z
  by_cases z : (w0 &&& nI 31) = nI 9
  · rw [if_pos z]
    obtain ⟨v, c1, h2, nx2, S2, N2, e1, e2, hI, hn⟩ := s_such H hN w1 w2
    refine ⟨h2, nx2, c1, S2, N2, ?_, hI, hn⟩
    (try dsimp only at e1)
    (try dsimp only at e2)
    rw [s1, s2, xk_0, e1, cl_some, s1, s2, ck_b hb, e2, cl_some, if_pos rfl, law_go]
  rw [if_neg z]
  clear z
  by_cases z : (w0 &&& nI 31) = nI 10
  · rw [if_pos z]
    obtain ⟨v, c1, h2, nx2, S2, N2, e1, e2, hI, hn⟩ := s_looks H hN w1
    refine ⟨h2, nx2, c1, S2, N2, ?_, hI, hn⟩
    (try dsimp only at e1)
    (try dsimp only at e2)
    rw [s1, xk_0, e1, cl_some, s1, ck_b hb, e2, cl_some, if_pos rfl, law_go]
  rw [if_neg z]
  clear z
  by_cases z : (w0 &&& nI 31) = nI 11
  · rw [if_pos z]
    obtain ⟨v, c1, h2, nx2, S2, N2, e1, e2, hI, hn⟩ := s_plan H hN w1 w2
    refine ⟨h2, nx2, c1, S2, N2, ?_, hI, hn⟩
    (try dsimp only at e1)
    (try dsimp only at e2)
    rw [s1, s2, xk_0, e1, cl_some, s1, s2, ck_b hb, e2, cl_some, if_pos rfl, law_go]
  rw [if_neg z]
  clear z
  by_cases z : (w0 &&& nI 31) = nI 12
  · rw [if_pos z]
    obtain ⟨v, c1, h2, nx2, S2, N2, e1, e2, hI, hn⟩ := s_row H hN w1 w2
    refine ⟨h2, nx2, c1, S2, N2, ?_, hI, hn⟩
    (try dsimp only at e1)
    (try dsimp only at e2)
    rw [s1, s2, xk_0, e1, cl_some, s1, s2, ck_b hb, e2, cl_some, if_pos rfl, law_go]
  rw [if_neg z]
  clear z
  by_cases z : (w0 &&& nI 31) = nI 13
  · rw [if_pos z]
    obtain ⟨v, c1, h2, nx2, S2, N2, e1, e2, hI, hn⟩ := s_whom H hN w1
    refine ⟨h2, nx2, c1, S2, N2, ?_, hI, hn⟩
    (try dsimp only at e1)
    (try dsimp only at e2)
    rw [s1, xk_0, e1, cl_some, s1, ck_b hb, e2, cl_some, if_pos rfl, law_go]
  rw [if_neg z]
  clear z
  by_cases z : (w0 &&& nI 31) = nI 14
  · rw [if_pos z]
    obtain ⟨v, c1, h2, nx2, S2, N2, e1, e2, hI, hn⟩ := s_mean H hN w1 w2
    refine ⟨h2, nx2, c1, S2, N2, ?_, hI, hn⟩
    (try dsimp only at e1)
    (try dsimp only at e2)
    rw [s1, s2, xk_0, e1, cl_some, s1, s2, ck_b hb, e2, cl_some, if_pos lg_self, law_go]
  rw [if_neg z]
  clear z
  by_cases z : (w0 &&& nI 31) = nI 15
  · rw [if_pos z]
    obtain ⟨v, c1, h2, nx2, S2, N2, e1, e2, hI, hn⟩ := s_all H hN w1 w2
    refine ⟨h2, nx2, c1, S2, N2, ?_, hI, hn⟩
    (try dsimp only at e1)
    (try dsimp only at e2)
    rw [s1, s2, xk_0, e1, cl_some, s1, s2, ck_b hb, e2, cl_some, if_pos lg_self, law_go]
  rw [if_neg z]
  clear z
  by_cases z : (w0 &&& nI 31) = nI 16
  · rw [if_pos z]
    obtain ⟨v, c1, h2, nx2, S2, N2, e1, e2, hI, hn⟩ := s_loses H hN w1 w2
    refine ⟨h2, nx2, c1, S2, N2, ?_, hI, hn⟩
    (try dsimp only at e1)
    (try dsimp only at e2)
    rw [s1, s2, xk_0, e1, cl_some, s1, s2, ck_b hb, e2, cl_some, if_pos lg_self, law_go]
  rw [if_neg z]
  clear z
  by_cases z : (w0 &&& nI 31) = nI 17
  · rw [if_pos z]
    obtain ⟨v, c1, h2, nx2, S2, N2, e1, e2, hI, hn⟩ := s_bound H hN w1
    refine ⟨h2, nx2, c1, S2, N2, ?_, hI, hn⟩
    (try dsimp only at e1)
    (try dsimp only at e2)
    rw [s1, xk_0, e1, cl_some, s1, ck_b hb, e2, cl_some, if_pos lg_self, law_go]
  rw [if_neg z]
  clear z
  by_cases z : (w0 &&& nI 31) = nI 18
  · rw [if_pos z]
    obtain ⟨v, c1, h2, nx2, S2, N2, e1, e2, hI, hn⟩ := s_judged H hN w1 w2
    refine ⟨h2, nx2, c1, S2, N2, ?_, hI, hn⟩
    (try dsimp only at e1)
    (try dsimp only at e2)
    rw [s1, s2, xk_0, e1, cl_some, s1, s2, ck_b hb, e2, cl_some, if_pos rfl, law_go]
  rw [if_neg z]
  clear z
  by_cases z : (w0 &&& nI 31) = nI 19
  · rw [if_pos z]
    obtain ⟨v, c1, h2, nx2, S2, N2, e1, e2, hI, hn⟩ := s_run H hN w1 w2 w3
    refine ⟨h2, nx2, c1, S2, N2, ?_, hI, hn⟩
    (try dsimp only at e1)
    (try dsimp only at e2)
    rw [s1, s2, s3, xk_0, e1, cl_some, s1, s2, s3, ck_b hb, e2, cl_some, if_pos lg_self, law_go]
  rw [if_neg z]
  clear z
  by_cases z : (w0 &&& nI 31) = nI 20
  · rw [if_pos z]
    obtain ⟨v, c1, h2, nx2, S2, N2, e1, e2, hI, hn⟩ := s_round H hN w1 w2
    refine ⟨h2, nx2, c1, S2, N2, ?_, hI, hn⟩
    (try dsimp only at e1)
    (try dsimp only at e2)
    rw [s1, s2, xk_0, e1, cl_some, s1, s2, ck_b hb, e2, cl_some, if_pos lg_self, law_go]
  rw [if_neg z]
  clear z
  by_cases z : (w0 &&& nI 31) = nI 21
  · rw [if_pos z]
    obtain ⟨v, c1, h2, nx2, S2, N2, e1, e2, hI, hn⟩ := s_tour H hN w1 w2
    refine ⟨h2, nx2, c1, S2, N2, ?_, hI, hn⟩
    (try dsimp only at e1)
    (try dsimp only at e2)
    rw [s1, s2, xk_0, e1, cl_some, s1, s2, ck_b hb, e2, cl_some, if_pos rfl, law_go]
  rw [if_neg z]
  clear z
  by_cases z : (w0 &&& nI 31) = nI 22
  · rw [if_pos z]
    obtain ⟨v, c1, h2, nx2, S2, N2, e1, e2, hI, hn⟩ := s_edge H hN w1 w2
    refine ⟨h2, nx2, c1, S2, N2, ?_, hI, hn⟩
    (try dsimp only at e1)
    (try dsimp only at e2)
    rw [s1, s2, xk_0, e1, cl_some, s1, s2, ck_b hb, e2, cl_some, if_pos rfl, law_go]
  rw [if_neg z]
  clear z
  by_cases z : (w0 &&& nI 31) = nI 23
  · rw [if_pos z]
    obtain ⟨v, c1, h2, nx2, S2, N2, e1, e2, hI, hn⟩ := s_act H w1 w2 w3
    refine ⟨h2, nx2, c1, S2, N2, ?_, hI, hn⟩
    (try dsimp only at e1)
    (try dsimp only at e2)
    rw [s1, s2, s3, xk_0, e1, cl_some, s1, s2, s3, ck_b hb, e2, cl_some, if_pos rfl, law_go]
  rw [if_neg z]
  clear z
  by_cases z : (w0 &&& nI 31) = nI 24
  · rw [if_pos z]
    obtain ⟨v, c1, h2, nx2, S2, N2, e1, e2, hI, hn⟩ := s_trace H hN w1
    refine ⟨h2, nx2, c1, S2, N2, ?_, hI, hn⟩
    (try dsimp only at e1)
    (try dsimp only at e2)
    rw [s1, xk_0, e1, cl_some, s1, ck_b hb, e2, cl_some, if_pos rfl, law_go]
  rw [if_neg z]
  clear z
  by_cases z : (w0 &&& nI 31) = nI 25
  · rw [if_pos z]
    obtain ⟨v, c1, h2, nx2, S2, N2, e1, e2, hI, hn⟩ := s_as H hN w1 w2
    refine ⟨h2, nx2, c1, S2, N2, ?_, hI, hn⟩
    (try dsimp only at e1)
    (try dsimp only at e2)
    rw [s1, s2, xk_0, e1, cl_some, s1, s2, ck_b hb, e2, cl_some, if_pos rfl, law_go]
  rw [if_neg z]
  clear z
  by_cases z : (w0 &&& nI 31) = nI 26
  · rw [if_pos z]
    obtain ⟨v, c1, h2, nx2, S2, N2, e1, e2, hI, hn⟩ := s_image H 
    refine ⟨h2, nx2, c1, S2, N2, ?_, hI, hn⟩
    (try dsimp only at e1)
    (try dsimp only at e2)
    rw [xk_0, e1, cl_some, ck_b hb, e2, cl_some, if_pos rfl, law_go]
  rw [if_neg z]
  clear z
  by_cases z : (w0 &&& nI 31) = nI 27
  · rw [if_pos z]
    obtain ⟨v, c1, h2, nx2, S2, N2, e1, e2, hI, hn⟩ := s_undo H 
    refine ⟨h2, nx2, c1, S2, N2, ?_, hI, hn⟩
    (try dsimp only at e1)
    (try dsimp only at e2)
    rw [xk_0, e1, cl_some, ck_b hb, e2, cl_some, if_pos rfl, law_go]
  rw [if_neg z]
  clear z
  by_cases z : (w0 &&& nI 31) = nI 28
  · rw [if_pos z]
    obtain ⟨v, c1, h2, nx2, S2, N2, e1, e2, hI, hn⟩ := s_count H hN w1
    refine ⟨h2, nx2, c1, S2, N2, ?_, hI, hn⟩
    (try dsimp only at e1)
    (try dsimp only at e2)
    rw [s1, xk_0, e1, cl_some, s1, ck_b hb, e2, cl_some, if_pos rfl, law_go]
  rw [if_neg z]
  clear z
  exact ⟨h1, nx, c, S, N, law_go, H, by omega⟩
theorem law_loop (hL : g_L G ≤ 320) : ∀ (r j n : Nat) (h1 : Hp) (nx : Nat) (c : CS) (S : MS) (N : Nat), g_L G < 5 * (j + r) + 5 → r < n → j ≤ 64 → N ≤ 117384 * j → XI G X b h1 nx c S N → ∃ h' nx', F_L_law_18 G n (encX G X c (encM G b S h1)) nx X b (nI (5 * j)) = some (nI 1, h', nx') := by
  intro r
  induction r with
  | zero =>
    intro j n h1 nx c S N hr hn hj hN H
    obtain ⟨n, rfl⟩ : ∃ k, n = k + 1 := ⟨n - 1, by omega⟩
    refine ⟨encX G X c (encM G b S h1), nx, ?_⟩
    rw [F_L_law_18_s, if_pos ?_]
    · exact if_pos (Or.inr rfl)
    · rw [Int32.lt_iff_toInt_lt, fb_subI (by rw [nI_toInt (by omega), nI_toInt (by omega)]; omega) (by rw [nI_toInt (by omega), nI_toInt (by omega)]; omega), nI_toInt (by omega), nI_toInt (by omega), nI_toInt (by omega)]
      omega
  | succ r ih =>
    intro j n h1 nx c S N hr hn hj hN H
    obtain ⟨n, rfl⟩ : ∃ k, n = k + 1 := ⟨n - 1, by omega⟩
    by_cases z : g_L G < 5 * j + 5
    · refine ⟨encX G X c (encM G b S h1), nx, ?_⟩
      rw [F_L_law_18_s, if_pos ?_]
      · exact if_pos (Or.inr rfl)
      · rw [Int32.lt_iff_toInt_lt, fb_subI (by rw [nI_toInt (by omega), nI_toInt (by omega)]; omega) (by rw [nI_toInt (by omega), nI_toInt (by omega)]; omega), nI_toInt (by omega), nI_toInt (by omega), nI_toInt (by omega)]
        omega
    · obtain ⟨h2, nx2, c1, S2, N2, e, hI, hn2⟩ := law_turn (j := j) n H (by omega) hL (by omega)
      rw [e]
      exact ih (j + 1) n h2 nx2 c1 S2 N2 (by omega) (by omega) (by omega) (by omega) hI
theorem law_holds {h : Hp} (hL : g_L G ≤ 320) (hf : Fsh G h nx) : ∃ h' nx', F_L_law G h nx = some (nI 1, h', nx') := by
  have e1 := x_made (G := G) (x0 := nx) (X := g_B G + nx) (H := h) rfl
  have e2 := m_made (G := G) (x0 := nx + 108) (X := g_B G + (nx + 108)) (H := encX G (g_B G + nx) c0S h) rfl
  unfold F_L_law nwO
  dsimp only at e1 e2 ⊢
  rw [e1, cl_some]
  rw [e2, cl_some, encMX (by omega)]
  have hH : Fsh G h (nx + 108 + 17) := fun q hq => hf q (by omega)
  exact law_loop hL 64 0 fuelL h (nx + 108 + 17) c0S s0M 0 (by omega) (by decide) (by omega) (by omega) (XI.begin (X := g_B G + nx) (b := g_B G + (nx + 108)) (by omega) (by omega) hH)
end LAW
