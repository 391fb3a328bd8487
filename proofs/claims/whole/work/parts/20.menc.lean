/-! THE STEPS over the reference's cells -/
section ME0
variable {α β : Type}
theorem cl_some {v : α} {h : Hp} {n : Nat} {f : α → Hp → Nat → Option β} : cl (some (v, h, n)) f = f v h n := rfl
theorem nm_b {x : α} {f : α → Option β} : nm x f = f x := rfl
theorem nn_some {a : Nat} {f : Nat → Option β} : nn (some a) f = f a := rfl
theorem qn_some {a : Nat} {z : Option β} {f : Nat → Option β} : qn (some a) z f = f a := rfl
theorem qn_none {z : Option β} {f : Nat → Option β} : qn none z f = z := rfl
theorem zk_of {x : Int32} {f : Option β} (h : x = 0 ∨ x = 1) : zk x f = f := if_pos h
theorem zk_0 {f : Option β} : zk 0 f = f := if_pos (Or.inl rfl)
theorem zk_1 {f : Option β} : zk 1 f = f := if_pos (Or.inr rfl)
theorem zk_n0 {f : Option β} : zk (nI 0) f = f := if_pos (Or.inl rfl)
theorem zk_n1 {f : Option β} : zk (nI 1) f = f := if_pos (Or.inr rfl)
theorem dzI_n {y : Nat} {f : Option β} (h0 : 0 < y) (hy : y < 2 ^ 31) : dzI (nI y) f = f := if_neg (nI_ne0 h0 hy)
theorem nI_lt0 {n : Nat} (h : n < 2 ^ 31) : (nI n < 0) = False := eq_false (nI_pos h)
theorem nI_ge0 {n : Nat} (h : n < 2 ^ 31) : (0 ≤ nI n) = True := eq_true (nI_pos' h)
theorem nI_eq0 {n : Nat} (h : n < 2 ^ 31) : (nI n = 0) = (n = 0) := propext (by rw [← nI_0]; exact nI_eq h (by omega))
theorem nI_gt0 {n : Nat} (h : n < 2 ^ 31) : (0 < nI n) = (0 < n) := propext (by rw [← nI_0]; exact nI_ltI (by omega) h)
theorem nI_le0 {n : Nat} (h : n < 2 ^ 31) : (nI n ≤ 0) = (n = 0) := propext (by rw [← nI_0, nI_leI h (by omega)]; omega)
theorem nI_eqE {a b : Nat} (ha : a < 2 ^ 31) (hb : b < 2 ^ 31) : (nI a = nI b) = (a = b) := propext (nI_eq ha hb)
theorem nI_leE {a b : Nat} (ha : a < 2 ^ 31) (hb : b < 2 ^ 31) : (nI a ≤ nI b) = (a ≤ b) := propext (nI_leI ha hb)
theorem nI_ltE {a b : Nat} (ha : a < 2 ^ 31) (hb : b < 2 ^ 31) : (nI a < nI b) = (a < b) := propext (nI_ltI ha hb)
theorem nI_inB {i n : Nat} (h : i < n) (hn : n < 2 ^ 31) : ¬ (nI i < 0 ∨ n ≤ (nI i).toNatClampNeg) := nI_in h hn
theorem alI_at {c : ClassId} {h : Hp} {a n k : Nat} {g : Nat → Int32} {f : Int32 → Option β} (hh : h a = some (.inl (c, n, .inl g))) (hk : k < n) (hn : n < 2 ^ 31) : alI c h a (nI k) f = f (g k) := by
  unfold alI
  rw [hh]
  refine (if_pos ⟨rfl, nI_in hk hn⟩).trans ?_
  rw [nI_clamp (by omega)]
theorem alJ_at {c : ClassId} {h : Hp} {a n k : Nat} {g : Nat → Int64} {f : Int64 → Option β} (hh : h a = some (.inl (c, n, .inr (.inl g)))) (hk : k < n) (hn : n < 2 ^ 31) : alJ c h a (nI k) f = f (g k) := by
  unfold alJ
  rw [hh]
  refine (if_pos ⟨rfl, nI_in hk hn⟩).trans ?_
  rw [nI_clamp (by omega)]
theorem alR_at {c : ClassId} {h : Hp} {a n k : Nat} {g : Nat → Option Nat} {f : Option Nat → Option β} (hh : h a = some (.inl (c, n, .inr (.inr (.inr (.inr g)))))) (hk : k < n) (hn : n < 2 ^ 31) : alR c h a (nI k) f = f (g k) := by
  unfold alR
  rw [hh]
  refine (if_pos ⟨rfl, nI_in hk hn⟩).trans ?_
  rw [nI_clamp (by omega)]
theorem asI_at {c : ClassId} {nar : Int32 → Int32} {h : Hp} {a n k : Nat} {g : Nat → Int32} {x : Int32} {f : Hp → Option β} (hh : h a = some (.inl (c, n, .inl g))) (hk : k < n) (hn : n < 2 ^ 31) : asI c nar h a (nI k) x f = f (hset h a (.inl (c, n, .inl (upK g k (nar x))))) := by
  unfold asI
  rw [hh]
  refine (if_pos ⟨rfl, nI_in hk hn⟩).trans ?_
  rw [nI_clamp (by omega)]
  rfl
theorem asJ_at {c : ClassId} {h : Hp} {a n k : Nat} {g : Nat → Int64} {x : Int64} {f : Hp → Option β} (hh : h a = some (.inl (c, n, .inr (.inl g)))) (hk : k < n) (hn : n < 2 ^ 31) : asJ c h a (nI k) x f = f (hset h a (.inl (c, n, .inr (.inl (upK g k x))))) := by
  unfold asJ
  rw [hh]
  refine (if_pos ⟨rfl, nI_in hk hn⟩).trans ?_
  rw [nI_clamp (by omega)]
  rfl
theorem lnI_at {c : ClassId} {h : Hp} {a n : Nat} {g : Nat → Int32} {f : Int32 → Option β} (hh : h a = some (.inl (c, n, .inl g))) : lnI c h a f = f (nI n) := by
  unfold lnI
  rw [hh]
  exact if_pos rfl
theorem lnJ_at {c : ClassId} {h : Hp} {a n : Nat} {g : Nat → Int64} {f : Int32 → Option β} (hh : h a = some (.inl (c, n, .inr (.inl g)))) : lnJ c h a f = f (nI n) := by
  unfold lnJ
  rw [hh]
  exact if_pos rfl
theorem ck_at {h : Hp} {a c : Nat} {cs : List Nat} {fs : List Value} {f : Nat → Option β} (hh : h a = some (ob c fs)) (hc : c ∈ cs) : ck h a cs f = f c := by
  unfold ck
  rw [hh]
  exact if_pos hc
theorem gfI_at {h : Hp} {a c k : Nat} {cs : List Nat} {fs : List Value} {x : Int32} {f : Int32 → Option β} (hh : h a = some (ob c fs)) (hc : c ∈ cs) (hx : fs[k]? = some (.int x)) : gfI h a cs k f = f x := by
  unfold gfI
  rw [hh]
  simp only [ob]
  rw [if_pos hc, hx]
theorem gfJ_at {h : Hp} {a c k : Nat} {cs : List Nat} {fs : List Value} {x : Int64} {f : Int64 → Option β} (hh : h a = some (ob c fs)) (hc : c ∈ cs) (hx : fs[k]? = some (.long x)) : gfJ h a cs k f = f x := by
  unfold gfJ
  rw [hh]
  simp only [ob]
  rw [if_pos hc, hx]
theorem gfR_at {h : Hp} {a c k : Nat} {cs : List Nat} {fs : List Value} {r : Option Nat} {f : Option Nat → Option β} (hh : h a = some (ob c fs)) (hc : c ∈ cs) (hx : fs[k]? = some (va_rf r)) : gfR h a cs k f = f r := by
  unfold gfR
  rw [hh]
  simp only [ob]
  rw [if_pos hc, hx]
  cases r <;> rfl
theorem pfV_at {h : Hp} {a c k : Nat} {cs : List Nat} {fs : List Value} {v : Value} {f : Hp → Option β} (hh : h a = some (ob c fs)) (hc : c ∈ cs) (hk : k < fs.length) : pfV h a cs k v f = f (hset h a (ob c (fs.set k v))) := by
  unfold pfV
  rw [hh]
  simp only [ob]
  rw [if_pos ⟨hc, hk⟩]
theorem nar_b2 {x : Int32} (h : x = 0 ∨ x = 1) : vp_nar .boolean x = x := by rcases h with rfl | rfl <;> rfl
end ME0
section ME
variable {α β : Type} {G : Gx} {b : Nat} {st : MS} {h0 : Hp}
theorem ck_m {f : Nat → Option β} : ck (encM G b st h0) b [12] f = f 12 := ck_at encM_0 (by decide)
theorem gf_thrown {f : Int32 → Option β} : gfI (encM G b st h0) b [12] 0 f = f (mi st 0) := gfI_at encM_0 (by decide) rfl
theorem pf_thrown {x : Int32} {f : Hp → Option β} : pfV (encM G b st h0) b [12] 0 (.int x) f = f (encM G b (msi st 0 x) h0) := (pfV_at encM_0 (by decide) (by show 0 < 34; decide)).trans (congrArg f (show hset (encM G b st h0) b (ob 12 (mFs b (msi st 0 x))) = _ from encM_set0 rfl))
theorem gf_s {f : Option Nat → Option β} : gfR (encM G b st h0) b [12] 1 f = f (some (b + 1)) := gfR_at encM_0 (by decide) rfl
theorem gf_image {f : Option Nat → Option β} : gfR (encM G b st h0) b [12] 2 f = f (some (b + 2)) := gfR_at encM_0 (by decide) rfl
theorem gf_hasImage {f : Int32 → Option β} : gfI (encM G b st h0) b [12] 3 f = f (mi st 3) := gfI_at encM_0 (by decide) rfl
theorem pf_hasImage {x : Int32} {f : Hp → Option β} : pfV (encM G b st h0) b [12] 3 (.int x) f = f (encM G b (msi st 3 x) h0) := (pfV_at encM_0 (by decide) (by show 3 < 34; decide)).trans (congrArg f (show hset (encM G b st h0) b (ob 12 (mFs b (msi st 3 x))) = _ from encM_set0 rfl))
theorem gf_act {f : Int32 → Option β} : gfI (encM G b st h0) b [12] 4 f = f (mi st 4) := gfI_at encM_0 (by decide) rfl
theorem pf_act {x : Int32} {f : Hp → Option β} : pfV (encM G b st h0) b [12] 4 (.int x) f = f (encM G b (msi st 4 x) h0) := (pfV_at encM_0 (by decide) (by show 4 < 34; decide)).trans (congrArg f (show hset (encM G b st h0) b (ob 12 (mFs b (msi st 4 x))) = _ from encM_set0 rfl))
theorem gf_spot {f : Int32 → Option β} : gfI (encM G b st h0) b [12] 5 f = f (mi st 5) := gfI_at encM_0 (by decide) rfl
theorem pf_spot {x : Int32} {f : Hp → Option β} : pfV (encM G b st h0) b [12] 5 (.int x) f = f (encM G b (msi st 5 x) h0) := (pfV_at encM_0 (by decide) (by show 5 < 34; decide)).trans (congrArg f (show hset (encM G b st h0) b (ob 12 (mFs b (msi st 5 x))) = _ from encM_set0 rfl))
theorem gf_size {f : Int32 → Option β} : gfI (encM G b st h0) b [12] 6 f = f (mi st 6) := gfI_at encM_0 (by decide) rfl
theorem pf_size {x : Int32} {f : Hp → Option β} : pfV (encM G b st h0) b [12] 6 (.int x) f = f (encM G b (msi st 6 x) h0) := (pfV_at encM_0 (by decide) (by show 6 < 34; decide)).trans (congrArg f (show hset (encM G b st h0) b (ob 12 (mFs b (msi st 6 x))) = _ from encM_set0 rfl))
theorem gf_isWrong {f : Int32 → Option β} : gfI (encM G b st h0) b [12] 7 f = f (mi st 7) := gfI_at encM_0 (by decide) rfl
theorem pf_isWrong {x : Int32} {f : Hp → Option β} : pfV (encM G b st h0) b [12] 7 (.int x) f = f (encM G b (msi st 7 x) h0) := (pfV_at encM_0 (by decide) (by show 7 < 34; decide)).trans (congrArg f (show hset (encM G b st h0) b (ob 12 (mFs b (msi st 7 x))) = _ from encM_set0 rfl))
theorem gf_open {f : Int32 → Option β} : gfI (encM G b st h0) b [12] 8 f = f (mi st 8) := gfI_at encM_0 (by decide) rfl
theorem pf_open {x : Int32} {f : Hp → Option β} : pfV (encM G b st h0) b [12] 8 (.int x) f = f (encM G b (msi st 8 x) h0) := (pfV_at encM_0 (by decide) (by show 8 < 34; decide)).trans (congrArg f (show hset (encM G b st h0) b (ob 12 (mFs b (msi st 8 x))) = _ from encM_set0 rfl))
theorem gf_truths {f : Option Nat → Option β} : gfR (encM G b st h0) b [12] 9 f = f (some (b + 3)) := gfR_at encM_0 (by decide) rfl
theorem gf_edgeThing {f : Int32 → Option β} : gfI (encM G b st h0) b [12] 10 f = f (mi st 10) := gfI_at encM_0 (by decide) rfl
theorem pf_edgeThing {x : Int32} {f : Hp → Option β} : pfV (encM G b st h0) b [12] 10 (.int x) f = f (encM G b (msi st 10 x) h0) := (pfV_at encM_0 (by decide) (by show 10 < 34; decide)).trans (congrArg f (show hset (encM G b st h0) b (ob 12 (mFs b (msi st 10 x))) = _ from encM_set0 rfl))
theorem gf_edgeMore {f : Int32 → Option β} : gfI (encM G b st h0) b [12] 11 f = f (mi st 11) := gfI_at encM_0 (by decide) rfl
theorem pf_edgeMore {x : Int32} {f : Hp → Option β} : pfV (encM G b st h0) b [12] 11 (.int x) f = f (encM G b (msi st 11 x) h0) := (pfV_at encM_0 (by decide) (by show 11 < 34; decide)).trans (congrArg f (show hset (encM G b st h0) b (ob 12 (mFs b (msi st 11 x))) = _ from encM_set0 rfl))
theorem gf_knownRow {f : Option Nat → Option β} : gfR (encM G b st h0) b [12] 12 f = f (some (b + 4)) := gfR_at encM_0 (by decide) rfl
theorem gf_daysRow {f : Option Nat → Option β} : gfR (encM G b st h0) b [12] 13 f = f (some (b + 5)) := gfR_at encM_0 (by decide) rfl
theorem gf_bests {f : Option Nat → Option β} : gfR (encM G b st h0) b [12] 14 f = f (some (b + 6)) := gfR_at encM_0 (by decide) rfl
theorem gf_nots {f : Option Nat → Option β} : gfR (encM G b st h0) b [12] 15 f = f (some (b + 7)) := gfR_at encM_0 (by decide) rfl
theorem gf_lookeds {f : Option Nat → Option β} : gfR (encM G b st h0) b [12] 16 f = f (some (b + 8)) := gfR_at encM_0 (by decide) rfl
theorem gf_bestsAt {f : Option Nat → Option β} : gfR (encM G b st h0) b [12] 17 f = f (some (b + 9)) := gfR_at encM_0 (by decide) rfl
theorem gf_stamp {f : Int32 → Option β} : gfI (encM G b st h0) b [12] 18 f = f (mi st 18) := gfI_at encM_0 (by decide) rfl
theorem pf_stamp {x : Int32} {f : Hp → Option β} : pfV (encM G b st h0) b [12] 18 (.int x) f = f (encM G b (msi st 18 x) h0) := (pfV_at encM_0 (by decide) (by show 18 < 34; decide)).trans (congrArg f (show hset (encM G b st h0) b (ob 12 (mFs b (msi st 18 x))) = _ from encM_set0 rfl))
theorem gf_whose {f : Int32 → Option β} : gfI (encM G b st h0) b [12] 19 f = f (mi st 19) := gfI_at encM_0 (by decide) rfl
theorem pf_whose {x : Int32} {f : Hp → Option β} : pfV (encM G b st h0) b [12] 19 (.int x) f = f (encM G b (msi st 19 x) h0) := (pfV_at encM_0 (by decide) (by show 19 < 34; decide)).trans (congrArg f (show hset (encM G b st h0) b (ob 12 (mFs b (msi st 19 x))) = _ from encM_set0 rfl))
theorem gf_wage {f : Int32 → Option β} : gfI (encM G b st h0) b [12] 20 f = f (mi st 20) := gfI_at encM_0 (by decide) rfl
theorem pf_wage {x : Int32} {f : Hp → Option β} : pfV (encM G b st h0) b [12] 20 (.int x) f = f (encM G b (msi st 20 x) h0) := (pfV_at encM_0 (by decide) (by show 20 < 34; decide)).trans (congrArg f (show hset (encM G b st h0) b (ob 12 (mFs b (msi st 20 x))) = _ from encM_set0 rfl))
theorem gf_worths {f : Option Nat → Option β} : gfR (encM G b st h0) b [12] 21 f = f (some (b + 10)) := gfR_at encM_0 (by decide) rfl
theorem gf_keptKnown {f : Option Nat → Option β} : gfR (encM G b st h0) b [12] 22 f = f (some (b + 11)) := gfR_at encM_0 (by decide) rfl
theorem gf_keptDays {f : Option Nat → Option β} : gfR (encM G b st h0) b [12] 23 f = f (some (b + 12)) := gfR_at encM_0 (by decide) rfl
theorem gf_round {f : Option Nat → Option β} : gfR (encM G b st h0) b [12] 24 f = f (some (b + 13)) := gfR_at encM_0 (by decide) rfl
theorem gf_roundMany {f : Int32 → Option β} : gfI (encM G b st h0) b [12] 25 f = f (mi st 25) := gfI_at encM_0 (by decide) rfl
theorem pf_roundMany {x : Int32} {f : Hp → Option β} : pfV (encM G b st h0) b [12] 25 (.int x) f = f (encM G b (msi st 25 x) h0) := (pfV_at encM_0 (by decide) (by show 25 < 34; decide)).trans (congrArg f (show hset (encM G b st h0) b (ob 12 (mFs b (msi st 25 x))) = _ from encM_set0 rfl))
theorem gf_bestSet {f : Int32 → Option β} : gfI (encM G b st h0) b [12] 26 f = f (mi st 26) := gfI_at encM_0 (by decide) rfl
theorem pf_bestSet {x : Int32} {f : Hp → Option β} : pfV (encM G b st h0) b [12] 26 (.int x) f = f (encM G b (msi st 26 x) h0) := (pfV_at encM_0 (by decide) (by show 26 < 34; decide)).trans (congrArg f (show hset (encM G b st h0) b (ob 12 (mFs b (msi st 26 x))) = _ from encM_set0 rfl))
theorem gf_sums {f : Option Nat → Option β} : gfR (encM G b st h0) b [12] 27 f = f (some (b + 14)) := gfR_at encM_0 (by decide) rfl
theorem gf_bestRound {f : Option Nat → Option β} : gfR (encM G b st h0) b [12] 28 f = f (some (b + 15)) := gfR_at encM_0 (by decide) rfl
theorem gf_bodies {f : Option Nat → Option β} : gfR (encM G b st h0) b [12] 29 f = f (some (b + 16)) := gfR_at encM_0 (by decide) rfl
theorem gf_ran {f : Int32 → Option β} : gfI (encM G b st h0) b [12] 30 f = f (mi st 30) := gfI_at encM_0 (by decide) rfl
theorem pf_ran {x : Int32} {f : Hp → Option β} : pfV (encM G b st h0) b [12] 30 (.int x) f = f (encM G b (msi st 30 x) h0) := (pfV_at encM_0 (by decide) (by show 30 < 34; decide)).trans (congrArg f (show hset (encM G b st h0) b (ob 12 (mFs b (msi st 30 x))) = _ from encM_set0 rfl))
theorem gf_kind {f : Int32 → Option β} : gfI (encM G b st h0) b [12] 31 f = f (mi st 31) := gfI_at encM_0 (by decide) rfl
theorem pf_kind {x : Int32} {f : Hp → Option β} : pfV (encM G b st h0) b [12] 31 (.int x) f = f (encM G b (msi st 31 x) h0) := (pfV_at encM_0 (by decide) (by show 31 < 34; decide)).trans (congrArg f (show hset (encM G b st h0) b (ob 12 (mFs b (msi st 31 x))) = _ from encM_set0 rfl))
theorem gf_who {f : Int32 → Option β} : gfI (encM G b st h0) b [12] 32 f = f (mi st 32) := gfI_at encM_0 (by decide) rfl
theorem pf_who {x : Int32} {f : Hp → Option β} : pfV (encM G b st h0) b [12] 32 (.int x) f = f (encM G b (msi st 32 x) h0) := (pfV_at encM_0 (by decide) (by show 32 < 34; decide)).trans (congrArg f (show hset (encM G b st h0) b (ob 12 (mFs b (msi st 32 x))) = _ from encM_set0 rfl))
theorem gf_tellsV {f : Int32 → Option β} : gfI (encM G b st h0) b [12] 33 f = f (mi st 33) := gfI_at encM_0 (by decide) rfl
theorem pf_tellsV {x : Int32} {f : Hp → Option β} : pfV (encM G b st h0) b [12] 33 (.int x) f = f (encM G b (msi st 33 x) h0) := (pfV_at encM_0 (by decide) (by show 33 < 34; decide)).trans (congrArg f (show hset (encM G b st h0) b (ob 12 (mFs b (msi st 33 x))) = _ from encM_set0 rfl))
theorem al_s {k : Nat} {f : Int32 → Option β} (hk : k < 1240) : alI (g_c G 0) (encM G b st h0) (b + 1) (nI k) f = f (ma st 1 k) := alI_at encM_s hk (by decide)
theorem as_s {k : Nat} {x : Int32} {f : Hp → Option β} (hk : k < 1240) : asI (g_c G 0) id (encM G b st h0) (b + 1) (nI k) x f = f (encM G b (msa st 1 (upK (ma st 1) k x)) h0) := (asI_at encM_s hk (by decide)).trans (congrArg f (show hset (encM G b st h0) (b + 1) (aI G 1240 (upK (ma st 1) k x)) = _ from encM_set_s))
theorem al_image {k : Nat} {f : Int32 → Option β} (hk : k < 1240) : alI (g_c G 0) (encM G b st h0) (b + 2) (nI k) f = f (ma st 2 k) := alI_at encM_image hk (by decide)
theorem as_image {k : Nat} {x : Int32} {f : Hp → Option β} (hk : k < 1240) : asI (g_c G 0) id (encM G b st h0) (b + 2) (nI k) x f = f (encM G b (msa st 2 (upK (ma st 2) k x)) h0) := (asI_at encM_image hk (by decide)).trans (congrArg f (show hset (encM G b st h0) (b + 2) (aI G 1240 (upK (ma st 2) k x)) = _ from encM_set_image))
theorem al_truths {k : Nat} {f : Int32 → Option β} (hk : k < 64) : alI (g_c G 3) (encM G b st h0) (b + 3) (nI k) f = f (ma st 9 k) := alI_at encM_truths hk (by decide)
theorem as_truths {k : Nat} {x : Int32} {f : Hp → Option β} (hk : k < 64) (hx : x = 0 ∨ x = 1) : asI (g_c G 3) (vp_nar .boolean) (encM G b st h0) (b + 3) (nI k) x f = f (encM G b (msa st 9 (upK (ma st 9) k x)) h0) := (asI_at encM_truths hk (by decide)).trans (congrArg f ((congrArg (fun z => hset (encM G b st h0) (b + 3) (aZ G 64 (upK (ma st 9) k z))) (nar_b2 hx)).trans encM_set_truths))
theorem al_knownRow {k : Nat} {f : Int32 → Option β} (hk : k < 27) : alI (g_c G 0) (encM G b st h0) (b + 4) (nI k) f = f (ma st 12 k) := alI_at encM_knownRow hk (by decide)
theorem as_knownRow {k : Nat} {x : Int32} {f : Hp → Option β} (hk : k < 27) : asI (g_c G 0) id (encM G b st h0) (b + 4) (nI k) x f = f (encM G b (msa st 12 (upK (ma st 12) k x)) h0) := (asI_at encM_knownRow hk (by decide)).trans (congrArg f (show hset (encM G b st h0) (b + 4) (aI G 27 (upK (ma st 12) k x)) = _ from encM_set_knownRow))
theorem al_daysRow {k : Nat} {f : Int32 → Option β} (hk : k < 27) : alI (g_c G 0) (encM G b st h0) (b + 5) (nI k) f = f (ma st 13 k) := alI_at encM_daysRow hk (by decide)
theorem as_daysRow {k : Nat} {x : Int32} {f : Hp → Option β} (hk : k < 27) : asI (g_c G 0) id (encM G b st h0) (b + 5) (nI k) x f = f (encM G b (msa st 13 (upK (ma st 13) k x)) h0) := (asI_at encM_daysRow hk (by decide)).trans (congrArg f (show hset (encM G b st h0) (b + 5) (aI G 27 (upK (ma st 13) k x)) = _ from encM_set_daysRow))
theorem al_bests {k : Nat} {f : Int64 → Option β} (hk : k < 243) : alJ (g_c G 1) (encM G b st h0) (b + 6) (nI k) f = f (ml st 14 k) := alJ_at encM_bests hk (by decide)
theorem as_bests {k : Nat} {x : Int64} {f : Hp → Option β} (hk : k < 243) : asJ (g_c G 1) (encM G b st h0) (b + 6) (nI k) x f = f (encM G b (msl st 14 (upK (ml st 14) k x)) h0) := (asJ_at encM_bests hk (by decide)).trans (congrArg f (show hset (encM G b st h0) (b + 6) (aJ G 243 (upK (ml st 14) k x)) = _ from encM_set_bests))
theorem al_nots {k : Nat} {f : Int64 → Option β} (hk : k < 243) : alJ (g_c G 1) (encM G b st h0) (b + 7) (nI k) f = f (ml st 15 k) := alJ_at encM_nots hk (by decide)
theorem as_nots {k : Nat} {x : Int64} {f : Hp → Option β} (hk : k < 243) : asJ (g_c G 1) (encM G b st h0) (b + 7) (nI k) x f = f (encM G b (msl st 15 (upK (ml st 15) k x)) h0) := (asJ_at encM_nots hk (by decide)).trans (congrArg f (show hset (encM G b st h0) (b + 7) (aJ G 243 (upK (ml st 15) k x)) = _ from encM_set_nots))
theorem al_lookeds {k : Nat} {f : Int64 → Option β} (hk : k < 243) : alJ (g_c G 1) (encM G b st h0) (b + 8) (nI k) f = f (ml st 16 k) := alJ_at encM_lookeds hk (by decide)
theorem as_lookeds {k : Nat} {x : Int64} {f : Hp → Option β} (hk : k < 243) : asJ (g_c G 1) (encM G b st h0) (b + 8) (nI k) x f = f (encM G b (msl st 16 (upK (ml st 16) k x)) h0) := (asJ_at encM_lookeds hk (by decide)).trans (congrArg f (show hset (encM G b st h0) (b + 8) (aJ G 243 (upK (ml st 16) k x)) = _ from encM_set_lookeds))
theorem al_bestsAt {k : Nat} {f : Int32 → Option β} (hk : k < 243) : alI (g_c G 0) (encM G b st h0) (b + 9) (nI k) f = f (ma st 17 k) := alI_at encM_bestsAt hk (by decide)
theorem as_bestsAt {k : Nat} {x : Int32} {f : Hp → Option β} (hk : k < 243) : asI (g_c G 0) id (encM G b st h0) (b + 9) (nI k) x f = f (encM G b (msa st 17 (upK (ma st 17) k x)) h0) := (asI_at encM_bestsAt hk (by decide)).trans (congrArg f (show hset (encM G b st h0) (b + 9) (aI G 243 (upK (ma st 17) k x)) = _ from encM_set_bestsAt))
theorem al_worths {k : Nat} {f : Int32 → Option β} (hk : k < 8) : alI (g_c G 0) (encM G b st h0) (b + 10) (nI k) f = f (ma st 21 k) := alI_at encM_worths hk (by decide)
theorem as_worths {k : Nat} {x : Int32} {f : Hp → Option β} (hk : k < 8) : asI (g_c G 0) id (encM G b st h0) (b + 10) (nI k) x f = f (encM G b (msa st 21 (upK (ma st 21) k x)) h0) := (asI_at encM_worths hk (by decide)).trans (congrArg f (show hset (encM G b st h0) (b + 10) (aI G 8 (upK (ma st 21) k x)) = _ from encM_set_worths))
theorem al_keptKnown {k : Nat} {f : Int32 → Option β} (hk : k < 32) : alI (g_c G 0) (encM G b st h0) (b + 11) (nI k) f = f (ma st 22 k) := alI_at encM_keptKnown hk (by decide)
theorem as_keptKnown {k : Nat} {x : Int32} {f : Hp → Option β} (hk : k < 32) : asI (g_c G 0) id (encM G b st h0) (b + 11) (nI k) x f = f (encM G b (msa st 22 (upK (ma st 22) k x)) h0) := (asI_at encM_keptKnown hk (by decide)).trans (congrArg f (show hset (encM G b st h0) (b + 11) (aI G 32 (upK (ma st 22) k x)) = _ from encM_set_keptKnown))
theorem al_keptDays {k : Nat} {f : Int32 → Option β} (hk : k < 32) : alI (g_c G 0) (encM G b st h0) (b + 12) (nI k) f = f (ma st 23 k) := alI_at encM_keptDays hk (by decide)
theorem as_keptDays {k : Nat} {x : Int32} {f : Hp → Option β} (hk : k < 32) : asI (g_c G 0) id (encM G b st h0) (b + 12) (nI k) x f = f (encM G b (msa st 23 (upK (ma st 23) k x)) h0) := (asI_at encM_keptDays hk (by decide)).trans (congrArg f (show hset (encM G b st h0) (b + 12) (aI G 32 (upK (ma st 23) k x)) = _ from encM_set_keptDays))
theorem al_round {k : Nat} {f : Int32 → Option β} (hk : k < 3) : alI (g_c G 0) (encM G b st h0) (b + 13) (nI k) f = f (ma st 24 k) := alI_at encM_round hk (by decide)
theorem as_round {k : Nat} {x : Int32} {f : Hp → Option β} (hk : k < 3) : asI (g_c G 0) id (encM G b st h0) (b + 13) (nI k) x f = f (encM G b (msa st 24 (upK (ma st 24) k x)) h0) := (asI_at encM_round hk (by decide)).trans (congrArg f (show hset (encM G b st h0) (b + 13) (aI G 3 (upK (ma st 24) k x)) = _ from encM_set_round))
theorem al_sums {k : Nat} {f : Int64 → Option β} (hk : k < 201) : alJ (g_c G 1) (encM G b st h0) (b + 14) (nI k) f = f (ml st 27 k) := alJ_at encM_sums hk (by decide)
theorem as_sums {k : Nat} {x : Int64} {f : Hp → Option β} (hk : k < 201) : asJ (g_c G 1) (encM G b st h0) (b + 14) (nI k) x f = f (encM G b (msl st 27 (upK (ml st 27) k x)) h0) := (asJ_at encM_sums hk (by decide)).trans (congrArg f (show hset (encM G b st h0) (b + 14) (aJ G 201 (upK (ml st 27) k x)) = _ from encM_set_sums))
theorem al_bestRound {k : Nat} {f : Int32 → Option β} (hk : k < 3) : alI (g_c G 0) (encM G b st h0) (b + 15) (nI k) f = f (ma st 28 k) := alI_at encM_bestRound hk (by decide)
theorem as_bestRound {k : Nat} {x : Int32} {f : Hp → Option β} (hk : k < 3) : asI (g_c G 0) id (encM G b st h0) (b + 15) (nI k) x f = f (encM G b (msa st 28 (upK (ma st 28) k x)) h0) := (asI_at encM_bestRound hk (by decide)).trans (congrArg f (show hset (encM G b st h0) (b + 15) (aI G 3 (upK (ma st 28) k x)) = _ from encM_set_bestRound))
theorem al_bodies {k : Nat} {f : Int32 → Option β} (hk : k < 20) : alI (g_c G 0) (encM G b st h0) (b + 16) (nI k) f = f (ma st 29 k) := alI_at encM_bodies hk (by decide)
theorem as_bodies {k : Nat} {x : Int32} {f : Hp → Option β} (hk : k < 20) : asI (g_c G 0) id (encM G b st h0) (b + 16) (nI k) x f = f (encM G b (msa st 29 (upK (ma st 29) k x)) h0) := (asI_at encM_bodies hk (by decide)).trans (congrArg f (show hset (encM G b st h0) (b + 16) (aI G 20 (upK (ma st 29) k x)) = _ from encM_set_bodies))
theorem as_truths0 {k : Nat} {f : Hp → Option β} (hk : k < 64) : asI (g_c G 3) (vp_nar .boolean) (encM G b st h0) (b + 3) (nI k) (nI 0) f = f (encM G b (msa st 9 (upK (ma st 9) k (nI 0))) h0) := as_truths hk (Or.inl rfl)
theorem as_truths1 {k : Nat} {f : Hp → Option β} (hk : k < 64) : asI (g_c G 3) (vp_nar .boolean) (encM G b st h0) (b + 3) (nI k) (nI 1) f = f (encM G b (msa st 9 (upK (ma st 9) k (nI 1))) h0) := as_truths hk (Or.inr rfl)
end ME
