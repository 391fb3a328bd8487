/-! THE REFERENCE's sum over the steps of a SORT -/
theorem ma_msa_n {st : MS} {k j : Nat} {f : Nat → Int32} (h : j ≠ k) : ma (msa st k f) j = ma st j := upK_n h
theorem ma_msa_s {st : MS} {k : Nat} {f : Nat → Int32} : ma (msa st k f) k = f := upK_s
theorem upK_upK {α : Type} {f : Nat → α} {k : Nat} {x y : α} : upK (upK f k x) k y = upK f k y := by
  funext j
  unfold upK
  split <;> rfl
theorem msa_msa {st : MS} {k : Nat} {f g : Nat → Int32} : msa (msa st k f) k g = msa st k g := by
  unfold msa
  rw [upK_upK]
theorem msa_self {st : MS} {k : Nat} : msa st k (ma st k) = st := by
  obtain ⟨a, b, c⟩ := st
  unfold msa ma
  refine congrArg (fun z => (a, z, c)) (funext fun j => ?_)
  unfold upK
  split
  · rename_i e; rw [e]
  · rfl
def b2i (x : Bool) : Int32 := if x then 1 else 0
theorem b2i_z (x : Bool) : b2i x = 0 ∨ b2i x = 1 := by cases x; exact Or.inl rfl; exact Or.inr rfl
theorem b2i_ne {x : Bool} (h : b2i x ≠ 0) : x = true := by cases x; exact absurd rfl h; rfl
theorem b2i_eq {x : Bool} (h : b2i x = 0) : x = false := by cases x; rfl; exact absurd h (by decide)
/-- the truths, the last first, as they lie in an array -/
def SR (tr : Nat → Int32) : List Bool → Prop
  | [] => True
  | x :: t => tr t.length = b2i x ∧ SR tr t
theorem SR_up {tr : Nat → Int32} {i : Nat} {v : Int32} : ∀ {tk : List Bool}, SR tr tk → tk.length ≤ i → SR (upK tr i v) tk
  | [], _, _ => trivial
  | x :: t, h, hl => by
    have hl' : t.length + 1 ≤ i := hl
    exact ⟨(upK_n (by omega)).trans h.1, SR_up h.2 (by omega)⟩
/-- the value that a test asks, then the test -/
def isM (s d k : Int32) : Int32 := if s - s / nI 2 * nI 2 = 0 then d else k
def tsM (s d k : Int32) : Bool := if s / nI 2 - s / nI 2 / nI 4 * nI 4 = 0 then decide (isM s d k < s / nI 8) else if s / nI 2 - s / nI 2 / nI 4 * nI 4 = nI 1 then decide (isM s d k = s / nI 8) else decide (s / nI 8 < isM s d k)
/-- what a step does with the truths and the sum -/
def stC (w d k s : Int32) (tk : List Bool) (sum : Int32) : List Bool × Int32 :=
  if s < 0 then
    if s = -1 then (match tk with | x :: t => (!x) :: t | [] => [], sum)
    else if s ≤ -10 then ([], sum + (if tk.head? = some true ∧ (-10 - s) - (-10 - s) / nI 2 * nI 2 = w then (-10 - s) / nI 2 else 0))
    else (match tk with | x :: y :: t => (if s = -2 then (y && x) else (y || x)) :: t | _ => [], sum)
  else (tsM s d k :: tk, sum)
def runC (w d k : Int32) : List Int32 → List Bool → Int32 → Int32
  | [], _, sum => sum
  | s :: r, tk, sum => runC w d k r (stC w d k s tk sum).1 (stC w d k s tk sum).2
/-- the steps keep to a stack -/
def okC : List Int32 → Nat → Prop
  | [], t => t = 0
  | s :: r, t => (¬ s < 0 ∧ t < 40 ∧ okC r (t + 1)) ∨ (s = -1 ∧ 1 ≤ t ∧ okC r t) ∨ ((s = -2 ∨ s = -3) ∧ 2 ≤ t ∧ okC r (t - 1)) ∨ (s ≤ -10 ∧ t = 1 ∧ okC r 0)
def capC (x : Int32) : Int32 := if nI 1000 < x then nI 1000 else x
set_option maxRecDepth 100000 in
set_option maxHeartbeats 4000000 in
theorem summed_loop (G : Gx) (d b a len : Nat) (st : MS) (w dd k : Int32) (h0 : Hp) (nx : Nat) (ha : a < 6) (hlen : ma st 1 (130 + a) = nI len) (hl : len ≤ 140) (R : Int32) : ∀ (rem : List Int32) (i : Nat) (tk : List Bool) (sum : Int32) (tr : Nat → Int32) (x9 x10 x11 : Option Value), i + rem.length = len → (∀ j : Nat, j < rem.length → ma st 1 (170 + 140 * a + (i + j)) = rem.getD j 0) → okC rem tk.length → tk.length ≤ 40 → SR tr tk → R = runC w dd k rem tk sum →
    Ok G mX12_summed d (fun v h' nx' => v = some (.int (capC R)) ∧ (∃ tr', h' = encM G b (msa st 9 tr') h0) ∧ nx' = nx) 21 [some (.ref b), some (.int (nI a)), some (.int w), some (.int dd), some (.int k), some (.int (nI tk.length)), some (.int (sum)), some (.int (nI (170 + 140 * a))), some (.int (nI (170 + 140 * a + i))), x9, x10, x11] [] (encM G b (msa st 9 tr) h0) nx 0 0 := by
  intro rem
  induction rem with
  | nil =>
    intro i tk sum tr x9 x10 x11 hi hc ho ht hs hR
    have hi : i = len := by simpa using hi
    subst hi
    have hR' : R = sum := hR
    refine Ok.iload dX12_summed_21 rfl ?_
    refine Ok.iload dX12_summed_23 rfl ?_
    refine Ok.aload_n dX12_summed_25 rfl ?_
    refine Ok.mget_s rfl dX12_summed_26 ?_
    refine Ok.sipushV (v := nI 130) dX12_summed_29 (by decide +kernel) ?_
    refine Ok.iload_n dX12_summed_32 rfl ?_
    refine Ok.iaddN dX12_summed_33 ?_
    refine Ok.mald_sN dX12_summed_34 (by omega) ((congrFun (ma_msa_n (by decide)) _).trans hlen) ?_
    refine Ok.iaddN dX12_summed_35 ?_
    refine Ok.icmp_ge (tgt := 318) dX12_summed_36 (by decide) (fun c36 => ?_) (fun c36 => absurd c36 (by rw [nI_leI (by omega) (by omega)]; omega))
    refine Ok.iload dX12_summed_318 rfl ?_
    refine Ok.sipushV (v := nI 1000) dX12_summed_320 (by decide +kernel) ?_
    refine Ok.icmp_le (tgt := 332) dX12_summed_323 (by decide) (fun c323 => ?_) (fun c323 => ?_)
    · refine Ok.iload dX12_summed_332 rfl ?_
      exact Ok.iret dX12_summed_334 rfl (Nat.zero_le _) (Nat.zero_le _) ⟨by rw [hR']; unfold capC; rw [if_neg (Int32.not_lt.mpr c323)], ⟨tr, rfl⟩, rfl⟩
    · refine Ok.sipushV (v := nI 1000) dX12_summed_326 (by decide +kernel) ?_
      refine Ok.goto (tgt := 334) dX12_summed_329 (by decide) ?_
      exact Ok.iret dX12_summed_334 rfl (Nat.zero_le _) (Nat.zero_le _) ⟨by rw [hR']; unfold capC; rw [if_pos (Int32.not_le.mp c323)], ⟨tr, rfl⟩, rfl⟩
  | cons s rem ih =>
    intro i tk sum tr x9 x10 x11 hi hc ho ht hs hR
    have hi : i + (rem.length + 1) = len := by simpa using hi
    have hs0 : ma st 1 (170 + 140 * a + i) = s := by simpa using hc 0 (by simp)
    have hc' : ∀ j : Nat, j < rem.length → ma st 1 (170 + 140 * a + (i + 1 + j)) = rem.getD j 0 := fun j hj => by
      have := hc (j + 1) (by simp; omega)
      rw [show i + 1 + j = i + (j + 1) by omega]
      simpa using this
    have J : ∀ (tk' : List Bool) (sum' : Int32) (tr' : Nat → Int32) (x10 x11 : Option Value), okC rem tk'.length → tk'.length ≤ 40 → SR tr' tk' → stC w dd k s tk sum = (tk', sum') → Ok G mX12_summed d (fun v h' nx' => v = some (.int (capC R)) ∧ (∃ tr', h' = encM G b (msa st 9 tr') h0) ∧ nx' = nx) 312 [some (.ref b), some (.int (nI a)), some (.int w), some (.int dd), some (.int k), some (.int (nI tk'.length)), some (.int (sum')), some (.int (nI (170 + 140 * a))), some (.int (nI (170 + 140 * a + i))), some (.int s), x10, x11] [] (encM G b (msa st 9 tr') h0) nx 0 0 := by
      intro tk' sum' tr' x10 x11 h1 h2 h3 h4
      refine Ok.iinc dX12_summed_312 rfl (by decide) ?_
      refine Ok.goto (tgt := 21) dX12_summed_315 (by decide) ?_
      exact (ih (i + 1) tk' sum' tr' (some (.int s)) x10 x11 (by omega) hc' h1 h2 h3 (by rw [hR]; show runC w dd k rem _ _ = _; rw [h4])).eql (by show lst1 _ _ _ = _; rw [show nI (170 + 140 * a + i) + Int32.ofInt 1 = nI (170 + 140 * a + (i + 1)) from nI_1 _]; rfl)
    refine Ok.iload dX12_summed_21 rfl ?_
    refine Ok.iload dX12_summed_23 rfl ?_
    refine Ok.aload_n dX12_summed_25 rfl ?_
    refine Ok.mget_s rfl dX12_summed_26 ?_
    refine Ok.sipushV (v := nI 130) dX12_summed_29 (by decide +kernel) ?_
    refine Ok.iload_n dX12_summed_32 rfl ?_
    refine Ok.iaddN dX12_summed_33 ?_
    refine Ok.mald_sN dX12_summed_34 (by omega) ((congrFun (ma_msa_n (by decide)) _).trans hlen) ?_
    refine Ok.iaddN dX12_summed_35 ?_
    refine Ok.icmp_ge (tgt := 318) dX12_summed_36 (by decide) (fun c36 => absurd c36 (by rw [nI_leI (by omega) (by omega)]; omega)) (fun c36 => ?_)
    refine Ok.aload_n dX12_summed_39 rfl ?_
    refine Ok.mget_s rfl dX12_summed_40 ?_
    refine Ok.iload dX12_summed_43 rfl ?_
    refine Ok.mald_sN dX12_summed_45 (by omega) ((congrFun (ma_msa_n (by decide)) _).trans hs0) ?_
    refine Ok.istore dX12_summed_46 (by decide) ?_
    refine Ok.iload dX12_summed_48 rfl ?_
    refine Ok.if_lt (tgt := 151) dX12_summed_50 (by decide) (fun c50 => ?_) (fun c50 => ?_)
    · have ho' := ho
      simp only [okC] at ho'
      rcases ho' with ho' | ho' | ho' | ho'
      · exact absurd c50 ho'.1
      · obtain ⟨rfl, h1, h2⟩ := ho'
        match tk, h1, h2, ht, hs, J with
        | x :: t, h1, h2, ht, hs, J =>
          have e1 : nI (x :: t).length - nI 1 = nI t.length := pk_sub (by simp)
          have ht' : t.length + 1 ≤ 40 := ht
          refine Ok.iload dX12_summed_151 rfl ?_
          refine Ok.iconstV (v := (-1)) dX12_summed_153 (by decide +kernel) ?_
          refine Ok.icmp_ne (tgt := 186) dX12_summed_154 (by decide) (fun c154 => absurd c154 (by simp)) (fun c154 => ?_)
          refine Ok.aload_n dX12_summed_157 rfl ?_
          refine Ok.mget_truths rfl dX12_summed_158 ?_
          refine Ok.iload dX12_summed_161 rfl ?_
          refine Ok.iconstV (v := nI 1) dX12_summed_163 (by decide +kernel) ?_
          refine Ok.isub dX12_summed_164 ?_
          rw [e1]
          refine Ok.aload_n dX12_summed_165 rfl ?_
          refine Ok.mget_truths rfl dX12_summed_166 ?_
          refine Ok.iload dX12_summed_169 rfl ?_
          refine Ok.iconstV (v := nI 1) dX12_summed_171 (by decide +kernel) ?_
          refine Ok.isub dX12_summed_172 ?_
          rw [e1]
          refine Ok.mald_truthsN dX12_summed_173 (by omega) ((congrFun ma_msa_s _).trans hs.1) ?_
          refine Ok.if_ne (tgt := 181) dX12_summed_174 (by decide) (fun c174 => ?_) (fun c174 => ?_)
          · refine Ok.iconstV (v := nI 0) dX12_summed_181 (by decide +kernel) ?_
            refine Ok.mast_truthsN dX12_summed_182 (by omega) (by first | exact Or.inl rfl | exact Or.inr rfl) ?_
            refine Ok.goto (tgt := 312) dX12_summed_183 (by decide) ?_
            rw [msa_msa, ma_msa_s]
            exact J ((!x) :: t) sum (upK tr t.length _) _ _ h2 ht ⟨upK_s.trans (by rw [b2i_ne c174]; rfl), SR_up hs.2 (Nat.le_refl _)⟩ (by simp [stC])
          · refine Ok.iconstV (v := nI 1) dX12_summed_177 (by decide +kernel) ?_
            refine Ok.goto (tgt := 182) dX12_summed_178 (by decide) ?_
            refine Ok.mast_truthsN dX12_summed_182 (by omega) (by first | exact Or.inl rfl | exact Or.inr rfl) ?_
            refine Ok.goto (tgt := 312) dX12_summed_183 (by decide) ?_
            rw [msa_msa, ma_msa_s]
            exact J ((!x) :: t) sum (upK tr t.length _) _ _ h2 ht ⟨upK_s.trans (by rw [b2i_eq c174]; rfl), SR_up hs.2 (Nat.le_refl _)⟩ (by simp [stC])
      · obtain ⟨hs23, h1, h2⟩ := ho'
        match tk, h1, h2, ht, hs, J with
        | x :: y :: t, h1, h2, ht, hs, J =>
          have e1 : nI (t.length + 1) - nI 1 = nI t.length := pk_sub (by omega)
          have ht' : t.length + 1 + 1 ≤ 40 := ht
          have n1 : s ≠ -1 := by rcases hs23 with rfl | rfl <;> decide
          have n2 : ¬ s ≤ -10 := by rcases hs23 with rfl | rfl <;> decide
          have fin : ∀ z : Bool, z = (if s = -2 then (y && x) else (y || x)) → Ok G mX12_summed d (fun v h' nx' => v = some (.int (capC R)) ∧ (∃ tr', h' = encM G b (msa st 9 tr') h0) ∧ nx' = nx) 268 [some (.ref b), some (.int (nI a)), some (.int w), some (.int dd), some (.int k), some (.int (nI (t.length + 1))), some (.int (sum)), some (.int (nI (170 + 140 * a))), some (.int (nI (170 + 140 * a + i))), some (.int s), x10, x11] [.int (b2i z), .int (nI t.length), .ref (b + 3)] (encM G b (msa st 9 tr) h0) nx 0 0 := by
            intro z hz
            refine Ok.mast_truthsN dX12_summed_268 (by omega) (b2i_z _) ?_
            refine Ok.goto (tgt := 312) dX12_summed_269 (by decide) ?_
            rw [msa_msa, ma_msa_s]
            exact J (z :: t) sum (upK tr t.length _) _ _ h2 (by show t.length + 1 ≤ 40; omega) ⟨upK_s, SR_up hs.2.2 (Nat.le_refl _)⟩ (by rw [hz]; unfold stC; rw [if_pos c50, if_neg n1, if_neg n2])
          refine Ok.iload dX12_summed_151 rfl ?_
          refine Ok.iconstV (v := (-1)) dX12_summed_153 (by decide +kernel) ?_
          refine Ok.icmp_ne (tgt := 186) dX12_summed_154 (by decide) (fun c154 => ?_) (fun c154 => absurd c154 (n1))
          refine Ok.iload dX12_summed_186 rfl ?_
          refine Ok.bipushV (v := (-10)) dX12_summed_188 (by decide +kernel) ?_
          refine Ok.icmp_le (tgt := 272) dX12_summed_190 (by decide) (fun c190 => absurd c190 (n2)) (fun c190 => ?_)
          refine Ok.iinc dX12_summed_193 rfl (by decide) ?_
          rw [show nI (x :: y :: t).length + Int32.ofInt (-1) = nI (t.length + 1) from pk_m1 _]
          refine Ok.aload_n dX12_summed_196 rfl ?_
          refine Ok.mget_truths rfl dX12_summed_197 ?_
          refine Ok.iload dX12_summed_200 rfl ?_
          refine Ok.iconstV (v := nI 1) dX12_summed_202 (by decide +kernel) ?_
          refine Ok.isub dX12_summed_203 ?_
          rw [e1]
          refine Ok.iload dX12_summed_204 rfl ?_
          refine Ok.bipushV (v := (-2)) dX12_summed_206 (by decide +kernel) ?_
          refine Ok.icmp_ne (tgt := 241) dX12_summed_208 (by decide) (fun c208 => ?_) (fun c208 => ?_)
          · refine Ok.aload_n dX12_summed_241 rfl ?_
            refine Ok.mget_truths rfl dX12_summed_242 ?_
            refine Ok.iload dX12_summed_245 rfl ?_
            refine Ok.iconstV (v := nI 1) dX12_summed_247 (by decide +kernel) ?_
            refine Ok.isub dX12_summed_248 ?_
            rw [e1]
            refine Ok.mald_truthsN dX12_summed_249 (by omega) ((congrFun ma_msa_s _).trans hs.2.1) ?_
            refine Ok.if_ne (tgt := 263) dX12_summed_250 (by decide) (fun c250 => ?_) (fun c250 => ?_)
            · refine Ok.iconstV (v := nI 1) dX12_summed_263 (by decide +kernel) ?_
              refine Ok.goto (tgt := 268) dX12_summed_264 (by decide) ?_
              exact fin true (by rw [if_neg c208, b2i_ne c250]; rfl)
            · refine Ok.aload_n dX12_summed_253 rfl ?_
              refine Ok.mget_truths rfl dX12_summed_254 ?_
              refine Ok.iload dX12_summed_257 rfl ?_
              refine Ok.mald_truthsN dX12_summed_259 (by omega) ((congrFun ma_msa_s _).trans hs.1) ?_
              refine Ok.if_eq (tgt := 267) dX12_summed_260 (by decide) (fun c260 => ?_) (fun c260 => ?_)
              · refine Ok.iconstV (v := nI 0) dX12_summed_267 (by decide +kernel) ?_
                exact fin false (by rw [if_neg c208, b2i_eq c250, b2i_eq c260]; rfl)
              · refine Ok.iconstV (v := nI 1) dX12_summed_263 (by decide +kernel) ?_
                refine Ok.goto (tgt := 268) dX12_summed_264 (by decide) ?_
                exact fin true (by rw [if_neg c208, b2i_eq c250, b2i_ne c260]; rfl)
          · refine Ok.aload_n dX12_summed_211 rfl ?_
            refine Ok.mget_truths rfl dX12_summed_212 ?_
            refine Ok.iload dX12_summed_215 rfl ?_
            refine Ok.iconstV (v := nI 1) dX12_summed_217 (by decide +kernel) ?_
            refine Ok.isub dX12_summed_218 ?_
            rw [e1]
            refine Ok.mald_truthsN dX12_summed_219 (by omega) ((congrFun ma_msa_s _).trans hs.2.1) ?_
            refine Ok.if_eq (tgt := 237) dX12_summed_220 (by decide) (fun c220 => ?_) (fun c220 => ?_)
            · refine Ok.iconstV (v := nI 0) dX12_summed_237 (by decide +kernel) ?_
              refine Ok.goto (tgt := 268) dX12_summed_238 (by decide) ?_
              exact fin false (by rw [if_pos c208, b2i_eq c220]; rfl)
            · refine Ok.aload_n dX12_summed_223 rfl ?_
              refine Ok.mget_truths rfl dX12_summed_224 ?_
              refine Ok.iload dX12_summed_227 rfl ?_
              refine Ok.mald_truthsN dX12_summed_229 (by omega) ((congrFun ma_msa_s _).trans hs.1) ?_
              refine Ok.if_eq (tgt := 237) dX12_summed_230 (by decide) (fun c230 => ?_) (fun c230 => ?_)
              · refine Ok.iconstV (v := nI 0) dX12_summed_237 (by decide +kernel) ?_
                refine Ok.goto (tgt := 268) dX12_summed_238 (by decide) ?_
                exact fin false (by rw [if_pos c208, b2i_ne c220, b2i_eq c230]; rfl)
              · refine Ok.iconstV (v := nI 1) dX12_summed_233 (by decide +kernel) ?_
                refine Ok.goto (tgt := 268) dX12_summed_234 (by decide) ?_
                exact fin true (by rw [if_pos c208, b2i_ne c220, b2i_ne c230]; rfl)
      · obtain ⟨h0', h1, h2⟩ := ho'
        match tk, h1, ht, hs, J with
        | [x], h1, ht, hs, J =>
          have n1 : s ≠ -1 := fun q => by rw [q] at h0'; exact absurd h0' (by decide)
          have fin : ∀ z : Int32, z = (if x = true ∧ (-10 - s) - (-10 - s) / nI 2 * nI 2 = w then (-10 - s) / nI 2 else 0) → Ok G mX12_summed d (fun v h' nx' => v = some (.int (capC R)) ∧ (∃ tr', h' = encM G b (msa st 9 tr') h0) ∧ nx' = nx) 309 [some (.ref b), some (.int (nI a)), some (.int w), some (.int dd), some (.int k), some (.int (nI 0)), some (.int (sum)), some (.int (nI (170 + 140 * a))), some (.int (nI (170 + 140 * a + i))), some (.int s), some (.int (-10 - s)), x11] [.int z, .int sum] (encM G b (msa st 9 tr) h0) nx 0 0 := by
            intro z hz
            refine Ok.iadd dX12_summed_309 ?_
            refine Ok.istore dX12_summed_310 (by decide) ?_
            exact J [] (sum + z) tr _ _ h2 (by decide) trivial (by rw [hz]; unfold stC; rw [if_pos c50, if_neg n1, if_pos h0']; simp)
          refine Ok.iload dX12_summed_151 rfl ?_
          refine Ok.iconstV (v := (-1)) dX12_summed_153 (by decide +kernel) ?_
          refine Ok.icmp_ne (tgt := 186) dX12_summed_154 (by decide) (fun c154 => ?_) (fun c154 => absurd c154 (n1))
          refine Ok.iload dX12_summed_186 rfl ?_
          refine Ok.bipushV (v := (-10)) dX12_summed_188 (by decide +kernel) ?_
          refine Ok.icmp_le (tgt := 272) dX12_summed_190 (by decide) (fun c190 => ?_) (fun c190 => absurd c190 (fun q => q h0'))
          refine Ok.iconstV (v := nI 0) dX12_summed_272 (by decide +kernel) ?_
          refine Ok.istore dX12_summed_273 (by decide) ?_
          refine Ok.bipushV (v := (-10)) dX12_summed_275 (by decide +kernel) ?_
          refine Ok.iload dX12_summed_277 rfl ?_
          refine Ok.isub dX12_summed_279 ?_
          refine Ok.istore dX12_summed_280 (by decide) ?_
          refine Ok.iload dX12_summed_282 rfl ?_
          refine Ok.aload_n dX12_summed_284 rfl ?_
          refine Ok.mget_truths rfl dX12_summed_285 ?_
          refine Ok.iconstV (v := nI 0) dX12_summed_288 (by decide +kernel) ?_
          refine Ok.mald_truthsN dX12_summed_289 (by omega) ((congrFun ma_msa_s _).trans hs.1) ?_
          refine Ok.if_eq (tgt := 308) dX12_summed_290 (by decide) (fun c290 => ?_) (fun c290 => ?_)
          · refine Ok.iconstV (v := nI 0) dX12_summed_308 (by decide +kernel) ?_
            exact fin _ (by rw [if_neg (fun q => by rw [b2i_eq c290] at q; exact absurd q.1 (by decide))]; rfl)
          · refine Ok.iload dX12_summed_293 rfl ?_
            refine Ok.iconstV (v := nI 2) dX12_summed_295 (by decide +kernel) ?_
            refine Ok.irem dX12_summed_296 (by decide +kernel) ?_
            refine Ok.iload_n dX12_summed_297 rfl ?_
            refine Ok.icmp_ne (tgt := 308) dX12_summed_298 (by decide) (fun c298 => ?_) (fun c298 => ?_)
            · refine Ok.iconstV (v := nI 0) dX12_summed_308 (by decide +kernel) ?_
              exact fin _ (by rw [if_neg (fun q => c298 q.2)]; rfl)
            · refine Ok.iload dX12_summed_301 rfl ?_
              refine Ok.iconstV (v := nI 2) dX12_summed_303 (by decide +kernel) ?_
              refine Ok.idiv dX12_summed_304 (by decide +kernel) ?_
              refine Ok.goto (tgt := 309) dX12_summed_305 (by decide) ?_
              exact fin _ (by rw [if_pos ⟨b2i_ne c290, c298⟩])
    · have ho' := ho
      simp only [okC] at ho'
      rcases ho' with ho' | ho' | ho' | ho'
      · obtain ⟨-, h1, h2⟩ := ho'
        have fin : ∀ (bb : Bool) (x10 x11 : Option Value), bb = tsM s dd k → Ok G mX12_summed d (fun v h' nx' => v = some (.int (capC R)) ∧ (∃ tr', h' = encM G b (msa st 9 tr') h0) ∧ nx' = nx) 144 [some (.ref b), some (.int (nI a)), some (.int w), some (.int dd), some (.int k), some (.int (nI tk.length)), some (.int (sum)), some (.int (nI (170 + 140 * a))), some (.int (nI (170 + 140 * a + i))), some (.int s), x10, x11] [.int (b2i bb), .int (nI tk.length), .ref (b + 3)] (encM G b (msa st 9 tr) h0) nx 0 0 := by
          intro bb x10 x11 hb
          refine Ok.mast_truthsN dX12_summed_144 (by omega) (b2i_z _) ?_
          refine Ok.iinc dX12_summed_145 rfl (by decide) ?_
          refine Ok.goto (tgt := 312) dX12_summed_148 (by decide) ?_
          rw [msa_msa, ma_msa_s]
          exact (J (bb :: tk) sum (upK tr tk.length _) x10 x11 h2 (by show tk.length + 1 ≤ 40; omega) ⟨upK_s, SR_up hs (Nat.le_refl _)⟩ (by rw [hb]; unfold stC; rw [if_neg c50])).eql (by show lst1 _ _ _ = _; rw [show nI tk.length + Int32.ofInt 1 = nI (bb :: tk).length from nI_1 _]; rfl)
        have mid : ∀ z : Int32, z = isM s dd k → Ok G mX12_summed d (fun v h' nx' => v = some (.int (capC R)) ∧ (∃ tr', h' = encM G b (msa st 9 tr') h0) ∧ nx' = nx) 66 [some (.ref b), some (.int (nI a)), some (.int w), some (.int dd), some (.int k), some (.int (nI tk.length)), some (.int (sum)), some (.int (nI (170 + 140 * a))), some (.int (nI (170 + 140 * a + i))), some (.int s), x10, x11] [.int z] (encM G b (msa st 9 tr) h0) nx 0 0 := by
          intro z hz
          refine Ok.istore dX12_summed_66 (by decide) ?_
          refine Ok.iload dX12_summed_68 rfl ?_
          refine Ok.iconstV (v := nI 2) dX12_summed_70 (by decide +kernel) ?_
          refine Ok.idiv dX12_summed_71 (by decide +kernel) ?_
          refine Ok.iconstV (v := nI 4) dX12_summed_72 (by decide +kernel) ?_
          refine Ok.irem dX12_summed_73 (by decide +kernel) ?_
          refine Ok.istore dX12_summed_74 (by decide) ?_
          refine Ok.aload_n dX12_summed_76 rfl ?_
          refine Ok.mget_truths rfl dX12_summed_77 ?_
          refine Ok.iload dX12_summed_80 rfl ?_
          refine Ok.iload dX12_summed_82 rfl ?_
          refine Ok.if_ne (tgt := 105) dX12_summed_84 (by decide) (fun c84 => ?_) (fun c84 => ?_)
          · refine Ok.iload dX12_summed_105 rfl ?_
            refine Ok.iconstV (v := nI 1) dX12_summed_107 (by decide +kernel) ?_
            refine Ok.icmp_ne (tgt := 129) dX12_summed_108 (by decide) (fun c108 => ?_) (fun c108 => ?_)
            · refine Ok.iload dX12_summed_129 rfl ?_
              refine Ok.iload dX12_summed_131 rfl ?_
              refine Ok.bipushV (v := nI 8) dX12_summed_133 (by decide +kernel) ?_
              refine Ok.idiv dX12_summed_135 (by decide +kernel) ?_
              refine Ok.icmp_le (tgt := 143) dX12_summed_136 (by decide) (fun c136 => ?_) (fun c136 => ?_)
              · refine Ok.iconstV (v := nI 0) dX12_summed_143 (by decide +kernel) ?_
                exact fin false _ _ (by unfold tsM; rw [if_neg c84, if_neg c108]; rw [← hz]; exact (decide_eq_false (Int32.not_lt.mpr c136)).symm)
              · refine Ok.iconstV (v := nI 1) dX12_summed_139 (by decide +kernel) ?_
                refine Ok.goto (tgt := 144) dX12_summed_140 (by decide) ?_
                exact fin true _ _ (by unfold tsM; rw [if_neg c84, if_neg c108]; rw [← hz]; exact (decide_eq_true (Int32.not_le.mp c136)).symm)
            · refine Ok.iload dX12_summed_111 rfl ?_
              refine Ok.iload dX12_summed_113 rfl ?_
              refine Ok.bipushV (v := nI 8) dX12_summed_115 (by decide +kernel) ?_
              refine Ok.idiv dX12_summed_117 (by decide +kernel) ?_
              refine Ok.icmp_ne (tgt := 125) dX12_summed_118 (by decide) (fun c118 => ?_) (fun c118 => ?_)
              · refine Ok.iconstV (v := nI 0) dX12_summed_125 (by decide +kernel) ?_
                refine Ok.goto (tgt := 144) dX12_summed_126 (by decide) ?_
                exact fin false _ _ (by unfold tsM; rw [if_neg c84, if_pos c108]; rw [← hz]; exact (decide_eq_false c118).symm)
              · refine Ok.iconstV (v := nI 1) dX12_summed_121 (by decide +kernel) ?_
                refine Ok.goto (tgt := 144) dX12_summed_122 (by decide) ?_
                exact fin true _ _ (by unfold tsM; rw [if_neg c84, if_pos c108]; rw [← hz]; exact (decide_eq_true c118).symm)
          · refine Ok.iload dX12_summed_87 rfl ?_
            refine Ok.iload dX12_summed_89 rfl ?_
            refine Ok.bipushV (v := nI 8) dX12_summed_91 (by decide +kernel) ?_
            refine Ok.idiv dX12_summed_93 (by decide +kernel) ?_
            refine Ok.icmp_ge (tgt := 101) dX12_summed_94 (by decide) (fun c94 => ?_) (fun c94 => ?_)
            · refine Ok.iconstV (v := nI 0) dX12_summed_101 (by decide +kernel) ?_
              refine Ok.goto (tgt := 144) dX12_summed_102 (by decide) ?_
              exact fin false _ _ (by unfold tsM; rw [if_pos c84]; rw [← hz]; exact (decide_eq_false (Int32.not_lt.mpr c94)).symm)
            · refine Ok.iconstV (v := nI 1) dX12_summed_97 (by decide +kernel) ?_
              refine Ok.goto (tgt := 144) dX12_summed_98 (by decide) ?_
              exact fin true _ _ (by unfold tsM; rw [if_pos c84]; rw [← hz]; exact (decide_eq_true (Int32.not_le.mp c94)).symm)
        refine Ok.iload dX12_summed_53 rfl ?_
        refine Ok.iconstV (v := nI 2) dX12_summed_55 (by decide +kernel) ?_
        refine Ok.irem dX12_summed_56 (by decide +kernel) ?_
        refine Ok.if_ne (tgt := 64) dX12_summed_57 (by decide) (fun c57 => ?_) (fun c57 => ?_)
        · refine Ok.iload dX12_summed_64 rfl ?_
          exact mid _ (by unfold isM; rw [if_neg c57])
        · refine Ok.iload_n dX12_summed_60 rfl ?_
          refine Ok.goto (tgt := 66) dX12_summed_61 (by decide) ?_
          exact mid _ (by unfold isM; rw [if_pos c57])
      · obtain ⟨rfl, -⟩ := ho'
        exact absurd (by decide) c50
      · rcases ho'.1 with rfl | rfl <;> exact absurd (by decide) c50
      · exact absurd (Int32.lt_of_le_of_lt ho'.1 (by decide)) c50
set_option maxRecDepth 100000 in
set_option maxHeartbeats 4000000 in
theorem ct_summed (G : Gx) (d b a len : Nat) (st : MS) (w dd k : Int32) (h0 : Hp) (nx : Nat) (ha : a < 6) (hlen : ma st 1 (130 + a) = nI len) (hl : len ≤ 140) (rem : List Int32) (hr : rem.length = len) (hc : ∀ j : Nat, j < len → ma st 1 (170 + 140 * a + j) = rem.getD j 0) (ho : okC rem 0) : Ct G mX12_summed d (fun v h' nx' => v = some (.int (capC (runC w dd k rem [] 0))) ∧ (∃ tr', h' = encM G b (msa st 9 tr') h0) ∧ nx' = nx) [.ref b, .int (nI a), .int w, .int dd, .int k] (encM G b st h0) nx := by
  refine Ct.of (ls := [some (.ref b), some (.int (nI a)), some (.int w), some (.int dd), some (.int k), none, none, none, none, none, none, none]) (by decide +kernel) rfl (Nat.le_of_ble_eq_true rfl) rfl ?_
  refine Ok.iconstV (v := nI 0) dX12_summed_0 (by decide +kernel) ?_
  refine Ok.istore dX12_summed_1 (by decide) ?_
  refine Ok.iconstV (v := nI 0) dX12_summed_3 (by decide +kernel) ?_
  refine Ok.istore dX12_summed_4 (by decide) ?_
  refine Ok.sipushV (v := nI 170) dX12_summed_6 (by decide +kernel) ?_
  refine Ok.sipushV (v := nI 140) dX12_summed_9 (by decide +kernel) ?_
  refine Ok.iload_n dX12_summed_12 rfl ?_
  refine Ok.imulN dX12_summed_13 ?_
  refine Ok.iaddN dX12_summed_14 ?_
  refine Ok.istore dX12_summed_15 (by decide) ?_
  refine Ok.iload dX12_summed_17 rfl ?_
  refine Ok.istore dX12_summed_19 (by decide) ?_
  refine Ok.eqh ?_ (congrArg (fun z => encM G b z h0) (msa_self (st := st) (k := 9)).symm)
  exact (summed_loop G d b a len st w dd k h0 nx ha hlen hl _ rem 0 [] 0 (ma st 9) none none none (by omega) (fun j hj => by rw [Nat.zero_add]; exact hc j (by omega)) ho (by decide) trivial rfl)
