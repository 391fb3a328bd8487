/-! bits of small numbers -/
set_option maxRecDepth 100000 in
theorem hb_not : ∀ e : Fin 128, ∀ q : Fin 128, (nI (128 * e.val + q.val) ^^^ nI 1) = nI (if q.val % 2 = 0 then 128 * e.val + q.val + 1 else 128 * e.val + q.val - 1) := by decide +kernel
set_option maxRecDepth 100000 in
theorem hb_and : ∀ e : Fin 128, ∀ q : Fin 128, (nI (128 * e.val + q.val) >>> (nI 1 &&& 31)) &&& ((-2 : Int32) ||| (nI (128 * e.val + q.val) &&& nI 1)) = nI ((128 * e.val + q.val) / 4 * 2 + ((128 * e.val + q.val) / 2 % 2) * ((128 * e.val + q.val) % 2)) := by decide +kernel
set_option maxRecDepth 100000 in
theorem hb_or : ∀ e : Fin 128, ∀ q : Fin 128, (nI (128 * e.val + q.val) >>> (nI 1 &&& 31)) ||| (nI (128 * e.val + q.val) &&& nI 1) = nI ((128 * e.val + q.val) / 4 * 2 + (if (128 * e.val + q.val) % 4 = 0 then 0 else 1)) := by decide +kernel
set_option maxRecDepth 100000 in
theorem hb_psh : ∀ e : Fin 128, ∀ q : Fin 128, ∀ z : Fin 2, (nI (128 * e.val + q.val) <<< (nI 1 &&& 31)) ||| nI z.val = nI (2 * (128 * e.val + q.val) + z.val) := by decide +kernel
set_option maxRecDepth 100000 in
theorem hb_top : ∀ e : Fin 128, ∀ q : Fin 128, nI (128 * e.val + q.val) &&& nI 1 = nI ((128 * e.val + q.val) % 2) := by decide +kernel
