/-! bytes with a sign -/
set_option maxRecDepth 100000 in
theorem sx_all : ∀ m : Fin 256, ∀ x : Fin 128, (sxB (nI m.val) = nI x.val) ↔ m.val = x.val := by decide +kernel
set_option maxRecDepth 100000 in
theorem sx_fig : ∀ m : Fin 256, (sxB (nI m.val) < nI 48 ∨ nI 57 < sxB (nI m.val)) ↔ (m.val < 48 ∨ 57 < m.val) := by decide +kernel
set_option maxRecDepth 100000 in
theorem sx_dig : ∀ m : Fin 256, 48 ≤ m.val → m.val ≤ 57 → sxB (nI m.val) = nI m.val := by decide +kernel
