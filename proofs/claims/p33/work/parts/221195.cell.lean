set_option maxRecDepth 100000 in
theorem zg_c95 : ∀ r, r < 123 → zg_cl r = 5 → r = 105 ∨ r = 107 ∨ r = 109 ∨ r = 111 := by decide +kernel
theorem bdP_cells {r k : Nat} {v : Int} (h : zg_cl r = 5) : bdP 9 (r + 1) k v := by
  rcases zg_c95 r (zg_lt h rfl) h with rfl | rfl | rfl | rfl <;> trivial
