/-! at the start -/
theorem J_0 : j3 zg_0 := by
  refine ⟨by decide +kernel, fun k hk => Or.inl ?_⟩
  have h : ∀ k, k < 4 → (zg_0 (105 + 2 * k) 0).toInt = -1 ∧ (zg_0 119 k).toInt = -4 := by decide +kernel
  exact h k hk
