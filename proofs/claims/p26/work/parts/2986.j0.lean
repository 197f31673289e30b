/-! at the start -/
theorem J_0 : JR zg_0 := by
  have z1 : (zg_0 1 1).toInt = 0 ∧ (zg_0 1 2).toInt = 0 ∧ (zg_0 1 3).toInt = 0 ∧ (zg_0 28 1).toInt = 0 := by decide +kernel
  have z2 : ∀ k, k < 4 → (zg_0 (105 + 2 * k) 0).toInt = -1 ∧ (zg_0 119 k).toInt = -4 := by decide +kernel
  have z3 : ∀ k, k < 2 → zg_0 55 k = zg_0 115 k ∧ zg_0 55 k = 0 := by decide +kernel
  have z4 : zg_0 28 1 = zg_0 113 14 ∧ zg_0 28 2 = zg_0 113 19 ∧ zg_0 1 0 = zg_0 113 2 ∧ zg_0 1 1 = zg_0 113 3 ∧ zg_0 1 2 = zg_0 114 8 ∧ zg_0 1 3 = zg_0 114 65 := by decide +kernel
  have z5 : 2 ≤ (zg_0 1 0).toInt ∧ (zg_0 1 0).toInt ≤ 8 := by decide +kernel
  refine ⟨⟨z4.1, by omega, by omega, fun k hk => by omega⟩, z4.2.1, ⟨z4.2.2.1, z4.2.2.2.1, ⟨?_, fun p hp => by omega, fun d hd => by omega, fun i hi => by omega⟩, z4.2.2.2.2.1, z4.2.2.2.2.2, fun p hp => by omega, fun d hd => by omega, fun i hi => by omega⟩, fun k hk => ⟨(z3 k hk).1, Or.inl (z3 k hk).2⟩, fun k hk => Or.inl (z2 k hk)⟩
  unfold Wn
  omega
