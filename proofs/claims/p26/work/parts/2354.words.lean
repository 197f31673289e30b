/-! the text: words, on both sides (printed by wip/tools/words.py) -/
theorem wd_0 {c m : G} (hs : (c 28 9).toInt = (m 113 16).toInt) (hp : (c 28 10).toInt = (m 113 15).toInt) : Wd c 0 ↔ ((m 113 15).toInt - (m 113 16).toInt = (5 : Int32).toInt ∧ tb c (m 113 16).toInt = (104 : Int32).toInt ∧ tb c ((m 113 16).toInt + 1) = (111 : Int32).toInt ∧ tb c ((m 113 16).toInt + 2) = (117 : Int32).toInt) ∧ (tb c ((m 113 16).toInt + 3) = (114 : Int32).toInt ∧ ((115 : Int32).toInt = 0 ∨ tb c ((m 113 16).toInt + 4) = (115 : Int32).toInt)) := by
  have hl : (z_by 0).length = 5 := rfl
  have Ln : (5 : Int32).toInt = 5 := by decide
  constructor
  · rintro ⟨h1, h2⟩
    rw [hl] at h1
    have a0 : tb c ((m 113 16).toInt) = (104 : Int32).toInt := by
      rw [show (m 113 16).toInt = (c 28 9).toInt + ((0 : Nat) : Int) by omega]
      exact h2 0 (by decide)
    have a1 : tb c ((m 113 16).toInt + 1) = (111 : Int32).toInt := by
      rw [show (m 113 16).toInt + 1 = (c 28 9).toInt + ((1 : Nat) : Int) by omega]
      exact h2 1 (by decide)
    have a2 : tb c ((m 113 16).toInt + 2) = (117 : Int32).toInt := by
      rw [show (m 113 16).toInt + 2 = (c 28 9).toInt + ((2 : Nat) : Int) by omega]
      exact h2 2 (by decide)
    have a3 : tb c ((m 113 16).toInt + 3) = (114 : Int32).toInt := by
      rw [show (m 113 16).toInt + 3 = (c 28 9).toInt + ((3 : Nat) : Int) by omega]
      exact h2 3 (by decide)
    have a4 : tb c ((m 113 16).toInt + 4) = (115 : Int32).toInt := by
      rw [show (m 113 16).toInt + 4 = (c 28 9).toInt + ((4 : Nat) : Int) by omega]
      exact h2 4 (by decide)
    exact ⟨⟨by omega, a0, a1, a2⟩, a3, Or.inr a4⟩
  · rintro ⟨⟨n1, a0, a1, a2⟩, a3, a4⟩
    have a4 : tb c ((m 113 16).toInt + 4) = (115 : Int32).toInt := a4.resolve_left (by decide)
    refine ⟨by rw [hl]; omega, fun i hi => ?_⟩
    rw [hl] at hi
    match i, hi with
    | 0, _ =>
      rw [show (c 28 9).toInt + ((0 : Nat) : Int) = (m 113 16).toInt by omega]
      exact a0
    | 1, _ =>
      rw [show (c 28 9).toInt + ((1 : Nat) : Int) = (m 113 16).toInt + 1 by omega]
      exact a1
    | 2, _ =>
      rw [show (c 28 9).toInt + ((2 : Nat) : Int) = (m 113 16).toInt + 2 by omega]
      exact a2
    | 3, _ =>
      rw [show (c 28 9).toInt + ((3 : Nat) : Int) = (m 113 16).toInt + 3 by omega]
      exact a3
    | 4, _ =>
      rw [show (c 28 9).toInt + ((4 : Nat) : Int) = (m 113 16).toInt + 4 by omega]
      exact a4
    | q + 5, h => exact absurd h (by omega)
theorem wd_1 {c m : G} (hs : (c 28 9).toInt = (m 113 16).toInt) (hp : (c 28 10).toInt = (m 113 15).toInt) : Wd c 1 ↔ ((m 113 15).toInt - (m 113 16).toInt = (3 : Int32).toInt ∧ tb c (m 113 16).toInt = (111 : Int32).toInt ∧ tb c ((m 113 16).toInt + 1) = (110 : Int32).toInt ∧ tb c ((m 113 16).toInt + 2) = (101 : Int32).toInt) := by
  have hl : (z_by 1).length = 3 := rfl
  have Ln : (3 : Int32).toInt = 3 := by decide
  constructor
  · rintro ⟨h1, h2⟩
    rw [hl] at h1
    have a0 : tb c ((m 113 16).toInt) = (111 : Int32).toInt := by
      rw [show (m 113 16).toInt = (c 28 9).toInt + ((0 : Nat) : Int) by omega]
      exact h2 0 (by decide)
    have a1 : tb c ((m 113 16).toInt + 1) = (110 : Int32).toInt := by
      rw [show (m 113 16).toInt + 1 = (c 28 9).toInt + ((1 : Nat) : Int) by omega]
      exact h2 1 (by decide)
    have a2 : tb c ((m 113 16).toInt + 2) = (101 : Int32).toInt := by
      rw [show (m 113 16).toInt + 2 = (c 28 9).toInt + ((2 : Nat) : Int) by omega]
      exact h2 2 (by decide)
    exact ⟨by omega, a0, a1, a2⟩
  · rintro ⟨n1, a0, a1, a2⟩
    refine ⟨by rw [hl]; omega, fun i hi => ?_⟩
    rw [hl] at hi
    match i, hi with
    | 0, _ =>
      rw [show (c 28 9).toInt + ((0 : Nat) : Int) = (m 113 16).toInt by omega]
      exact a0
    | 1, _ =>
      rw [show (c 28 9).toInt + ((1 : Nat) : Int) = (m 113 16).toInt + 1 by omega]
      exact a1
    | 2, _ =>
      rw [show (c 28 9).toInt + ((2 : Nat) : Int) = (m 113 16).toInt + 2 by omega]
      exact a2
    | q + 3, h => exact absurd h (by omega)
theorem wd_2 {c m : G} (hs : (c 28 9).toInt = (m 113 16).toInt) (hp : (c 28 10).toInt = (m 113 15).toInt) : Wd c 2 ↔ ((m 113 15).toInt - (m 113 16).toInt = (4 : Int32).toInt ∧ tb c (m 113 16).toInt = (100 : Int32).toInt ∧ tb c ((m 113 16).toInt + 1) = (101 : Int32).toInt ∧ tb c ((m 113 16).toInt + 2) = (101 : Int32).toInt) ∧ (tb c ((m 113 16).toInt + 3) = (100 : Int32).toInt ∧ ((0 : Int32).toInt = 0 ∨ tb c ((m 113 16).toInt + 4) = (0 : Int32).toInt)) := by
  have hl : (z_by 2).length = 4 := rfl
  have Ln : (4 : Int32).toInt = 4 := by decide
  constructor
  · rintro ⟨h1, h2⟩
    rw [hl] at h1
    have a0 : tb c ((m 113 16).toInt) = (100 : Int32).toInt := by
      rw [show (m 113 16).toInt = (c 28 9).toInt + ((0 : Nat) : Int) by omega]
      exact h2 0 (by decide)
    have a1 : tb c ((m 113 16).toInt + 1) = (101 : Int32).toInt := by
      rw [show (m 113 16).toInt + 1 = (c 28 9).toInt + ((1 : Nat) : Int) by omega]
      exact h2 1 (by decide)
    have a2 : tb c ((m 113 16).toInt + 2) = (101 : Int32).toInt := by
      rw [show (m 113 16).toInt + 2 = (c 28 9).toInt + ((2 : Nat) : Int) by omega]
      exact h2 2 (by decide)
    have a3 : tb c ((m 113 16).toInt + 3) = (100 : Int32).toInt := by
      rw [show (m 113 16).toInt + 3 = (c 28 9).toInt + ((3 : Nat) : Int) by omega]
      exact h2 3 (by decide)
    exact ⟨⟨by omega, a0, a1, a2⟩, a3, Or.inl (by decide)⟩
  · rintro ⟨⟨n1, a0, a1, a2⟩, a3, _⟩
    refine ⟨by rw [hl]; omega, fun i hi => ?_⟩
    rw [hl] at hi
    match i, hi with
    | 0, _ =>
      rw [show (c 28 9).toInt + ((0 : Nat) : Int) = (m 113 16).toInt by omega]
      exact a0
    | 1, _ =>
      rw [show (c 28 9).toInt + ((1 : Nat) : Int) = (m 113 16).toInt + 1 by omega]
      exact a1
    | 2, _ =>
      rw [show (c 28 9).toInt + ((2 : Nat) : Int) = (m 113 16).toInt + 2 by omega]
      exact a2
    | 3, _ =>
      rw [show (c 28 9).toInt + ((3 : Nat) : Int) = (m 113 16).toInt + 3 by omega]
      exact a3
    | q + 4, h => exact absurd h (by omega)
theorem wd_3 {c m : G} (hs : (c 28 9).toInt = (m 113 16).toInt) (hp : (c 28 10).toInt = (m 113 15).toInt) : Wd c 3 ↔ ((m 113 15).toInt - (m 113 16).toInt = (4 : Int32).toInt ∧ tb c (m 113 16).toInt = (109 : Int32).toInt ∧ tb c ((m 113 16).toInt + 1) = (117 : Int32).toInt ∧ tb c ((m 113 16).toInt + 2) = (115 : Int32).toInt) ∧ (tb c ((m 113 16).toInt + 3) = (116 : Int32).toInt ∧ ((0 : Int32).toInt = 0 ∨ tb c ((m 113 16).toInt + 4) = (0 : Int32).toInt)) := by
  have hl : (z_by 3).length = 4 := rfl
  have Ln : (4 : Int32).toInt = 4 := by decide
  constructor
  · rintro ⟨h1, h2⟩
    rw [hl] at h1
    have a0 : tb c ((m 113 16).toInt) = (109 : Int32).toInt := by
      rw [show (m 113 16).toInt = (c 28 9).toInt + ((0 : Nat) : Int) by omega]
      exact h2 0 (by decide)
    have a1 : tb c ((m 113 16).toInt + 1) = (117 : Int32).toInt := by
      rw [show (m 113 16).toInt + 1 = (c 28 9).toInt + ((1 : Nat) : Int) by omega]
      exact h2 1 (by decide)
    have a2 : tb c ((m 113 16).toInt + 2) = (115 : Int32).toInt := by
      rw [show (m 113 16).toInt + 2 = (c 28 9).toInt + ((2 : Nat) : Int) by omega]
      exact h2 2 (by decide)
    have a3 : tb c ((m 113 16).toInt + 3) = (116 : Int32).toInt := by
      rw [show (m 113 16).toInt + 3 = (c 28 9).toInt + ((3 : Nat) : Int) by omega]
      exact h2 3 (by decide)
    exact ⟨⟨by omega, a0, a1, a2⟩, a3, Or.inl (by decide)⟩
  · rintro ⟨⟨n1, a0, a1, a2⟩, a3, _⟩
    refine ⟨by rw [hl]; omega, fun i hi => ?_⟩
    rw [hl] at hi
    match i, hi with
    | 0, _ =>
      rw [show (c 28 9).toInt + ((0 : Nat) : Int) = (m 113 16).toInt by omega]
      exact a0
    | 1, _ =>
      rw [show (c 28 9).toInt + ((1 : Nat) : Int) = (m 113 16).toInt + 1 by omega]
      exact a1
    | 2, _ =>
      rw [show (c 28 9).toInt + ((2 : Nat) : Int) = (m 113 16).toInt + 2 by omega]
      exact a2
    | 3, _ =>
      rw [show (c 28 9).toInt + ((3 : Nat) : Int) = (m 113 16).toInt + 3 by omega]
      exact a3
    | q + 4, h => exact absurd h (by omega)
theorem wd_4 {c m : G} (hs : (c 28 9).toInt = (m 113 16).toInt) (hp : (c 28 10).toInt = (m 113 15).toInt) : Wd c 4 ↔ ((m 113 15).toInt - (m 113 16).toInt = (5 : Int32).toInt ∧ tb c (m 113 16).toInt = (110 : Int32).toInt ∧ tb c ((m 113 16).toInt + 1) = (101 : Int32).toInt ∧ tb c ((m 113 16).toInt + 2) = (118 : Int32).toInt) ∧ (tb c ((m 113 16).toInt + 3) = (101 : Int32).toInt ∧ ((114 : Int32).toInt = 0 ∨ tb c ((m 113 16).toInt + 4) = (114 : Int32).toInt)) := by
  have hl : (z_by 4).length = 5 := rfl
  have Ln : (5 : Int32).toInt = 5 := by decide
  constructor
  · rintro ⟨h1, h2⟩
    rw [hl] at h1
    have a0 : tb c ((m 113 16).toInt) = (110 : Int32).toInt := by
      rw [show (m 113 16).toInt = (c 28 9).toInt + ((0 : Nat) : Int) by omega]
      exact h2 0 (by decide)
    have a1 : tb c ((m 113 16).toInt + 1) = (101 : Int32).toInt := by
      rw [show (m 113 16).toInt + 1 = (c 28 9).toInt + ((1 : Nat) : Int) by omega]
      exact h2 1 (by decide)
    have a2 : tb c ((m 113 16).toInt + 2) = (118 : Int32).toInt := by
      rw [show (m 113 16).toInt + 2 = (c 28 9).toInt + ((2 : Nat) : Int) by omega]
      exact h2 2 (by decide)
    have a3 : tb c ((m 113 16).toInt + 3) = (101 : Int32).toInt := by
      rw [show (m 113 16).toInt + 3 = (c 28 9).toInt + ((3 : Nat) : Int) by omega]
      exact h2 3 (by decide)
    have a4 : tb c ((m 113 16).toInt + 4) = (114 : Int32).toInt := by
      rw [show (m 113 16).toInt + 4 = (c 28 9).toInt + ((4 : Nat) : Int) by omega]
      exact h2 4 (by decide)
    exact ⟨⟨by omega, a0, a1, a2⟩, a3, Or.inr a4⟩
  · rintro ⟨⟨n1, a0, a1, a2⟩, a3, a4⟩
    have a4 : tb c ((m 113 16).toInt + 4) = (114 : Int32).toInt := a4.resolve_left (by decide)
    refine ⟨by rw [hl]; omega, fun i hi => ?_⟩
    rw [hl] at hi
    match i, hi with
    | 0, _ =>
      rw [show (c 28 9).toInt + ((0 : Nat) : Int) = (m 113 16).toInt by omega]
      exact a0
    | 1, _ =>
      rw [show (c 28 9).toInt + ((1 : Nat) : Int) = (m 113 16).toInt + 1 by omega]
      exact a1
    | 2, _ =>
      rw [show (c 28 9).toInt + ((2 : Nat) : Int) = (m 113 16).toInt + 2 by omega]
      exact a2
    | 3, _ =>
      rw [show (c 28 9).toInt + ((3 : Nat) : Int) = (m 113 16).toInt + 3 by omega]
      exact a3
    | 4, _ =>
      rw [show (c 28 9).toInt + ((4 : Nat) : Int) = (m 113 16).toInt + 4 by omega]
      exact a4
    | q + 5, h => exact absurd h (by omega)
theorem wd_5 {c m : G} (hs : (c 28 9).toInt = (m 113 16).toInt) (hp : (c 28 10).toInt = (m 113 15).toInt) : Wd c 5 ↔ ((m 113 15).toInt - (m 113 16).toInt = (4 : Int32).toInt ∧ tb c (m 113 16).toInt = (111 : Int32).toInt ∧ tb c ((m 113 16).toInt + 1) = (100 : Int32).toInt ∧ tb c ((m 113 16).toInt + 2) = (100 : Int32).toInt) ∧ (tb c ((m 113 16).toInt + 3) = (115 : Int32).toInt ∧ ((0 : Int32).toInt = 0 ∨ tb c ((m 113 16).toInt + 4) = (0 : Int32).toInt)) := by
  have hl : (z_by 5).length = 4 := rfl
  have Ln : (4 : Int32).toInt = 4 := by decide
  constructor
  · rintro ⟨h1, h2⟩
    rw [hl] at h1
    have a0 : tb c ((m 113 16).toInt) = (111 : Int32).toInt := by
      rw [show (m 113 16).toInt = (c 28 9).toInt + ((0 : Nat) : Int) by omega]
      exact h2 0 (by decide)
    have a1 : tb c ((m 113 16).toInt + 1) = (100 : Int32).toInt := by
      rw [show (m 113 16).toInt + 1 = (c 28 9).toInt + ((1 : Nat) : Int) by omega]
      exact h2 1 (by decide)
    have a2 : tb c ((m 113 16).toInt + 2) = (100 : Int32).toInt := by
      rw [show (m 113 16).toInt + 2 = (c 28 9).toInt + ((2 : Nat) : Int) by omega]
      exact h2 2 (by decide)
    have a3 : tb c ((m 113 16).toInt + 3) = (115 : Int32).toInt := by
      rw [show (m 113 16).toInt + 3 = (c 28 9).toInt + ((3 : Nat) : Int) by omega]
      exact h2 3 (by decide)
    exact ⟨⟨by omega, a0, a1, a2⟩, a3, Or.inl (by decide)⟩
  · rintro ⟨⟨n1, a0, a1, a2⟩, a3, _⟩
    refine ⟨by rw [hl]; omega, fun i hi => ?_⟩
    rw [hl] at hi
    match i, hi with
    | 0, _ =>
      rw [show (c 28 9).toInt + ((0 : Nat) : Int) = (m 113 16).toInt by omega]
      exact a0
    | 1, _ =>
      rw [show (c 28 9).toInt + ((1 : Nat) : Int) = (m 113 16).toInt + 1 by omega]
      exact a1
    | 2, _ =>
      rw [show (c 28 9).toInt + ((2 : Nat) : Int) = (m 113 16).toInt + 2 by omega]
      exact a2
    | 3, _ =>
      rw [show (c 28 9).toInt + ((3 : Nat) : Int) = (m 113 16).toInt + 3 by omega]
      exact a3
    | q + 4, h => exact absurd h (by omega)
theorem wd_6 {c m : G} (hs : (c 28 9).toInt = (m 113 16).toInt) (hp : (c 28 10).toInt = (m 113 15).toInt) : Wd c 6 ↔ ((m 113 15).toInt - (m 113 16).toInt = (5 : Int32).toInt ∧ tb c (m 113 16).toInt = (102 : Int32).toInt ∧ tb c ((m 113 16).toInt + 1) = (111 : Int32).toInt ∧ tb c ((m 113 16).toInt + 2) = (114 : Int32).toInt) ∧ (tb c ((m 113 16).toInt + 3) = (116 : Int32).toInt ∧ ((104 : Int32).toInt = 0 ∨ tb c ((m 113 16).toInt + 4) = (104 : Int32).toInt)) := by
  have hl : (z_by 6).length = 5 := rfl
  have Ln : (5 : Int32).toInt = 5 := by decide
  constructor
  · rintro ⟨h1, h2⟩
    rw [hl] at h1
    have a0 : tb c ((m 113 16).toInt) = (102 : Int32).toInt := by
      rw [show (m 113 16).toInt = (c 28 9).toInt + ((0 : Nat) : Int) by omega]
      exact h2 0 (by decide)
    have a1 : tb c ((m 113 16).toInt + 1) = (111 : Int32).toInt := by
      rw [show (m 113 16).toInt + 1 = (c 28 9).toInt + ((1 : Nat) : Int) by omega]
      exact h2 1 (by decide)
    have a2 : tb c ((m 113 16).toInt + 2) = (114 : Int32).toInt := by
      rw [show (m 113 16).toInt + 2 = (c 28 9).toInt + ((2 : Nat) : Int) by omega]
      exact h2 2 (by decide)
    have a3 : tb c ((m 113 16).toInt + 3) = (116 : Int32).toInt := by
      rw [show (m 113 16).toInt + 3 = (c 28 9).toInt + ((3 : Nat) : Int) by omega]
      exact h2 3 (by decide)
    have a4 : tb c ((m 113 16).toInt + 4) = (104 : Int32).toInt := by
      rw [show (m 113 16).toInt + 4 = (c 28 9).toInt + ((4 : Nat) : Int) by omega]
      exact h2 4 (by decide)
    exact ⟨⟨by omega, a0, a1, a2⟩, a3, Or.inr a4⟩
  · rintro ⟨⟨n1, a0, a1, a2⟩, a3, a4⟩
    have a4 : tb c ((m 113 16).toInt + 4) = (104 : Int32).toInt := a4.resolve_left (by decide)
    refine ⟨by rw [hl]; omega, fun i hi => ?_⟩
    rw [hl] at hi
    match i, hi with
    | 0, _ =>
      rw [show (c 28 9).toInt + ((0 : Nat) : Int) = (m 113 16).toInt by omega]
      exact a0
    | 1, _ =>
      rw [show (c 28 9).toInt + ((1 : Nat) : Int) = (m 113 16).toInt + 1 by omega]
      exact a1
    | 2, _ =>
      rw [show (c 28 9).toInt + ((2 : Nat) : Int) = (m 113 16).toInt + 2 by omega]
      exact a2
    | 3, _ =>
      rw [show (c 28 9).toInt + ((3 : Nat) : Int) = (m 113 16).toInt + 3 by omega]
      exact a3
    | 4, _ =>
      rw [show (c 28 9).toInt + ((4 : Nat) : Int) = (m 113 16).toInt + 4 by omega]
      exact a4
    | q + 5, h => exact absurd h (by omega)
theorem wd_7 {c m : G} (hs : (c 28 9).toInt = (m 113 16).toInt) (hp : (c 28 10).toInt = (m 113 15).toInt) : Wd c 7 ↔ ((m 113 15).toInt - (m 113 16).toInt = (4 : Int32).toInt ∧ tb c (m 113 16).toInt = (98 : Int32).toInt ∧ tb c ((m 113 16).toInt + 1) = (97 : Int32).toInt ∧ tb c ((m 113 16).toInt + 2) = (99 : Int32).toInt) ∧ (tb c ((m 113 16).toInt + 3) = (107 : Int32).toInt ∧ ((0 : Int32).toInt = 0 ∨ tb c ((m 113 16).toInt + 4) = (0 : Int32).toInt)) := by
  have hl : (z_by 7).length = 4 := rfl
  have Ln : (4 : Int32).toInt = 4 := by decide
  constructor
  · rintro ⟨h1, h2⟩
    rw [hl] at h1
    have a0 : tb c ((m 113 16).toInt) = (98 : Int32).toInt := by
      rw [show (m 113 16).toInt = (c 28 9).toInt + ((0 : Nat) : Int) by omega]
      exact h2 0 (by decide)
    have a1 : tb c ((m 113 16).toInt + 1) = (97 : Int32).toInt := by
      rw [show (m 113 16).toInt + 1 = (c 28 9).toInt + ((1 : Nat) : Int) by omega]
      exact h2 1 (by decide)
    have a2 : tb c ((m 113 16).toInt + 2) = (99 : Int32).toInt := by
      rw [show (m 113 16).toInt + 2 = (c 28 9).toInt + ((2 : Nat) : Int) by omega]
      exact h2 2 (by decide)
    have a3 : tb c ((m 113 16).toInt + 3) = (107 : Int32).toInt := by
      rw [show (m 113 16).toInt + 3 = (c 28 9).toInt + ((3 : Nat) : Int) by omega]
      exact h2 3 (by decide)
    exact ⟨⟨by omega, a0, a1, a2⟩, a3, Or.inl (by decide)⟩
  · rintro ⟨⟨n1, a0, a1, a2⟩, a3, _⟩
    refine ⟨by rw [hl]; omega, fun i hi => ?_⟩
    rw [hl] at hi
    match i, hi with
    | 0, _ =>
      rw [show (c 28 9).toInt + ((0 : Nat) : Int) = (m 113 16).toInt by omega]
      exact a0
    | 1, _ =>
      rw [show (c 28 9).toInt + ((1 : Nat) : Int) = (m 113 16).toInt + 1 by omega]
      exact a1
    | 2, _ =>
      rw [show (c 28 9).toInt + ((2 : Nat) : Int) = (m 113 16).toInt + 2 by omega]
      exact a2
    | 3, _ =>
      rw [show (c 28 9).toInt + ((3 : Nat) : Int) = (m 113 16).toInt + 3 by omega]
      exact a3
    | q + 4, h => exact absurd h (by omega)
theorem wd_8 {c m : G} (hs : (c 28 9).toInt = (m 113 16).toInt) (hp : (c 28 10).toInt = (m 113 15).toInt) : Wd c 8 ↔ ((m 113 15).toInt - (m 113 16).toInt = (5 : Int32).toInt ∧ tb c (m 113 16).toInt = (111 : Int32).toInt ∧ tb c ((m 113 16).toInt + 1) = (116 : Int32).toInt ∧ tb c ((m 113 16).toInt + 2) = (104 : Int32).toInt) ∧ (tb c ((m 113 16).toInt + 3) = (101 : Int32).toInt ∧ ((114 : Int32).toInt = 0 ∨ tb c ((m 113 16).toInt + 4) = (114 : Int32).toInt)) := by
  have hl : (z_by 8).length = 5 := rfl
  have Ln : (5 : Int32).toInt = 5 := by decide
  constructor
  · rintro ⟨h1, h2⟩
    rw [hl] at h1
    have a0 : tb c ((m 113 16).toInt) = (111 : Int32).toInt := by
      rw [show (m 113 16).toInt = (c 28 9).toInt + ((0 : Nat) : Int) by omega]
      exact h2 0 (by decide)
    have a1 : tb c ((m 113 16).toInt + 1) = (116 : Int32).toInt := by
      rw [show (m 113 16).toInt + 1 = (c 28 9).toInt + ((1 : Nat) : Int) by omega]
      exact h2 1 (by decide)
    have a2 : tb c ((m 113 16).toInt + 2) = (104 : Int32).toInt := by
      rw [show (m 113 16).toInt + 2 = (c 28 9).toInt + ((2 : Nat) : Int) by omega]
      exact h2 2 (by decide)
    have a3 : tb c ((m 113 16).toInt + 3) = (101 : Int32).toInt := by
      rw [show (m 113 16).toInt + 3 = (c 28 9).toInt + ((3 : Nat) : Int) by omega]
      exact h2 3 (by decide)
    have a4 : tb c ((m 113 16).toInt + 4) = (114 : Int32).toInt := by
      rw [show (m 113 16).toInt + 4 = (c 28 9).toInt + ((4 : Nat) : Int) by omega]
      exact h2 4 (by decide)
    exact ⟨⟨by omega, a0, a1, a2⟩, a3, Or.inr a4⟩
  · rintro ⟨⟨n1, a0, a1, a2⟩, a3, a4⟩
    have a4 : tb c ((m 113 16).toInt + 4) = (114 : Int32).toInt := a4.resolve_left (by decide)
    refine ⟨by rw [hl]; omega, fun i hi => ?_⟩
    rw [hl] at hi
    match i, hi with
    | 0, _ =>
      rw [show (c 28 9).toInt + ((0 : Nat) : Int) = (m 113 16).toInt by omega]
      exact a0
    | 1, _ =>
      rw [show (c 28 9).toInt + ((1 : Nat) : Int) = (m 113 16).toInt + 1 by omega]
      exact a1
    | 2, _ =>
      rw [show (c 28 9).toInt + ((2 : Nat) : Int) = (m 113 16).toInt + 2 by omega]
      exact a2
    | 3, _ =>
      rw [show (c 28 9).toInt + ((3 : Nat) : Int) = (m 113 16).toInt + 3 by omega]
      exact a3
    | 4, _ =>
      rw [show (c 28 9).toInt + ((4 : Nat) : Int) = (m 113 16).toInt + 4 by omega]
      exact a4
    | q + 5, h => exact absurd h (by omega)
theorem t_117_95 {c m : G} {v : Int32} (hA : RA c m) (h0 : 0 ≤ (m 113 16).toInt) (h1 : (m 113 16).toInt ≤ (m 113 15).toInt) (h2 : (m 113 15).toInt ≤ 160) (hs : (c 28 9).toInt = (m 113 16).toInt) (hp : (c 28 10).toInt = (m 113 15).toInt) (e : d_117_95 m = some v) : (Wd c 4 ∧ v.toInt = 4) ∨ (¬ Wd c 4 ∧ Wd c 5 ∧ v.toInt = 5) ∨ (¬ Wd c 4 ∧ ¬ Wd c 5 ∧ v.toInt = -4) := by
  unfold d_117_95 at e
  replace e := zb_bind e
  obtain ⟨v9, hvv9, e⟩ := e
  have bv9 := t_115 hA h0 h1 h2 hvv9
  replace e := zb_if e
  rcases e with ⟨hc10, e⟩ | ⟨hc10, e⟩
  · skip
    have i4 := bv9.mp hc10
    replace e := zb_bind e
    obtain ⟨v15, hvv15, e⟩ := e
    have bv15 := t_116 hA h0 (by omega) hvv15
    replace e := zb_if e
    rcases e with ⟨hc16, e⟩ | ⟨hc16, e⟩
    · skip
      have y4 := (wd_4 hs hp).mpr ⟨i4, bv15.mp hc16⟩
      have e1 := zb_r1 e
      subst e1
      exact (Or.inl ⟨y4, by decide⟩)
    · skip
      have n4 : ¬ Wd c 4 := fun q => zd_no bv15 hc16 ((wd_4 hs hp).mp q).2
      replace e := zb_bind e
      obtain ⟨v17, hvv17, e⟩ := e
      have bv17 := t_115 hA h0 h1 h2 hvv17
      replace e := zb_if e
      rcases e with ⟨hc18, e⟩ | ⟨hc18, e⟩
      · skip
        have i5 := bv17.mp hc18
        replace e := zb_bind e
        obtain ⟨v19, hvv19, e⟩ := e
        have bv19 := t_116 hA h0 (by omega) hvv19
        replace e := zb_if e
        rcases e with ⟨hc20, e⟩ | ⟨hc20, e⟩
        · skip
          have y5 := (wd_5 hs hp).mpr ⟨i5, bv19.mp hc20⟩
          have e1 := zb_r1 e
          subst e1
          exact (Or.inr (Or.inl ⟨n4, y5, by decide⟩))
        · skip
          have n5 : ¬ Wd c 5 := fun q => zd_no bv19 hc20 ((wd_5 hs hp).mp q).2
          have e1 := zb_r1 e
          subst e1
          exact (Or.inr (Or.inr ⟨n4, n5, by decide⟩))
      · skip
        have n5 : ¬ Wd c 5 := fun q => zd_no bv17 hc18 ((wd_5 hs hp).mp q).1
        have e1 := zb_r1 e
        subst e1
        exact (Or.inr (Or.inr ⟨n4, n5, by decide⟩))
  · skip
    have n4 : ¬ Wd c 4 := fun q => zd_no bv9 hc10 ((wd_4 hs hp).mp q).1
    replace e := zb_bind e
    obtain ⟨v11, hvv11, e⟩ := e
    have bv11 := t_115 hA h0 h1 h2 hvv11
    replace e := zb_if e
    rcases e with ⟨hc12, e⟩ | ⟨hc12, e⟩
    · skip
      have i5 := bv11.mp hc12
      replace e := zb_bind e
      obtain ⟨v13, hvv13, e⟩ := e
      have bv13 := t_116 hA h0 (by omega) hvv13
      replace e := zb_if e
      rcases e with ⟨hc14, e⟩ | ⟨hc14, e⟩
      · skip
        have y5 := (wd_5 hs hp).mpr ⟨i5, bv13.mp hc14⟩
        have e1 := zb_r1 e
        subst e1
        exact (Or.inr (Or.inl ⟨n4, y5, by decide⟩))
      · skip
        have n5 : ¬ Wd c 5 := fun q => zd_no bv13 hc14 ((wd_5 hs hp).mp q).2
        have e1 := zb_r1 e
        subst e1
        exact (Or.inr (Or.inr ⟨n4, n5, by decide⟩))
    · skip
      have n5 : ¬ Wd c 5 := fun q => zd_no bv11 hc12 ((wd_5 hs hp).mp q).1
      have e1 := zb_r1 e
      subst e1
      exact (Or.inr (Or.inr ⟨n4, n5, by decide⟩))
theorem t_117_27 {c m : G} {v : Int32} (hA : RA c m) (h0 : 0 ≤ (m 113 16).toInt) (h1 : (m 113 16).toInt ≤ (m 113 15).toInt) (h2 : (m 113 15).toInt ≤ 160) (hs : (c 28 9).toInt = (m 113 16).toInt) (hp : (c 28 10).toInt = (m 113 15).toInt) (e : d_117_27 m = some v) : (Wd c 1 ∧ v.toInt = 1) ∨ (¬ Wd c 1 ∧ Wd c 2 ∧ v.toInt = 2) ∨ (¬ Wd c 1 ∧ ¬ Wd c 2 ∧ Wd c 3 ∧ v.toInt = 3) ∨ (¬ Wd c 1 ∧ ¬ Wd c 2 ∧ ¬ Wd c 3 ∧ Wd c 4 ∧ v.toInt = 4) ∨ (¬ Wd c 1 ∧ ¬ Wd c 2 ∧ ¬ Wd c 3 ∧ ¬ Wd c 4 ∧ Wd c 5 ∧ v.toInt = 5) ∨ (¬ Wd c 1 ∧ ¬ Wd c 2 ∧ ¬ Wd c 3 ∧ ¬ Wd c 4 ∧ ¬ Wd c 5 ∧ v.toInt = -4) := by
  unfold d_117_27 at e
  replace e := zb_bind e
  obtain ⟨v3, hvv3, e⟩ := e
  have bv3 := t_115 hA h0 h1 h2 hvv3
  replace e := zb_if e
  rcases e with ⟨hc4, e⟩ | ⟨hc4, e⟩
  · skip
    have y1 := (wd_1 hs hp).mpr (bv3.mp hc4)
    have e1 := zb_r1 e
    subst e1
    exact (Or.inl ⟨y1, by decide⟩)
  · skip
    have n1 : ¬ Wd c 1 := fun q => zd_no bv3 hc4 ((wd_1 hs hp).mp q)
    replace e := zb_bind e
    obtain ⟨v5, hvv5, e⟩ := e
    have bv5 := t_115 hA h0 h1 h2 hvv5
    replace e := zb_if e
    rcases e with ⟨hc6, e⟩ | ⟨hc6, e⟩
    · skip
      have i2 := bv5.mp hc6
      replace e := zb_bind e
      obtain ⟨v23, hvv23, e⟩ := e
      have bv23 := t_116 hA h0 (by omega) hvv23
      replace e := zb_if e
      rcases e with ⟨hc24, e⟩ | ⟨hc24, e⟩
      · skip
        have y2 := (wd_2 hs hp).mpr ⟨i2, bv23.mp hc24⟩
        have e1 := zb_r1 e
        subst e1
        exact (Or.inr (Or.inl ⟨n1, y2, by decide⟩))
      · skip
        have n2 : ¬ Wd c 2 := fun q => zd_no bv23 hc24 ((wd_2 hs hp).mp q).2
        replace e := zb_bind e
        obtain ⟨v25, hvv25, e⟩ := e
        have bv25 := t_115 hA h0 h1 h2 hvv25
        replace e := zb_if e
        rcases e with ⟨hc26, e⟩ | ⟨hc26, e⟩
        · skip
          have i3 := bv25.mp hc26
          replace e := zb_bind e
          obtain ⟨v27, hvv27, e⟩ := e
          have bv27 := t_116 hA h0 (by omega) hvv27
          replace e := zb_if e
          rcases e with ⟨hc28, e⟩ | ⟨hc28, e⟩
          · skip
            have y3 := (wd_3 hs hp).mpr ⟨i3, bv27.mp hc28⟩
            have e1 := zb_r1 e
            subst e1
            exact (Or.inr (Or.inr (Or.inl ⟨n1, n2, y3, by decide⟩)))
          · skip
            have n3 : ¬ Wd c 3 := fun q => zd_no bv27 hc28 ((wd_3 hs hp).mp q).2
            have r := t_117_95 hA h0 h1 h2 hs hp e
            rcases r with r | r | r
            · exact (Or.inr (Or.inr (Or.inr (Or.inl ⟨n1, n2, n3, r⟩))))
            · exact (Or.inr (Or.inr (Or.inr (Or.inr (Or.inl ⟨n1, n2, n3, r⟩)))))
            · exact (Or.inr (Or.inr (Or.inr (Or.inr (Or.inr ⟨n1, n2, n3, r⟩)))))
        · skip
          have n3 : ¬ Wd c 3 := fun q => zd_no bv25 hc26 ((wd_3 hs hp).mp q).1
          have r := t_117_95 hA h0 h1 h2 hs hp e
          rcases r with r | r | r
          · exact (Or.inr (Or.inr (Or.inr (Or.inl ⟨n1, n2, n3, r⟩))))
          · exact (Or.inr (Or.inr (Or.inr (Or.inr (Or.inl ⟨n1, n2, n3, r⟩)))))
          · exact (Or.inr (Or.inr (Or.inr (Or.inr (Or.inr ⟨n1, n2, n3, r⟩)))))
    · skip
      have n2 : ¬ Wd c 2 := fun q => zd_no bv5 hc6 ((wd_2 hs hp).mp q).1
      replace e := zb_bind e
      obtain ⟨v7, hvv7, e⟩ := e
      have bv7 := t_115 hA h0 h1 h2 hvv7
      replace e := zb_if e
      rcases e with ⟨hc8, e⟩ | ⟨hc8, e⟩
      · skip
        have i3 := bv7.mp hc8
        replace e := zb_bind e
        obtain ⟨v21, hvv21, e⟩ := e
        have bv21 := t_116 hA h0 (by omega) hvv21
        replace e := zb_if e
        rcases e with ⟨hc22, e⟩ | ⟨hc22, e⟩
        · skip
          have y3 := (wd_3 hs hp).mpr ⟨i3, bv21.mp hc22⟩
          have e1 := zb_r1 e
          subst e1
          exact (Or.inr (Or.inr (Or.inl ⟨n1, n2, y3, by decide⟩)))
        · skip
          have n3 : ¬ Wd c 3 := fun q => zd_no bv21 hc22 ((wd_3 hs hp).mp q).2
          have r := t_117_95 hA h0 h1 h2 hs hp e
          rcases r with r | r | r
          · exact (Or.inr (Or.inr (Or.inr (Or.inl ⟨n1, n2, n3, r⟩))))
          · exact (Or.inr (Or.inr (Or.inr (Or.inr (Or.inl ⟨n1, n2, n3, r⟩)))))
          · exact (Or.inr (Or.inr (Or.inr (Or.inr (Or.inr ⟨n1, n2, n3, r⟩)))))
      · skip
        have n3 : ¬ Wd c 3 := fun q => zd_no bv7 hc8 ((wd_3 hs hp).mp q).1
        have r := t_117_95 hA h0 h1 h2 hs hp e
        rcases r with r | r | r
        · exact (Or.inr (Or.inr (Or.inr (Or.inl ⟨n1, n2, n3, r⟩))))
        · exact (Or.inr (Or.inr (Or.inr (Or.inr (Or.inl ⟨n1, n2, n3, r⟩)))))
        · exact (Or.inr (Or.inr (Or.inr (Or.inr (Or.inr ⟨n1, n2, n3, r⟩)))))
theorem t_117 {c m : G} {v : Int32} (hA : RA c m) (h0 : 0 ≤ (m 113 16).toInt) (h1 : (m 113 16).toInt ≤ (m 113 15).toInt) (h2 : (m 113 15).toInt ≤ 160) (hs : (c 28 9).toInt = (m 113 16).toInt) (hp : (c 28 10).toInt = (m 113 15).toInt) (e : d_117 m = some v) : (Wd c 0 ∧ v.toInt = 0) ∨ (¬ Wd c 0 ∧ Wd c 1 ∧ v.toInt = 1) ∨ (¬ Wd c 0 ∧ ¬ Wd c 1 ∧ Wd c 2 ∧ v.toInt = 2) ∨ (¬ Wd c 0 ∧ ¬ Wd c 1 ∧ ¬ Wd c 2 ∧ Wd c 3 ∧ v.toInt = 3) ∨ (¬ Wd c 0 ∧ ¬ Wd c 1 ∧ ¬ Wd c 2 ∧ ¬ Wd c 3 ∧ Wd c 4 ∧ v.toInt = 4) ∨ (¬ Wd c 0 ∧ ¬ Wd c 1 ∧ ¬ Wd c 2 ∧ ¬ Wd c 3 ∧ ¬ Wd c 4 ∧ Wd c 5 ∧ v.toInt = 5) ∨ (¬ Wd c 0 ∧ ¬ Wd c 1 ∧ ¬ Wd c 2 ∧ ¬ Wd c 3 ∧ ¬ Wd c 4 ∧ ¬ Wd c 5 ∧ v.toInt = -4) := by
  unfold d_117 at e
  replace e := zb_bind e
  obtain ⟨v1, hvv1, e⟩ := e
  have bv1 := t_115 hA h0 h1 h2 hvv1
  replace e := zb_if e
  rcases e with ⟨hc2, e⟩ | ⟨hc2, e⟩
  · skip
    have i0 := bv1.mp hc2
    replace e := zb_bind e
    obtain ⟨v29, hvv29, e⟩ := e
    have bv29 := t_116 hA h0 (by omega) hvv29
    replace e := zb_if e
    rcases e with ⟨hc30, e⟩ | ⟨hc30, e⟩
    · skip
      have y0 := (wd_0 hs hp).mpr ⟨i0, bv29.mp hc30⟩
      have e1 := zb_r1 e
      subst e1
      exact (Or.inl ⟨y0, by decide⟩)
    · skip
      have n0 : ¬ Wd c 0 := fun q => zd_no bv29 hc30 ((wd_0 hs hp).mp q).2
      have r := t_117_27 hA h0 h1 h2 hs hp e
      rcases r with r | r | r | r | r | r
      · exact (Or.inr (Or.inl ⟨n0, r⟩))
      · exact (Or.inr (Or.inr (Or.inl ⟨n0, r⟩)))
      · exact (Or.inr (Or.inr (Or.inr (Or.inl ⟨n0, r⟩))))
      · exact (Or.inr (Or.inr (Or.inr (Or.inr (Or.inl ⟨n0, r⟩)))))
      · exact (Or.inr (Or.inr (Or.inr (Or.inr (Or.inr (Or.inl ⟨n0, r⟩))))))
      · exact (Or.inr (Or.inr (Or.inr (Or.inr (Or.inr (Or.inr ⟨n0, r⟩))))))
  · skip
    have n0 : ¬ Wd c 0 := fun q => zd_no bv1 hc2 ((wd_0 hs hp).mp q).1
    have r := t_117_27 hA h0 h1 h2 hs hp e
    rcases r with r | r | r | r | r | r
    · exact (Or.inr (Or.inl ⟨n0, r⟩))
    · exact (Or.inr (Or.inr (Or.inl ⟨n0, r⟩)))
    · exact (Or.inr (Or.inr (Or.inr (Or.inl ⟨n0, r⟩))))
    · exact (Or.inr (Or.inr (Or.inr (Or.inr (Or.inl ⟨n0, r⟩)))))
    · exact (Or.inr (Or.inr (Or.inr (Or.inr (Or.inr (Or.inl ⟨n0, r⟩))))))
    · exact (Or.inr (Or.inr (Or.inr (Or.inr (Or.inr (Or.inr ⟨n0, r⟩))))))
theorem t_118_27 {c m : G} {v : Int32} (hA : RA c m) (h0 : 0 ≤ (m 113 16).toInt) (h1 : (m 113 16).toInt ≤ (m 113 15).toInt) (h2 : (m 113 15).toInt ≤ 160) (hs : (c 28 9).toInt = (m 113 16).toInt) (hp : (c 28 10).toInt = (m 113 15).toInt) (e : d_118_27 m = some v) : (Wd c 7 ∧ v.toInt = 1) ∨ (¬ Wd c 7 ∧ Wd c 8 ∧ v.toInt = 2) ∨ (¬ Wd c 7 ∧ ¬ Wd c 8 ∧ v.toInt = -4) := by
  unfold d_118_27 at e
  replace e := zb_bind e
  obtain ⟨v3, hvv3, e⟩ := e
  have bv3 := t_115 hA h0 h1 h2 hvv3
  replace e := zb_if e
  rcases e with ⟨hc4, e⟩ | ⟨hc4, e⟩
  · skip
    have i7 := bv3.mp hc4
    replace e := zb_bind e
    obtain ⟨v9, hvv9, e⟩ := e
    have bv9 := t_116 hA h0 (by omega) hvv9
    replace e := zb_if e
    rcases e with ⟨hc10, e⟩ | ⟨hc10, e⟩
    · skip
      have y7 := (wd_7 hs hp).mpr ⟨i7, bv9.mp hc10⟩
      have e1 := zb_r1 e
      subst e1
      exact (Or.inl ⟨y7, by decide⟩)
    · skip
      have n7 : ¬ Wd c 7 := fun q => zd_no bv9 hc10 ((wd_7 hs hp).mp q).2
      replace e := zb_bind e
      obtain ⟨v11, hvv11, e⟩ := e
      have bv11 := t_115 hA h0 h1 h2 hvv11
      replace e := zb_if e
      rcases e with ⟨hc12, e⟩ | ⟨hc12, e⟩
      · skip
        have i8 := bv11.mp hc12
        replace e := zb_bind e
        obtain ⟨v13, hvv13, e⟩ := e
        have bv13 := t_116 hA h0 (by omega) hvv13
        replace e := zb_if e
        rcases e with ⟨hc14, e⟩ | ⟨hc14, e⟩
        · skip
          have y8 := (wd_8 hs hp).mpr ⟨i8, bv13.mp hc14⟩
          have e1 := zb_r1 e
          subst e1
          exact (Or.inr (Or.inl ⟨n7, y8, by decide⟩))
        · skip
          have n8 : ¬ Wd c 8 := fun q => zd_no bv13 hc14 ((wd_8 hs hp).mp q).2
          have e1 := zb_r1 e
          subst e1
          exact (Or.inr (Or.inr ⟨n7, n8, by decide⟩))
      · skip
        have n8 : ¬ Wd c 8 := fun q => zd_no bv11 hc12 ((wd_8 hs hp).mp q).1
        have e1 := zb_r1 e
        subst e1
        exact (Or.inr (Or.inr ⟨n7, n8, by decide⟩))
  · skip
    have n7 : ¬ Wd c 7 := fun q => zd_no bv3 hc4 ((wd_7 hs hp).mp q).1
    replace e := zb_bind e
    obtain ⟨v5, hvv5, e⟩ := e
    have bv5 := t_115 hA h0 h1 h2 hvv5
    replace e := zb_if e
    rcases e with ⟨hc6, e⟩ | ⟨hc6, e⟩
    · skip
      have i8 := bv5.mp hc6
      replace e := zb_bind e
      obtain ⟨v7, hvv7, e⟩ := e
      have bv7 := t_116 hA h0 (by omega) hvv7
      replace e := zb_if e
      rcases e with ⟨hc8, e⟩ | ⟨hc8, e⟩
      · skip
        have y8 := (wd_8 hs hp).mpr ⟨i8, bv7.mp hc8⟩
        have e1 := zb_r1 e
        subst e1
        exact (Or.inr (Or.inl ⟨n7, y8, by decide⟩))
      · skip
        have n8 : ¬ Wd c 8 := fun q => zd_no bv7 hc8 ((wd_8 hs hp).mp q).2
        have e1 := zb_r1 e
        subst e1
        exact (Or.inr (Or.inr ⟨n7, n8, by decide⟩))
    · skip
      have n8 : ¬ Wd c 8 := fun q => zd_no bv5 hc6 ((wd_8 hs hp).mp q).1
      have e1 := zb_r1 e
      subst e1
      exact (Or.inr (Or.inr ⟨n7, n8, by decide⟩))
theorem t_118 {c m : G} {v : Int32} (hA : RA c m) (h0 : 0 ≤ (m 113 16).toInt) (h1 : (m 113 16).toInt ≤ (m 113 15).toInt) (h2 : (m 113 15).toInt ≤ 160) (hs : (c 28 9).toInt = (m 113 16).toInt) (hp : (c 28 10).toInt = (m 113 15).toInt) (e : d_118 m = some v) : (Wd c 6 ∧ v.toInt = 0) ∨ (¬ Wd c 6 ∧ Wd c 7 ∧ v.toInt = 1) ∨ (¬ Wd c 6 ∧ ¬ Wd c 7 ∧ Wd c 8 ∧ v.toInt = 2) ∨ (¬ Wd c 6 ∧ ¬ Wd c 7 ∧ ¬ Wd c 8 ∧ v.toInt = -4) := by
  unfold d_118 at e
  replace e := zb_bind e
  obtain ⟨v1, hvv1, e⟩ := e
  have bv1 := t_115 hA h0 h1 h2 hvv1
  replace e := zb_if e
  rcases e with ⟨hc2, e⟩ | ⟨hc2, e⟩
  · skip
    have i6 := bv1.mp hc2
    replace e := zb_bind e
    obtain ⟨v15, hvv15, e⟩ := e
    have bv15 := t_116 hA h0 (by omega) hvv15
    replace e := zb_if e
    rcases e with ⟨hc16, e⟩ | ⟨hc16, e⟩
    · skip
      have y6 := (wd_6 hs hp).mpr ⟨i6, bv15.mp hc16⟩
      have e1 := zb_r1 e
      subst e1
      exact (Or.inl ⟨y6, by decide⟩)
    · skip
      have n6 : ¬ Wd c 6 := fun q => zd_no bv15 hc16 ((wd_6 hs hp).mp q).2
      have r := t_118_27 hA h0 h1 h2 hs hp e
      rcases r with r | r | r
      · exact (Or.inr (Or.inl ⟨n6, r⟩))
      · exact (Or.inr (Or.inr (Or.inl ⟨n6, r⟩)))
      · exact (Or.inr (Or.inr (Or.inr ⟨n6, r⟩)))
  · skip
    have n6 : ¬ Wd c 6 := fun q => zd_no bv1 hc2 ((wd_6 hs hp).mp q).1
    have r := t_118_27 hA h0 h1 h2 hs hp e
    rcases r with r | r | r
    · exact (Or.inr (Or.inl ⟨n6, r⟩))
    · exact (Or.inr (Or.inr (Or.inl ⟨n6, r⟩)))
    · exact (Or.inr (Or.inr (Or.inr ⟨n6, r⟩)))
