/-! rows filled, rows copied -/
theorem l_47_12 {r0 : Nat} : ∀ (f : Nat) (x : Int32) (n : Nat) (g g' : G), x.toInt = n → d_47_12 r0 f x g = some g' → (∀ r k, ¬ (r = r0 + 1 ∧ n ≤ k ∧ k < 40) → g' r k = g r k) ∧ ∀ k, n ≤ k → k < 40 → g' (r0 + 1) k = 0 := by
  intro f
  induction f with
  | zero =>
    intro x n g g' hx e
    rw [d_47_12.eq_1] at e
    cases e
  | succ f ih =>
    intro x n g g' hx e
    rw [d_47_12.eq_2] at e
    have L40 := zl_40
    have L1 := zl_1
    replace e := zb_if e
    rcases e with ⟨hc, e⟩ | ⟨hc, e⟩
    · have c1 := zc_geT hc
      have e1 := zb_r1 e
      subst e1
      exact ⟨fun r k _ => rfl, fun k h1 h2 => by omega⟩
    · have c1 := zc_geF hc
      replace e := zb_bind e
      obtain ⟨k5, hk, e⟩ := e
      have bk := zm_ix_ko hk
      replace e := zb_let e
      obtain ⟨g4, hg, e⟩ := e
      have hy := zi_add (x := x) (y := 1) (by omega) (by omega)
      obtain ⟨i1, i2⟩ := ih (x + 1) (n + 1) g4 g' (by omega) e
      refine ⟨fun r k hn => (i1 r k (by omega)).trans (zg_fr hg r k (by omega)), fun k h1 h2 => ?_⟩
      by_cases hh : k = n
      · obtain rfl : k5 = k := by omega
        rw [i1 (r0 + 1) k5 (by omega), ← hg]
        exact zg_ue
      · exact i2 k (by omega) h2
theorem l_184_40 {x1 : Int32} {q : Nat} (hx1 : x1.toInt = q) (hq : q < 4) : ∀ (f : Nat) (x : Int32) (n : Nat) (g g' : G) (v : Int32), x.toInt = n → d_184_40 x1 f x g = some (v, g') → v = 1 ∧ (∀ r k, ¬ (r = 121 ∧ 40 * q + n ≤ k ∧ k < 40 * q + 40) → g' r k = g r k) ∧ ∀ k, n ≤ k → k < 40 → g' 121 (40 * q + k) = 0 := by
  intro f
  induction f with
  | zero =>
    intro x n g g' v hx e
    rw [d_184_40.eq_1] at e
    cases e
  | succ f ih =>
    intro x n g g' v hx e
    rw [d_184_40.eq_2] at e
    have L40 := zl_40
    have L1 := zl_1
    replace e := zb_if e
    rcases e with ⟨hc, e⟩ | ⟨hc, e⟩
    · have c1 := zc_geT hc
      obtain ⟨e1, e2⟩ := zb_r2 e
      subst e1
      subst e2
      exact ⟨rfl, fun r k _ => rfl, fun k h1 h2 => by omega⟩
    · have c1 := zc_geF hc
      have y1 := zi_mul (x := 40) (y := x1) (n := 40) (by decide) (by omega) (by omega)
      have y2 := zi_add (x := 40 * x1) (y := x) (by omega) (by omega)
      replace e := zb_bind e
      obtain ⟨k5, hk, e⟩ := e
      have bk := zm_ix_ko hk
      replace e := zb_let e
      obtain ⟨g4, hg, e⟩ := e
      have hy := zi_add (x := x) (y := 1) (by omega) (by omega)
      obtain ⟨i0, i1, i2⟩ := ih (x + 1) (n + 1) g4 g' v (by omega) e
      refine ⟨i0, fun r k hn => (i1 r k (by omega)).trans (zg_fr hg r k (by omega)), fun k h1 h2 => ?_⟩
      by_cases hh : k = n
      · obtain rfl : k5 = 40 * q + k := by omega
        rw [i1 121 (40 * q + k) (by omega), ← hg]
        exact zg_ue
      · exact i2 k (by omega) h2
/-- a DEED's row -/
theorem t_13 {r0 r1 : Nat} {g g' : G} (hn : r0 ≠ r1) (e : d_13 r0 r1 g = g') : (∀ r k, ¬ (r = r0 ∧ k < 7) → g' r k = g r k) ∧ ∀ j, j < 7 → g' r0 j = g r1 j := by
  unfold d_13 at e
  replace e := zb_let e
  obtain ⟨g1, h1, e⟩ := e
  replace e := zb_let e
  obtain ⟨g2, h2, e⟩ := e
  replace e := zb_let e
  obtain ⟨g3, h3, e⟩ := e
  replace e := zb_let e
  obtain ⟨g4, h4, e⟩ := e
  replace e := zb_let e
  obtain ⟨g5, h5, e⟩ := e
  replace e := zb_let e
  obtain ⟨g6, h6, e⟩ := e
  replace e := zb_let e
  obtain ⟨g7, h7, e⟩ := e
  subst e
  have a1 := zg_fr h1
  have a2 := zg_fr h2
  have a3 := zg_fr h3
  have a4 := zg_fr h4
  have a5 := zg_fr h5
  have a6 := zg_fr h6
  have a7 := zg_fr h7
  have s1 : g1 r0 0 = g r1 0 := by rw [← h1]; exact zg_ue
  have s2 : g2 r0 1 = g1 r1 1 := by rw [← h2]; exact zg_ue
  have s3 : g3 r0 2 = g2 r1 2 := by rw [← h3]; exact zg_ue
  have s4 : g4 r0 3 = g3 r1 3 := by rw [← h4]; exact zg_ue
  have s5 : g5 r0 4 = g4 r1 4 := by rw [← h5]; exact zg_ue
  have s6 : g6 r0 5 = g5 r1 5 := by rw [← h6]; exact zg_ue
  have s7 : g7 r0 6 = g6 r1 6 := by rw [← h7]; exact zg_ue
  constructor
  · intro r k hr
    rw [a7 r k (by omega), a6 r k (by omega), a5 r k (by omega), a4 r k (by omega), a3 r k (by omega), a2 r k (by omega), a1 r k (by omega)]
  · intro j hj
    match j, hj with
    | 0, _ => rw [a7 _ _ (by omega), a6 _ _ (by omega), a5 _ _ (by omega), a4 _ _ (by omega), a3 _ _ (by omega), a2 _ _ (by omega), s1]
    | 1, _ => rw [a7 _ _ (by omega), a6 _ _ (by omega), a5 _ _ (by omega), a4 _ _ (by omega), a3 _ _ (by omega), s2, a1 _ _ (by omega)]
    | 2, _ => rw [a7 _ _ (by omega), a6 _ _ (by omega), a5 _ _ (by omega), a4 _ _ (by omega), s3, a2 _ _ (by omega), a1 _ _ (by omega)]
    | 3, _ => rw [a7 _ _ (by omega), a6 _ _ (by omega), a5 _ _ (by omega), s4, a3 _ _ (by omega), a2 _ _ (by omega), a1 _ _ (by omega)]
    | 4, _ => rw [a7 _ _ (by omega), a6 _ _ (by omega), s5, a4 _ _ (by omega), a3 _ _ (by omega), a2 _ _ (by omega), a1 _ _ (by omega)]
    | 5, _ => rw [a7 _ _ (by omega), s6, a5 _ _ (by omega), a4 _ _ (by omega), a3 _ _ (by omega), a2 _ _ (by omega), a1 _ _ (by omega)]
    | 6, _ => rw [s7, a6 _ _ (by omega), a5 _ _ (by omega), a4 _ _ (by omega), a3 _ _ (by omega), a2 _ _ (by omega), a1 _ _ (by omega)]
    | j + 7, h => exact absurd h (by omega)
/-- SEEN -/
theorem l_17_112 {r0 r1 : Nat} (hd : r0 + 24 ≤ r1 ∨ r1 + 24 ≤ r0) : ∀ (f : Nat) (x : Int32) (n : Nat) (g g' : G), x.toInt = n → d_17_112 r0 r1 f x g = some g' → (∀ r k, ¬ (r0 + 16 + n ≤ r ∧ r < r0 + 24 ∧ k < 4) → g' r k = g r k) ∧ ∀ i j, n ≤ i → i < 8 → j < 4 → g' (r0 + 16 + i) j = g (r1 + 16 + i) j := by
  intro f
  induction f with
  | zero =>
    intro x n g g' hx e
    rw [d_17_112.eq_1] at e
    cases e
  | succ f ih =>
    intro x n g g' hx e
    rw [d_17_112.eq_2] at e
    have L8 := zl_8
    have L1 := zl_1
    replace e := zb_if e
    rcases e with ⟨hc, e⟩ | ⟨hc, e⟩
    · have c1 := zc_geT hc
      have e1 := zb_r1 e
      subst e1
      exact ⟨fun r k _ => rfl, fun i j h1 h2 _ => by omega⟩
    · have c1 := zc_geF hc
      replace e := zb_bind e
      obtain ⟨k8, hk8, e⟩ := e
      replace e := zb_bind e
      obtain ⟨k9, hk9, e⟩ := e
      replace e := zb_let e
      obtain ⟨g10, h10, e⟩ := e
      replace e := zb_bind e
      obtain ⟨k11, hk11, e⟩ := e
      replace e := zb_bind e
      obtain ⟨k12, hk12, e⟩ := e
      replace e := zb_let e
      obtain ⟨g13, h13, e⟩ := e
      replace e := zb_bind e
      obtain ⟨k14, hk14, e⟩ := e
      replace e := zb_bind e
      obtain ⟨k15, hk15, e⟩ := e
      replace e := zb_let e
      obtain ⟨g16, h16, e⟩ := e
      replace e := zb_bind e
      obtain ⟨k17, hk17, e⟩ := e
      replace e := zb_bind e
      obtain ⟨k18, hk18, e⟩ := e
      have b8 := zm_ix_ko hk8
      have b9 := zm_ix_ko hk9
      have b11 := zm_ix_ko hk11
      have b12 := zm_ix_ko hk12
      have b14 := zm_ix_ko hk14
      have b15 := zm_ix_ko hk15
      have b17 := zm_ix_ko hk17
      have b18 := zm_ix_ko hk18
      obtain rfl : k8 = n := by omega
      obtain rfl : k9 = k8 := by omega
      obtain rfl : k11 = k9 := by omega
      obtain rfl : k12 = k11 := by omega
      obtain rfl : k14 = k12 := by omega
      obtain rfl : k15 = k14 := by omega
      obtain rfl : k17 = k15 := by omega
      obtain rfl : k18 = k17 := by omega
      replace e := zb_if e
      rcases e with ⟨hc2, e⟩ | ⟨hc2, e⟩
      · replace e := zb_let e
        obtain ⟨g19, h19, e⟩ := e
        have hy := zi_add (x := x) (y := 1) (by omega) (by omega)
        obtain ⟨i1, i2⟩ := ih (x + 1) (k18 + 1) g19 g' (by omega) e
        have a1 := zg_fr h10
        have a2 := zg_fr h13
        have a3 := zg_fr h16
        have a4 := zg_fr h19
        have s1 : g10 (r0 + 16 + k18) 0 = g (r1 + 16 + k18) 0 := by rw [← h10]; exact zg_ue
        have s2 : g13 (r0 + 16 + k18) 1 = g10 (r1 + 16 + k18) 1 := by rw [← h13]; exact zg_ue
        have s3 : g16 (r0 + 16 + k18) 2 = g13 (r1 + 16 + k18) 2 := by rw [← h16]; exact zg_ue
        have s4 : g19 (r0 + 16 + k18) 3 = g16 (r1 + 16 + k18) 3 := by rw [← h19]; exact zg_ue
        constructor
        · intro r k hr
          rw [i1 r k (by omega), a4 r k (by omega), a3 r k (by omega), a2 r k (by omega), a1 r k (by omega)]
        · intro i j h1 h2 h3
          by_cases hh : i = k18
          · subst hh
            rw [i1 _ _ (by omega)]
            match j, h3 with
            | 0, _ => rw [a4 _ _ (by omega), a3 _ _ (by omega), a2 _ _ (by omega), s1]
            | 1, _ => rw [a4 _ _ (by omega), a3 _ _ (by omega), s2, a1 _ _ (by omega)]
            | 2, _ => rw [a4 _ _ (by omega), s3, a2 _ _ (by omega), a1 _ _ (by omega)]
            | 3, _ => rw [s4, a3 _ _ (by omega), a2 _ _ (by omega), a1 _ _ (by omega)]
            | j + 4, h => exact absurd h (by omega)
          · rw [i2 i j (by omega) h2 h3, a4 _ _ (by omega), a3 _ _ (by omega), a2 _ _ (by omega), a1 _ _ (by omega)]
      · cases e
/-- DEEDS and SEEN -/
theorem l_17_83 {r0 r1 : Nat} (hd : r0 + 24 ≤ r1 ∨ r1 + 24 ≤ r0) : ∀ (f : Nat) (x : Int32) (n : Nat) (g g' : G), x.toInt = n → n ≤ 8 → d_17_83 r0 r1 f x g = some g' → (∀ r k, ¬ (r0 + 8 + n ≤ r ∧ r < r0 + 24) → g' r k = g r k) ∧ (∀ i j, n ≤ i → i < 8 → j < 7 → g' (r0 + 8 + i) j = g (r1 + 8 + i) j) ∧ ∀ i j, i < 8 → j < 4 → g' (r0 + 16 + i) j = g (r1 + 16 + i) j := by
  intro f
  induction f with
  | zero =>
    intro x n g g' hx _ e
    rw [d_17_83.eq_1] at e
    cases e
  | succ f ih =>
    intro x n g g' hx h8 e
    rw [d_17_83.eq_2] at e
    have L8 := zl_8
    have L0 := zl_0
    have L1 := zl_1
    replace e := zb_if e
    rcases e with ⟨hc, e⟩ | ⟨hc, e⟩
    · have c1 := zc_geT hc
      obtain ⟨i1, i2⟩ := l_17_112 hd 300 0 0 g g' (by omega) e
      exact ⟨fun r k hr => i1 r k (by omega), fun i j h1 h2 _ => by omega, fun i j h1 h2 => i2 i j (by omega) h1 h2⟩
    · have c1 := zc_geF hc
      replace e := zb_bind e
      obtain ⟨k21, hk21, e⟩ := e
      replace e := zb_bind e
      obtain ⟨k22, hk22, e⟩ := e
      replace e := zb_let e
      obtain ⟨g23, h23, e⟩ := e
      have b1 := zm_ix_ko hk21
      have b2 := zm_ix_ko hk22
      obtain rfl : k21 = n := by omega
      obtain rfl : k22 = k21 := by omega
      have hy := zi_add (x := x) (y := 1) (by omega) (by omega)
      obtain ⟨i1, i2, i3⟩ := ih (x + 1) (k22 + 1) g23 g' (by omega) (by omega) e
      obtain ⟨t1, t2⟩ := t_13 (by omega) h23
      refine ⟨fun r k hr => (i1 r k (by omega)).trans (t1 r k (by omega)), fun i j h1 h2 h3 => ?_, fun i j h1 h2 => (i3 i j h1 h2).trans (t1 _ _ (by omega))⟩
      by_cases hh : i = k22
      · subst hh
        exact (i1 _ _ (by omega)).trans (t2 j h3)
      · exact (i2 i j (by omega) h2 h3).trans (t1 _ _ (by omega))
theorem l_17_34 {r0 r1 : Nat} (hd : r0 + 24 ≤ r1 ∨ r1 + 24 ≤ r0) : ∀ (f : Nat) (x : Int32) (n : Nat) (g g' : G), x.toInt = n → n ≤ 4 → d_17_34 r0 r1 f x g = some g' → (∀ r k, ¬ (r0 + 4 + n ≤ r ∧ r < r0 + 24) → g' r k = g r k) ∧ (∀ i j, n ≤ i → i < 4 → j < 2 → g' (r0 + 4 + i) j = g (r1 + 4 + i) j) ∧ (∀ i j, i < 8 → j < 7 → g' (r0 + 8 + i) j = g (r1 + 8 + i) j) ∧ ∀ i j, i < 8 → j < 4 → g' (r0 + 16 + i) j = g (r1 + 16 + i) j := by
  intro f
  induction f with
  | zero =>
    intro x n g g' hx _ e
    rw [d_17_34.eq_1] at e
    cases e
  | succ f ih =>
    intro x n g g' hx h8 e
    rw [d_17_34.eq_2] at e
    have L4 := zl_4
    have L0 := zl_0
    have L1 := zl_1
    replace e := zb_if e
    rcases e with ⟨hc, e⟩ | ⟨hc, e⟩
    · have c1 := zc_geT hc
      obtain ⟨i1, i2, i3⟩ := l_17_83 hd 300 0 0 g g' (by omega) (by omega) e
      exact ⟨fun r k hr => i1 r k (by omega), fun i j h1 h2 _ => by omega, fun i j h1 h2 => i2 i j (by omega) h1 h2, i3⟩
    · have c1 := zc_geF hc
      replace e := zb_bind e
      obtain ⟨k24, hk24, e⟩ := e
      replace e := zb_bind e
      obtain ⟨k25, hk25, e⟩ := e
      replace e := zb_let e
      obtain ⟨g26, h26, e⟩ := e
      replace e := zb_bind e
      obtain ⟨k27, hk27, e⟩ := e
      replace e := zb_bind e
      obtain ⟨k28, hk28, e⟩ := e
      replace e := zb_let e
      obtain ⟨g29, h29, e⟩ := e
      have b1 := zm_ix_ko hk24
      have b2 := zm_ix_ko hk25
      have b3 := zm_ix_ko hk27
      have b4 := zm_ix_ko hk28
      obtain rfl : k24 = n := by omega
      obtain rfl : k25 = k24 := by omega
      obtain rfl : k27 = k25 := by omega
      obtain rfl : k28 = k27 := by omega
      have hy := zi_add (x := x) (y := 1) (by omega) (by omega)
      obtain ⟨i1, i2, i3, i4⟩ := ih (x + 1) (k28 + 1) g29 g' (by omega) (by omega) e
      have a1 := zg_fr h26
      have a2 := zg_fr h29
      have s1 : g26 (r0 + 4 + k28) 0 = g (r1 + 4 + k28) 0 := by rw [← h26]; exact zg_ue
      have s2 : g29 (r0 + 4 + k28) 1 = g26 (r1 + 4 + k28) 1 := by rw [← h29]; exact zg_ue
      refine ⟨fun r k hr => ?_, fun i j h1 h2 h3 => ?_, fun i j h1 h2 => ?_, fun i j h1 h2 => ?_⟩
      · rw [i1 r k (by omega), a2 r k (by omega), a1 r k (by omega)]
      · by_cases hh : i = k28
        · subst hh
          rw [i1 _ _ (by omega)]
          match j, h3 with
          | 0, _ => rw [a2 _ _ (by omega), s1]
          | 1, _ => rw [s2, a1 _ _ (by omega)]
          | j + 2, h => exact absurd h (by omega)
        · rw [i2 i j (by omega) h2 h3, a2 _ _ (by omega), a1 _ _ (by omega)]
      · rw [i3 i j h1 h2, a2 _ _ (by omega), a1 _ _ (by omega)]
      · rw [i4 i j h1 h2, a2 _ _ (by omega), a1 _ _ (by omega)]
/-- a family's rows are another's -/
def Cp (r0 r1 : Nat) (g g' : G) : Prop := (∀ j, j < 4 → g' r0 j = g r1 j) ∧ (∀ i j, i < 4 → j < 2 → g' (r0 + 4 + i) j = g (r1 + 4 + i) j) ∧ (∀ i j, i < 8 → j < 7 → g' (r0 + 8 + i) j = g (r1 + 8 + i) j) ∧ ∀ i j, i < 8 → j < 4 → g' (r0 + 16 + i) j = g (r1 + 16 + i) j
theorem t_17 {r0 r1 : Nat} {g g' : G} (hd : r0 + 24 ≤ r1 ∨ r1 + 24 ≤ r0) (e : d_17 r0 r1 g = some g') : (∀ r k, ¬ (r = r0 ∧ k < 4) → ¬ (r0 + 4 ≤ r ∧ r < r0 + 24) → g' r k = g r k) ∧ Cp r0 r1 g g' := by
  unfold d_17 at e
  replace e := zb_let e
  obtain ⟨g1, h1, e⟩ := e
  replace e := zb_let e
  obtain ⟨g2, h2, e⟩ := e
  replace e := zb_let e
  obtain ⟨g3, h3, e⟩ := e
  replace e := zb_let e
  obtain ⟨g4, h4, e⟩ := e
  have L0 := zl_0
  obtain ⟨i1, i2, i3, i4⟩ := l_17_34 hd 300 0 0 g4 g' (by omega) (by omega) e
  have a1 := zg_fr h1
  have a2 := zg_fr h2
  have a3 := zg_fr h3
  have a4 := zg_fr h4
  have s1 : g1 r0 0 = g r1 0 := by rw [← h1]; exact zg_ue
  have s2 : g2 r0 1 = g1 r1 1 := by rw [← h2]; exact zg_ue
  have s3 : g3 r0 2 = g2 r1 2 := by rw [← h3]; exact zg_ue
  have s4 : g4 r0 3 = g3 r1 3 := by rw [← h4]; exact zg_ue
  refine ⟨fun r k hr hr2 => ?_, fun j hj => ?_, fun i j h1 h2 => ?_, fun i j h1 h2 => ?_, fun i j h1 h2 => ?_⟩
  · rw [i1 r k (by omega), a4 r k (by omega), a3 r k (by omega), a2 r k (by omega), a1 r k (by omega)]
  · rw [i1 _ _ (by omega)]
    match j, hj with
    | 0, _ => rw [a4 _ _ (by omega), a3 _ _ (by omega), a2 _ _ (by omega), s1]
    | 1, _ => rw [a4 _ _ (by omega), a3 _ _ (by omega), s2, a1 _ _ (by omega)]
    | 2, _ => rw [a4 _ _ (by omega), s3, a2 _ _ (by omega), a1 _ _ (by omega)]
    | 3, _ => rw [s4, a3 _ _ (by omega), a2 _ _ (by omega), a1 _ _ (by omega)]
    | j + 4, h => exact absurd h (by omega)
  · rw [i2 i j (by omega) h1 h2, a4 _ _ (by omega), a3 _ _ (by omega), a2 _ _ (by omega), a1 _ _ (by omega)]
  · rw [i3 i j h1 h2, a4 _ _ (by omega), a3 _ _ (by omega), a2 _ _ (by omega), a1 _ _ (by omega)]
  · rw [i4 i j h1 h2, a4 _ _ (by omega), a3 _ _ (by omega), a2 _ _ (by omega), a1 _ _ (by omega)]
theorem Wfam.cp {r0 r1 : Nat} {g g' : G} (h : Wfam r1 g) (hc : Cp r0 r1 g g') : Wfam r0 g' := by
  obtain ⟨w, w2, w3, w4⟩ := h
  obtain ⟨c1, c2, c3, c4⟩ := hc
  have w1 := w
  unfold Wn at w1
  unfold Wfam Wn
  rw [c1 0 (by omega), c1 1 (by omega), c1 2 (by omega), c1 3 (by omega)]
  refine ⟨w, fun p hp => ?_, fun d hd => ?_, fun i hi => ?_⟩
  · have := w2 p hp
    unfold Wone at *
    rw [c2 p 0 (by omega) (by omega), c2 p 1 (by omega) (by omega)]
    exact this
  · have := w3 d hd
    unfold Wdeed at *
    rw [c1 0 (by omega), c1 1 (by omega), c3 d 0 (by omega) (by omega), c3 d 1 (by omega) (by omega), c3 d 2 (by omega) (by omega), c3 d 3 (by omega) (by omega), c3 d 4 (by omega) (by omega), c3 d 5 (by omega) (by omega), c3 d 6 (by omega) (by omega)]
    exact this
  · have := w4 i hi
    unfold Wseen at *
    rw [c1 0 (by omega), c1 1 (by omega), c4 i 0 (by omega) (by omega), c4 i 1 (by omega) (by omega), c4 i 2 (by omega) (by omega), c4 i 3 (by omega) (by omega)]
    exact this
theorem Rfam.cp {r0 r1 o o' : Nat} {g g' m m' : G} (w : Wn r1 g) (h : Rfam r1 o g m) (hc : Cp r0 r1 g g') (hm : ∀ k, k < 98 → m' 114 (o' + k) = m 114 (o + k)) : Rfam r0 o' g' m' := by
  obtain ⟨q1, q2, q3, q4, q5⟩ := h
  obtain ⟨c1, c2, c3, c4⟩ := hc
  unfold Wn at w
  unfold Rfam
  rw [c1 1 (by omega), c1 2 (by omega), c1 3 (by omega), hm 8 (by omega), hm 65 (by omega)]
  refine ⟨q1, q2, fun p hp => ?_, fun d hd j hj => ?_, fun i hi j hj => ?_⟩
  · rw [c2 p 0 (by omega) (by omega), c2 p 1 (by omega) (by omega), hm p (by omega), show o' + 4 + p = o' + (4 + p) by omega, hm (4 + p) (by omega), show o + (4 + p) = o + 4 + p by omega]
    exact q3 p hp
  · rw [c3 d j (by omega) hj, show o' + 9 + 7 * d + j = o' + (9 + 7 * d + j) by omega, hm (9 + 7 * d + j) (by omega), show o + (9 + 7 * d + j) = o + 9 + 7 * d + j by omega]
    exact q4 d hd j hj
  · rw [c4 i j (by omega) hj, show o' + 66 + 4 * i + j = o' + (66 + 4 * i + j) by omega, hm (66 + 4 * i + j) (by omega), show o + (66 + 4 * i + j) = o + 66 + 4 * i + j by omega]
    exact q5 i hi j hj
theorem l_180_2 {x1 x2 : Int32} {a b : Nat} (ha : x1.toInt = a) (hb : x2.toInt = b) (ha2 : a ≤ 196) (hb2 : b ≤ 196) (hd : a + 98 ≤ b ∨ b + 98 ≤ a) : ∀ (f : Nat) (x : Int32) (n : Nat) (g g' : G), x.toInt = n → d_180_2 x1 x2 f x g = some g' → (∀ r k, ¬ (r = 114 ∧ a + n ≤ k ∧ k < a + 98) → g' r k = g r k) ∧ ∀ k, n ≤ k → k < 98 → g' 114 (a + k) = g 114 (b + k) := by
  intro f
  induction f with
  | zero =>
    intro x n g g' hx e
    rw [d_180_2.eq_1] at e
    cases e
  | succ f ih =>
    intro x n g g' hx e
    rw [d_180_2.eq_2] at e
    have L98 := zl_98
    have L1 := zl_1
    replace e := zb_if e
    rcases e with ⟨hc, e⟩ | ⟨hc, e⟩
    · have c1 := zc_geT hc
      have e1 := zb_r1 e
      subst e1
      exact ⟨fun r k _ => rfl, fun k h1 h2 => by omega⟩
    · have c1 := zc_geF hc
      have y1 := zi_add (x := x1) (y := x) (by omega) (by omega)
      have y2 := zi_add (x := x2) (y := x) (by omega) (by omega)
      replace e := zb_bind e
      obtain ⟨k2, hk2, e⟩ := e
      replace e := zb_bind e
      obtain ⟨k4, hk4, e⟩ := e
      replace e := zb_let e
      obtain ⟨g3, hg, e⟩ := e
      have b2 := zm_ix_ko hk2
      have b4 := zm_ix_ko hk4
      have hy := zi_add (x := x) (y := 1) (by omega) (by omega)
      obtain ⟨i1, i2⟩ := ih (x + 1) (n + 1) g3 g' (by omega) e
      have a1 := zg_fr hg
      obtain rfl : k2 = b + n := by omega
      obtain rfl : k4 = a + n := by omega
      have s1 : g3 114 (a + n) = g 114 (b + n) := by rw [← hg]; exact zg_ue
      refine ⟨fun r k hn => (i1 r k (by omega)).trans (a1 r k (by omega)), fun k h1 h2 => ?_⟩
      by_cases hh : k = n
      · subst hh
        exact (i1 _ _ (by omega)).trans s1
      · exact (i2 k (by omega) h2).trans (a1 _ _ (by omega))
