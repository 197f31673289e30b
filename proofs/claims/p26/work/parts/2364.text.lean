/-! the text -/
theorem l_16_22 : ∀ (f : Nat) (x : Int32) (n : Nat) (g g' : G), x.toInt = n → d_16_22 30 f x g = some g' → (∀ r k, ¬ (38 + n ≤ r ∧ r < 46 ∧ (k = 5 ∨ k = 6)) → g' r k = g r k) ∧ ∀ d, n ≤ d → d < 8 → g' (38 + d) 5 = 0 ∧ g' (38 + d) 6 = 10 := by
  intro f
  induction f with
  | zero =>
    intro x n g g' hx e
    rw [d_16_22.eq_1] at e
    cases e
  | succ f ih =>
    intro x n g g' hx e
    rw [d_16_22.eq_2] at e
    have L8 := zl_8
    have L1 := zl_1
    replace e := zb_if e
    rcases e with ⟨hc, e⟩ | ⟨hc, e⟩
    · have q := zc_geT hc
      have e1 := zb_r1 e
      subst e1
      exact ⟨fun r k _ => rfl, fun d h1 h2 => by omega⟩
    · have q := zc_geF hc
      replace e := zb_bind e
      obtain ⟨k6, h6, e⟩ := e
      replace e := zb_let e
      obtain ⟨g7, h7, e⟩ := e
      replace e := zb_bind e
      obtain ⟨k8, h8, e⟩ := e
      replace e := zb_let e
      obtain ⟨g9, h9, e⟩ := e
      have b6 := zm_ix_ko h6
      have b8 := zm_ix_ko h8
      obtain rfl : k6 = n := by omega
      obtain rfl : k8 = k6 := by omega
      have yi := zi_add (x := x) (y := 1) (by omega) (by omega)
      obtain ⟨i1, i2⟩ := ih (x + 1) (k8 + 1) g9 g' (by omega) e
      refine ⟨fun r k hn => ?_, fun d h1 h2 => ?_⟩
      · rw [i1 r k (by omega), zg_fr h9 r k (by omega), zg_fr h7 r k (by omega)]
      · by_cases hh : d = k8
        · subst hh
          rw [i1 _ _ (by omega), i1 _ _ (by omega)]
          exact ⟨by rw [zg_fr h9 _ _ (by omega), ← h7]; exact zg_ue, by rw [← h9]; exact zg_ue⟩
        · exact i2 d (by omega) h2
theorem t_16 {g g' : G} (e : d_16 30 g = some g') : (∀ r k, ¬ (r = 30 ∧ k < 4) → ¬ (38 ≤ r ∧ r < 46 ∧ (k = 5 ∨ k = 6)) → g' r k = g r k) ∧ g' 30 0 = 4 ∧ g' 30 1 = 0 ∧ g' 30 2 = 0 ∧ g' 30 3 = 0 ∧ ∀ d, d < 8 → g' (38 + d) 5 = 0 ∧ g' (38 + d) 6 = 10 := by
  unfold d_16 at e
  have L0 := zl_0
  replace e := zb_let e
  obtain ⟨g1, h1, e⟩ := e
  replace e := zb_let e
  obtain ⟨g2, h2, e⟩ := e
  replace e := zb_let e
  obtain ⟨g3, h3, e⟩ := e
  replace e := zb_let e
  obtain ⟨g4, h4, e⟩ := e
  obtain ⟨i1, i2⟩ := l_16_22 300 0 0 g4 g' (by omega) e
  refine ⟨fun r k hn hn2 => ?_, ?_, ?_, ?_, ?_, fun d hd => i2 d (by omega) hd⟩
  · rw [i1 r k (by omega), zg_fr h4 r k (by omega), zg_fr h3 r k (by omega), zg_fr h2 r k (by omega), zg_fr h1 r k (by omega)]
  · rw [i1 _ _ (by omega), zg_fr h4 _ _ (by omega), zg_fr h3 _ _ (by omega), zg_fr h2 _ _ (by omega), ← h1]; exact zg_ue
  · rw [i1 _ _ (by omega), zg_fr h4 _ _ (by omega), zg_fr h3 _ _ (by omega), ← h2]; exact zg_ue
  · rw [i1 _ _ (by omega), zg_fr h4 _ _ (by omega), ← h3]; exact zg_ue
  · rw [i1 _ _ (by omega), ← h4]; exact zg_ue
/-- the draft at first -/
theorem l_109_23 : ∀ (f : Nat) (x : Int32) (n : Nat) (g g' : G), x.toInt = n → n ≤ 8 → d_109_23 f x g = some g' → (∀ r k, ¬ (r = 113 ∧ 5 ≤ k ∧ k ≤ 12) → ¬ (r = 116 ∧ ∃ d, n ≤ d ∧ d < 8 ∧ k = 9 + 7 * d + 6) → g' r k = g r k) ∧ (∀ d, n ≤ d → d < 8 → g' 116 (9 + 7 * d + 6) = 10) ∧ g' 113 5 = 4 ∧ g' 113 6 = 0 ∧ g' 113 7 = 0 ∧ g' 113 8 = 0 ∧ g' 113 9 = 0 ∧ g' 113 10 = -4 ∧ g' 113 11 = -4 ∧ g' 113 12 = -4 := by
  intro f
  induction f with
  | zero =>
    intro x n g g' hx _ e
    rw [d_109_23.eq_1] at e
    cases e
  | succ f ih =>
    intro x n g g' hx hn8 e
    rw [d_109_23.eq_2] at e
    have L8 := zl_8
    have L1 := zl_1
    replace e := zb_if e
    rcases e with ⟨hc, e⟩ | ⟨hc, e⟩
    · have q := zc_geT hc
      replace e := zb_let e
      obtain ⟨g3, h3, e⟩ := e
      replace e := zb_let e
      obtain ⟨g4, h4, e⟩ := e
      replace e := zb_let e
      obtain ⟨g5, h5, e⟩ := e
      replace e := zb_let e
      obtain ⟨g6, h6, e⟩ := e
      replace e := zb_let e
      obtain ⟨g7, h7, e⟩ := e
      replace e := zb_let e
      obtain ⟨g8, h8, e⟩ := e
      replace e := zb_let e
      obtain ⟨g9, h9, e⟩ := e
      replace e := zb_let e
      obtain ⟨g10, h10, e⟩ := e
      have e1 := zb_r1 e
      subst e1
      refine ⟨fun r k hr _ => ?_, fun d h1 h2 => by omega, ?_, ?_, ?_, ?_, ?_, ?_, ?_, ?_⟩
      · rw [zg_fr h10 r k (by omega), zg_fr h9 r k (by omega), zg_fr h8 r k (by omega), zg_fr h7 r k (by omega), zg_fr h6 r k (by omega), zg_fr h5 r k (by omega), zg_fr h4 r k (by omega), zg_fr h3 r k (by omega)]
      · rw [zg_fr h10 _ _ (by omega), zg_fr h9 _ _ (by omega), zg_fr h8 _ _ (by omega), zg_fr h7 _ _ (by omega), zg_fr h6 _ _ (by omega), zg_fr h5 _ _ (by omega), zg_fr h4 _ _ (by omega), ← h3]; exact zg_ue
      · rw [zg_fr h10 _ _ (by omega), zg_fr h9 _ _ (by omega), zg_fr h8 _ _ (by omega), zg_fr h7 _ _ (by omega), zg_fr h6 _ _ (by omega), zg_fr h5 _ _ (by omega), ← h4]; exact zg_ue
      · rw [zg_fr h10 _ _ (by omega), zg_fr h9 _ _ (by omega), zg_fr h8 _ _ (by omega), zg_fr h7 _ _ (by omega), zg_fr h6 _ _ (by omega), ← h5]; exact zg_ue
      · rw [zg_fr h10 _ _ (by omega), zg_fr h9 _ _ (by omega), zg_fr h8 _ _ (by omega), zg_fr h7 _ _ (by omega), ← h6]; exact zg_ue
      · rw [zg_fr h10 _ _ (by omega), zg_fr h9 _ _ (by omega), zg_fr h8 _ _ (by omega), ← h7]; exact zg_ue
      · rw [zg_fr h10 _ _ (by omega), zg_fr h9 _ _ (by omega), ← h8]; exact zg_ue
      · rw [zg_fr h10 _ _ (by omega), ← h9]; exact zg_ue
      · rw [← h10]; exact zg_ue
    · have q := zc_geF hc
      have yi := zi_idx (x := x) (o := 6) (n := 6) hx (by omega) (by decide) (by omega)
      replace e := zb_bind e
      obtain ⟨k12, h12, e⟩ := e
      have b12 := zm_ix_ko h12
      obtain rfl : k12 = 9 + 7 * n + 6 := by omega
      replace e := zb_let e
      obtain ⟨g11, h11, e⟩ := e
      have ya := zi_add (x := x) (y := 1) (by omega) (by omega)
      obtain ⟨i1, i2, i3⟩ := ih (x + 1) (n + 1) g11 g' (by omega) (by omega) e
      refine ⟨fun r k h1 h2 => ?_, fun d h1 h2 => ?_, i3⟩
      · rw [i1 r k h1 (fun ⟨w1, d, w2, w3, w4⟩ => h2 ⟨w1, d, by omega, w3, w4⟩), zg_fr h11 r k (fun ⟨w1, w2⟩ => h2 ⟨w1, n, by omega, by omega, w2⟩)]
      · by_cases hh : d = n
        · subst hh
          rw [i1 _ _ (by omega) (fun ⟨_, d', w2, w3, w4⟩ => by omega), ← h11]
          exact zg_ue
        · exact i2 d (by omega) h2
theorem l_109_2 : ∀ (f : Nat) (x : Int32) (n : Nat) (g g' : G), x.toInt = n → n ≤ 98 → d_109_2 f x g = some g' → ∃ g1, d_109_23 300 0 g1 = some g' ∧ (∀ r k, ¬ (r = 116 ∧ n ≤ k ∧ k < 98) → g1 r k = g r k) ∧ ∀ k, n ≤ k → k < 98 → g1 116 k = 0 := by
  intro f
  induction f with
  | zero =>
    intro x n g g' hx _ e
    rw [d_109_2.eq_1] at e
    cases e
  | succ f ih =>
    intro x n g g' hx hn e
    rw [d_109_2.eq_2] at e
    have L98 := zl_98
    have L1 := zl_1
    replace e := zb_if e
    rcases e with ⟨hc, e⟩ | ⟨hc, e⟩
    · have q := zc_geT hc
      exact ⟨g, e, fun r k _ => rfl, fun k h1 h2 => by omega⟩
    · have q := zc_geF hc
      replace e := zb_bind e
      obtain ⟨k14, h14, e⟩ := e
      have b14 := zm_ix_ko h14
      obtain rfl : k14 = n := by omega
      replace e := zb_let e
      obtain ⟨g13, h13, e⟩ := e
      have ya := zi_add (x := x) (y := 1) (by omega) (by omega)
      obtain ⟨g1, i0, i1, i2⟩ := ih (x + 1) (k14 + 1) g13 g' (by omega) (by omega) e
      refine ⟨g1, i0, fun r k hr => (i1 r k (by omega)).trans (zg_fr h13 r k (by omega)), fun k h1 h2 => ?_⟩
      by_cases hh : k = k14
      · subst hh
        rw [i1 _ _ (by omega), ← h13]
        exact zg_ue
      · exact i2 k (by omega) h2
theorem t_109 {g g' : G} (e : d_109 g = some g') : (∀ r k, ¬ (r = 113 ∧ 5 ≤ k ∧ k ≤ 12) → ¬ (r = 116 ∧ k < 98) → g' r k = g r k) ∧ (∀ d, d < 8 → g' 116 (9 + 7 * d + 6) = 10 ∧ g' 116 (9 + 7 * d + 5) = 0) ∧ g' 116 8 = 0 ∧ g' 116 65 = 0 ∧ g' 113 5 = 4 ∧ g' 113 6 = 0 ∧ g' 113 7 = 0 ∧ g' 113 8 = 0 ∧ g' 113 9 = 0 ∧ g' 113 10 = -4 ∧ g' 113 11 = -4 ∧ g' 113 12 = -4 := by
  unfold d_109 at e
  have L0 := zl_0
  obtain ⟨g1, i0, i1, i2⟩ := l_109_2 300 0 0 g g' (by omega) (by omega) e
  obtain ⟨j1, j2, j3⟩ := l_109_23 300 0 0 g1 g' (by omega) (by omega) i0
  refine ⟨fun r k h1 h2 => ?_, fun d hd => ⟨j2 d (by omega) hd, ?_⟩, ?_, ?_, j3⟩
  · rw [j1 r k h1 (fun ⟨w1, d, w2, w3, w4⟩ => by omega), i1 r k (by omega)]
  · rw [j1 _ _ (by omega) (fun ⟨_, d', w2, w3, w4⟩ => by omega)]
    exact i2 _ (by omega) (by omega)
  · rw [j1 _ _ (by omega) (fun ⟨_, d', w2, w3, w4⟩ => by omega)]
    exact i2 _ (by omega) (by omega)
  · rw [j1 _ _ (by omega) (fun ⟨_, d', w2, w3, w4⟩ => by omega)]
    exact i2 _ (by omega) (by omega)
theorem l_56_42 {x1 : Int32} : ∀ (f : Nat) (x : Int32) (n : Nat) (g g' : G) (v : Int32), x.toInt = n → d_56_42 x1 f x g = some (v, g') → v = x1 ∧ (∀ r k, ¬ (r = 55 ∧ n ≤ k ∧ k < 2) → g' r k = g r k) ∧ ∀ k, n ≤ k → k < 2 → g' 55 k = 0 := by
  intro f
  induction f with
  | zero =>
    intro x n g g' v hx e
    rw [d_56_42.eq_1] at e
    cases e
  | succ f ih =>
    intro x n g g' v hx e
    rw [d_56_42.eq_2] at e
    have L2 := zl_2
    have L1 := zl_1
    replace e := zb_if e
    rcases e with ⟨hc, e⟩ | ⟨hc, e⟩
    · have q := zc_geT hc
      obtain ⟨e1, e2⟩ := zb_r2 e
      subst e2
      exact ⟨e1.symm, fun r k _ => rfl, fun k h1 h2 => by omega⟩
    · have q := zc_geF hc
      replace e := zb_bind e
      obtain ⟨k8, h8, e⟩ := e
      have b8 := zm_ix_ko h8
      obtain rfl : k8 = n := by omega
      replace e := zb_let e
      obtain ⟨g7, h7, e⟩ := e
      have ya := zi_add (x := x) (y := 1) (by omega) (by omega)
      obtain ⟨i0, i1, i2⟩ := ih (x + 1) (k8 + 1) g7 g' v (by omega) e
      refine ⟨i0, fun r k hr => (i1 r k (by omega)).trans (zg_fr h7 r k (by omega)), fun k h1 h2 => ?_⟩
      by_cases hh : k = k8
      · subst hh
        rw [i1 _ _ (by omega), ← h7, zg_ue]
        exact zm_n2.2
      · exact i2 k (by omega) h2
theorem l_110_2 : ∀ (f : Nat) (x : Int32) (n : Nat) (g g' : G), x.toInt = n → d_110_2 f x g = some g' → (∀ r k, ¬ (r = 113 ∧ (k = 2 ∨ k = 3)) → ¬ (r = 115 ∧ k < 2) → ¬ (r = 114 ∧ n ≤ k ∧ k < 98) → g' r k = g r k) ∧ (∀ k, n ≤ k → k < 98 → g' 114 k = g 116 k) ∧ g' 113 2 = g 113 5 ∧ g' 113 3 = g 113 6 ∧ ∀ k, k < 2 → g' 115 k = 0 := by
  intro f
  induction f with
  | zero =>
    intro x n g g' hx e
    rw [d_110_2.eq_1] at e
    cases e
  | succ f ih =>
    intro x n g g' hx e
    rw [d_110_2.eq_2] at e
    have L98 := zl_98
    have L1 := zl_1
    replace e := zb_if e
    rcases e with ⟨hc, e⟩ | ⟨hc, e⟩
    · have q := zc_geT hc
      replace e := zb_let e
      obtain ⟨g2, h2, e⟩ := e
      replace e := zb_let e
      obtain ⟨g3, h3, e⟩ := e
      replace e := zb_let e
      obtain ⟨g4, h4, e⟩ := e
      replace e := zb_let e
      obtain ⟨g5, h5, e⟩ := e
      have e1 := zb_r1 e
      subst e1
      refine ⟨fun r k h1 h2' _ => ?_, fun k h1 h2 => by omega, ?_, ?_, fun k hk => ?_⟩
      · rw [zg_fr h5 r k (by omega), zg_fr h4 r k (by omega), zg_fr h3 r k (by omega), zg_fr h2 r k (by omega)]
      · rw [zg_fr h5 _ _ (by omega), zg_fr h4 _ _ (by omega), zg_fr h3 _ _ (by omega), ← h2]; exact zg_ue
      · rw [zg_fr h5 _ _ (by omega), zg_fr h4 _ _ (by omega), ← h3, zg_ue, zg_fr h2 _ _ (by omega)]
      · by_cases hh : k = 1
        · subst hh
          rw [← h5, zg_ue]
          exact zm_n2.2
        · obtain rfl : k = 0 := by omega
          rw [zg_fr h5 _ _ (by omega), ← h4, zg_ue]
          exact zm_n2.2
    · have q := zc_geF hc
      replace e := zb_bind e
      obtain ⟨k6, h6, e⟩ := e
      replace e := zb_bind e
      obtain ⟨k8, h8, e⟩ := e
      have b6 := zm_ix_ko h6
      have b8 := zm_ix_ko h8
      obtain rfl : k6 = n := by omega
      obtain rfl : k8 = k6 := by omega
      replace e := zb_let e
      obtain ⟨g7, h7, e⟩ := e
      have ya := zi_add (x := x) (y := 1) (by omega) (by omega)
      obtain ⟨i1, i2, i3, i4, i5⟩ := ih (x + 1) (k8 + 1) g7 g' (by omega) e
      refine ⟨fun r k h1 h2 h3 => (i1 r k h1 h2 (by omega)).trans (zg_fr h7 r k (by omega)), fun k h1 h2 => ?_, i3.trans (zg_fr h7 _ _ (by omega)), i4.trans (zg_fr h7 _ _ (by omega)), i5⟩
      by_cases hh : k = k8
      · subst hh
        rw [i1 _ _ (by omega) (by omega) (by omega), ← h7]
        exact zg_ue
      · exact (i2 k (by omega) h2).trans (zg_fr h7 _ _ (by omega))
/-- what is told is a family -/
theorem DR.wfam {c m : G} (h : DR c m) (w : Wh c m) : Wfam 30 c := by
  obtain ⟨d1, d2, d3, d4, d5, d6⟩ := h
  have b := d1.2.1
  obtain ⟨w1, w2, w3⟩ := w
  refine ⟨?_, fun p hp => ?_, fun d hd => ?_, fun i hi => by omega⟩
  · unfold Wn
    omega
  · have := d2 p hp
    exact this.2.2
  · have q3 := (d3 d hd).2
    have q4 := d4 d (by omega)
    unfold Wdeed
    show 0 ≤ (c (38 + d) 0).toInt ∧ (c (38 + d) 0).toInt < (c 30 0).toInt ∧ 0 ≤ (c (38 + d) 1).toInt ∧ (c (38 + d) 1).toInt < (c 30 1).toInt ∧ 0 ≤ (c (38 + d) 2).toInt ∧ (c (38 + d) 2).toInt < (c 30 1).toInt ∧ 0 ≤ (c (38 + d) 3).toInt ∧ (c (38 + d) 3).toInt ≤ 5 ∧ 0 ≤ (c (38 + d) 4).toInt ∧ (c (38 + d) 4).toInt ≤ 63 ∧ 0 ≤ (c (38 + d) 5).toInt ∧ (c (38 + d) 5).toInt ≤ 2 ∧ 0 ≤ (c (38 + d) 6).toInt ∧ (c (38 + d) 6).toInt ≤ 10
    omega
/-- EveningFirst.text -/
theorem r_56 {v v' : Int32} {g g1000 g' g1' : G} (hI : Inv g) (hM : Inv g1000) (hR : Rel g g1000) (e : d_56 g = some (v, g')) (f : d_129 g1000 = some (v', g1')) : v = v' ∧ Rel g' g1' := by
  have L0 := zl_0
  unfold d_56 at e
  unfold d_129 at f
  replace e := zb_bpair e
  obtain ⟨v1, c2, h30, e⟩ := e
  unfold d_30 at h30
  replace h30 := zb_bind h30
  obtain ⟨a1, hA1, h30⟩ := h30
  replace h30 := zb_let h30
  obtain ⟨a2, hA2, h30⟩ := h30
  replace h30 := zb_let h30
  obtain ⟨a3, hA3, h30⟩ := h30
  replace h30 := zb_let h30
  obtain ⟨a4, hA4, h30⟩ := h30
  replace h30 := zb_let h30
  obtain ⟨a5, hA5, h30⟩ := h30
  replace h30 := zb_let h30
  obtain ⟨a6, hA6, h30⟩ := h30
  replace f := zb_let f
  obtain ⟨b1, hB1, f⟩ := f
  replace f := zb_let f
  obtain ⟨b2, hB2, f⟩ := f
  replace f := zb_bind f
  obtain ⟨b3, hB3, f⟩ := f
  replace f := zb_bind f
  obtain ⟨b4, hB4, f⟩ := f
  obtain ⟨t1, t2, t3, t4, t5, t6⟩ := t_16 hA1
  obtain ⟨s1, s2, s3, s4, s5, s6, s7, s8, s9, s10, s11, s12⟩ := t_109 hB3
  -- the class at the loop's beginning
  have uc : ∀ r k, ¬ (r = 28 ∧ (k = 5 ∨ k = 6 ∨ k = 7 ∨ k = 2 ∨ k = 10)) → a6 r k = a1 r k := fun r k hn => by rw [zg_fr hA6 r k (by omega), zg_fr hA5 r k (by omega), zg_fr hA4 r k (by omega), zg_fr hA3 r k (by omega), zg_fr hA2 r k (by omega)]
  have c10 : a6 28 10 = 0 := by rw [← hA6]; exact zg_ue
  have c2' : a6 28 2 = 0 := by rw [zg_fr hA6 _ _ (by omega), ← hA5]; exact zg_ue
  have c7 : a6 28 7 = 0 := by rw [zg_fr hA6 _ _ (by omega), zg_fr hA5 _ _ (by omega), ← hA4]; exact zg_ue
  have c6 : a6 28 6 = 0 := by rw [zg_fr hA6 _ _ (by omega), zg_fr hA5 _ _ (by omega), zg_fr hA4 _ _ (by omega), ← hA3]; exact zg_ue
  have c5 : a6 28 5 = 0 := by rw [zg_fr hA6 _ _ (by omega), zg_fr hA5 _ _ (by omega), zg_fr hA4 _ _ (by omega), zg_fr hA3 _ _ (by omega), ← hA2]; exact zg_ue
  -- the reference at the loop's beginning
  have m15 : b3 113 15 = 0 := by rw [s1 _ _ (by omega) (by omega), ← hB2]; exact zg_ue
  have m19 : b3 113 19 = 0 := by rw [s1 _ _ (by omega) (by omega), zg_fr hB2 _ _ (by omega), ← hB1]; exact zg_ue
  have um : ∀ r k, ¬ (r = 113 ∧ (5 ≤ k ∧ k ≤ 12 ∨ k = 15 ∨ k = 19)) → ¬ (r = 116 ∧ k < 98) → b3 r k = g1000 r k := fun r k h1 h2 => by rw [s1 r k (by omega) h2, zg_fr hB2 r k (by omega), zg_fr hB1 r k (by omega)]
  have uca : ∀ r k, ¬ (r = 28 ∧ (k = 5 ∨ k = 6 ∨ k = 7 ∨ k = 2 ∨ k = 10)) → ¬ (r = 30 ∧ k < 4) → ¬ (38 ≤ r ∧ r < 46 ∧ (k = 5 ∨ k = 6)) → a6 r k = g r k := fun r k h1 h2 h3 => (uc r k h1).trans (t1 r k h2 h3)
  have hRA : RA a6 b3 := hR.1.congr (fun r k hr => uca r k (by omega) (by omega) (by omega)) (fun r k hr => um r k (by omega) (by omega))
  have hP : PT a6 b3 := by
    refine ⟨hRA, by rw [c2']; decide, by rw [m19]; decide, by rw [c10, m15], by rw [c10]; decide, ?_⟩
    rw [c10]
    exact hRA.2.1
  have e30 : a6 30 0 = 4 := (uc 30 0 (by omega)).trans t2
  have e31 : a6 30 1 = 0 := (uc 30 1 (by omega)).trans t3
  have e32 : a6 30 2 = 0 := (uc 30 2 (by omega)).trans t4
  have e33 : a6 30 3 = 0 := (uc 30 3 (by omega)).trans t5
  have hD : DR a6 b3 := by
    refine ⟨⟨⟨by rw [e30, s5], by rw [e31, s6], by rw [e32, s3], by rw [c5, s7], by rw [c6, s8], by rw [c7, s9], by rw [e33, s4]⟩, ?_, Or.inl c5⟩, fun p hp => ?_, fun d hd => ?_, fun d hd => ?_, ?_, ?_⟩
    · rw [e30, e31, e32, e33]
      decide
    · rw [e31] at hp
      exfalso
      omega
    · rw [e32] at hd
      exfalso
      omega
    · rw [uc (38 + d) 5 (by omega), uc (38 + d) 6 (by omega), (t6 d hd).1, (t6 d hd).2, (s2 d hd).1, (s2 d hd).2]
      decide
    · unfold D5
      rw [s10, s11]
      exact ⟨Or.inl (by decide), Or.inl (by decide)⟩
    · unfold D6
      rw [c6, c7, s12]
      refine ⟨fun i hi => ?_, Or.inl (by decide), by decide⟩
      rw [show ((0 : Int32) ||| 0) = 0 from by decide, zbit_0] at hi
      cases hi
  obtain ⟨cE, mE, x2, x3, hE, hx23, e68, e44, fc, fm⟩ := tx_loop 300 0 v1 v' a6 c2 b3 b4 g1' hP hB4 hD (by decide) (by rw [c10]; decide) h30 f
  have M4 := f119u hB4
  have fm2 : ∀ r k, ¬ (r = 113 ∧ 5 ≤ k ∧ k ≠ 14 ∧ k ≤ 20) → r ≠ 116 → mE r k = g1000 r k := fun r k h1 h2 => (fm r k h1 h2).trans ((M4 r k (by omega)).trans (um r k (by omega) (by omega)))
  have fc2 : ∀ r k, ¬ (r = 28 ∧ k ≠ 1) → ¬ (30 ≤ r ∧ r < 46) → cE r k = g r k := fun r k h1 h2 => (fc r k h1 h2).trans (uca r k (by omega) (by omega) (by omega))
  replace e := zb_let e
  obtain ⟨g3, h3, e⟩ := e
  have z1 : g3 28 1 = 0 := by rw [← h3]; exact zg_ue
  have zo : ∀ r k, ¬ (r = 28 ∧ k = 1) → g3 r k = c2 r k := fun r k hn => zg_fr h3 r k hn
  obtain ⟨hRA0, hRB0, hRC0, hRD0, hRE0⟩ := hR
  -- a FAULT
  have bad : FT c2 g1' → g1' 113 14 = 0 → (∀ r k, ¬ (r = 28 ∧ k ≠ 1) → ¬ (30 ≤ r ∧ r < 46) → c2 r k = g r k) → (∀ r k, ¬ (r = 113 ∧ 5 ≤ k ∧ k ≤ 20) → r ≠ 116 → g1' r k = g1000 r k) → v1 = v ∧ Rel g' g1' := by
    intro hF h14 hc hm
    have z2 : g3 28 2 = c2 28 2 := zo 28 2 (by omega)
    replace e := zb_if e
    rcases e with ⟨_, e⟩ | ⟨hc2, _⟩
    · obtain ⟨e1, e2⟩ := zb_r2 e
      subst e2
      have gc : ∀ r k, ¬ (r = 28) → ¬ (30 ≤ r ∧ r < 46) → g3 r k = g r k := fun r k h1 h2 => (zo r k (by omega)).trans (hc r k (by omega) h2)
      refine ⟨e1, ⟨by rw [z1, h14], by rw [z1]; decide, by rw [z1]; decide, fun k hk => ?_⟩, ?_, hRC0.congr (fun r k hr => gc r k (by omega) (by omega)) (fun r k hr => hm r k (by omega) (by omega)), hRD0.congr (fun r k hr => gc r k (by omega) (by omega)) (fun r k hr => hm r k (by omega) (by omega)), hRE0.congr (fun r k hr => gc r k (by omega) (by omega)) (fun r k hr => hm r k (by omega) (by omega))⟩
      · rw [z1] at hk
        exfalso
        omega
      · unfold RB
        rw [z2]
        exact hF.1
    · have := zc_neF hc2
      rw [z2] at this
      have := hF.2.1
      exfalso
      omega
  rcases hE with hF | ⟨hT, h9, hDE⟩
  · obtain ⟨r1, r2, r3⟩ := fin_f hF e68 e44
    subst r2
    subst r3
    have hF' : FT c2 (zg_up mE 113 14 0) := by
      unfold FT
      rw [zg_un (r := 113) (k := 19) (by omega), zg_un (r := 113) (k := 20) (by omega)]
      exact hF
    obtain ⟨q1, q2⟩ := bad hF' zg_ue fc2 (fun r k h1 h2 => by rw [zg_un (by omega)]; exact fm2 r k (by omega) h2)
    exact ⟨q1.symm.trans r1, q2⟩
  · have hnF : ¬ FT cE mE := fun q => by
      have := q.2.1
      have := hT.2.1
      omega
    have hx := hx23 hnF
    subst hx
    obtain ⟨r1, r2⟩ := fin_ok hT h9 hDE e68 e44
    rcases r2 with ⟨w, r3, r4⟩ | ⟨w, r3, r4⟩
    · -- it is taken
      subst r3
      have z2 : g3 28 2 = c2 28 2 := zo 28 2 (by omega)
      have k2 := hT.2.1
      replace e := zb_if e
      rcases e with ⟨hc2, _⟩ | ⟨_, e⟩
      · have := zc_neT hc2
        rw [z2] at this
        exfalso
        omega
      · replace e := zb_bind e
        obtain ⟨g5, h17, e⟩ := e
        obtain ⟨p1, p2⟩ := t_17 (by omega) h17
        obtain ⟨o1, o2, o3⟩ := l_56_42 300 0 0 g5 g' v (by decide) e
        unfold d_110 at r4
        obtain ⟨n1, n2, n3, n4, n5⟩ := l_110_2 300 0 0 _ g1' (by decide) r4
        have gc : ∀ r k, ¬ (r = 1 ∧ k < 4) → ¬ (5 ≤ r ∧ r < 25) → ¬ (r = 55 ∧ k < 2) → g' r k = g3 r k := fun r k h1 h2 h3 => (o2 r k (by omega)).trans (p1 r k h1 (by omega))
        have gm : ∀ r k, ¬ (r = 113 ∧ (k = 2 ∨ k = 3 ∨ k = 14)) → ¬ (r = 115 ∧ k < 2) → ¬ (r = 114 ∧ k < 98) → g1' r k = mE r k := fun r k h1 h2 h3 => by rw [n1 r k (by omega) h2 (by omega), zg_un (by omega)]
        have m14 : g1' 113 14 = 0 := by rw [n1 _ _ (by omega) (by omega) (by omega)]; exact zg_ue
        have l1 : g' 28 1 = 0 := by rw [gc 28 1 (by omega) (by omega) (by omega)]; exact z1
        have cp : Cp 1 30 g3 g' := ⟨fun j hj => (o2 _ _ (by omega)).trans (p2.1 j hj), fun i j h1 h2 => (o2 _ _ (by omega)).trans (p2.2.1 i j h1 h2), fun i j h1 h2 => (o2 _ _ (by omega)).trans (p2.2.2.1 i j h1 h2), fun i j h1 h2 => (o2 _ _ (by omega)).trans (p2.2.2.2 i j h1 h2)⟩
        have hD3 : DR g3 mE := hDE.cg (fun r k hr => zo r k (by omega)) (fun _ _ _ => rfl)
        have w3 : Wh g3 mE := by
          unfold Wh
          rw [zo 30 0 (by omega), zo 30 1 (by omega), zo 30 2 (by omega)]
          exact w
        have wf := hD3.wfam w3
        have m116 : ∀ k, k < 98 → g1' 114 k = mE 116 k := fun k hk => by rw [n2 k (by omega) hk, zg_un (by omega)]
        obtain ⟨⟨⟨x1, x2, x3, x4, x5, x6, x7⟩, x8, x9⟩, d2, d3, d4, d5, d6⟩ := hD3
        refine ⟨o1.trans r1, ⟨by rw [l1, m14], by rw [l1]; decide, by rw [l1]; decide, fun k hk => ?_⟩, ?_, ⟨?_, ?_, wf.cp cp, ?_⟩, fun k hk => ⟨by rw [o3 k (by omega) hk, n5 k hk], Or.inl (o3 k (by omega) hk)⟩, hRE0.congr (fun r k hr => (gc r k (by omega) (by omega) (by omega)).trans ((zo r k (by omega)).trans (fc2 r k (by omega) (by omega)))) (fun r k hr => (gm r k (by omega) (by omega) (by omega)).trans (fm2 r k (by omega) (by omega)))⟩
        · rw [l1] at hk
          exfalso
          omega
        · unfold RB
          rw [gc 28 2 (by omega) (by omega) (by omega), z2, gm 113 19 (by omega) (by omega) (by omega)]
          exact Int32.toInt_inj.mp (by rw [k2, hT.2.2.1])
        · rw [cp.1 0 (by omega), x1, n3, zg_un (by omega)]
        · rw [cp.1 1 (by omega), x2, n4, zg_un (by omega)]
        · unfold Rfam
          rw [cp.1 1 (by omega), cp.1 2 (by omega), cp.1 3 (by omega)]
          refine ⟨by rw [x3, m116 (0 + 8) (by omega)], by rw [x7, m116 (0 + 65) (by omega)], fun p hp => ?_, fun d hd j hj => ?_, fun i hi => by omega⟩
          · have q := d2 p hp
            rw [cp.2.1 p 0 (by omega) (by omega), cp.2.1 p 1 (by omega) (by omega), m116 (0 + p) (by omega), m116 (0 + 4 + p) (by omega), show 0 + p = p by omega, show 0 + 4 + p = 4 + p by omega]
            exact ⟨q.1, q.2.1⟩
          · rw [cp.2.2.1 d j (by omega) hj, m116 (0 + 9 + 7 * d + j) (by omega), show 0 + 9 + 7 * d + j = 9 + 7 * d + j by omega]
            by_cases hj5 : j < 5
            · exact (d3 d hd).1 j hj5
            · have q := d4 d (by omega)
              by_cases hj6 : j = 5
              · subst hj6
                exact q.1
              · obtain rfl : j = 6 := by omega
                exact q.2.2.2.1
    · -- what there is not
      have hF : FT c2 g1' := by
        rw [r3, r4]
        unfold FT
        rw [zg_un (r := 28) (k := 2) (by omega), zg_ue, zg_ue, zg_un (r := 113) (k := 19) (by omega), zg_un (r := 113) (k := 19) (by omega), zg_ue, zg_un (r := 113) (k := 20) (by omega), zg_ue, ← hT.2.2.2.2.1]
        exact ⟨rfl, by decide, Int32.toInt_inj.mp h9.symm⟩
      obtain ⟨q1, q2⟩ := bad hF (by rw [r4]; exact zg_ue) (fun r k h1 h2 => by rw [r3, zg_un (by omega), zg_un (by omega)]; exact fc2 r k h1 h2) (fun r k h1 h2 => by rw [r4, zg_un (by omega), zg_un (by omega), zg_un (by omega)]; exact fm2 r k (by omega) h2)
      exact ⟨q1.symm.trans r1, q2⟩
