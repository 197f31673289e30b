/-! read() -/
/-- a MARK that a SHEET holds from CELL p on -/
def mk1 (r5 p : Nat) (g : G) : G := zg_up g (9 + (g (r5 + 1) p).toInt.toNat) 5 (g (r5 + 1) (p + 1))
def mkn (r5 s : Nat) : Nat → G → G
  | 0, g => g
  | i + 1, g => mk1 r5 (s + 2 * i) (mkn r5 s i g)
theorem mkn_fr {r5 s : Nat} {g : G} : ∀ (n r k : Nat), r < 9 ∨ k ≠ 5 ∨ 105 ≤ r → (∀ i, i < n → 0 ≤ (g (r5 + 1) (s + 2 * i)).toInt ∧ (g (r5 + 1) (s + 2 * i)).toInt < 8) → 105 ≤ r5 → mkn r5 s n g r k = g r k := by
  intro n
  induction n with
  | zero =>
    intro r k _ _ _
    rfl
  | succ n ih =>
    intro r k hr hb h5
    have q := ih (r5 + 1) (s + 2 * n) (by omega) (fun i hi => hb i (by omega)) h5
    have b := hb n (by omega)
    show mk1 r5 (s + 2 * n) (mkn r5 s n g) r k = _
    unfold mk1
    rw [q, zg_un (by omega)]
    exact ih r k hr (fun i hi => hb i (by omega)) h5
section RD
variable {c m g g' : G} {x1 x2 x3 x4 x5 x6 x7 v v' : Int32}
theorem t_50 {r0 : Nat} {x : Int32} (hL : 0 ≤ (g r0 0).toInt ∧ (g r0 0).toInt ≤ 40) (e : d_50 r0 x g = v) : (0 ≤ x.toInt ∧ x.toInt + 1 < (g r0 0).toInt ∧ v = 0) ∨ (¬ (0 ≤ x.toInt ∧ x.toInt + 1 < (g r0 0).toInt) ∧ v.toInt = 2) := by
  unfold d_50 at e
  have L0 := zl_0
  have L1 := zl_1
  replace e := zb_let e
  obtain ⟨v1, h1, e⟩ := e
  have t1 := t_49 h1
  replace e := zb_if e
  rcases e with ⟨hc, e⟩ | ⟨hc, e⟩
  · have q := zc_eqT hc
    replace e := zb_let e
    obtain ⟨v3, h3, e⟩ := e
    have t3 := t_49 h3
    subst e
    have y := zi_add (x := x) (y := 1) (by omega) (by omega)
    rcases t3 with t3 | t3 | t3
    · exfalso
      omega
    · exact Or.inl ⟨by omega, by omega, Int32.toInt_inj.mp (by omega)⟩
    · exact Or.inr ⟨by omega, by omega⟩
  · have q := zc_eqF hc
    subst e
    right
    omega
theorem t_50n {r0 : Nat} {x : Int32} (hL : (g r0 0).toInt = -1) (e : d_50 r0 x g = v) : v.toInt = 1 := by
  unfold d_50 at e
  have L0 := zl_0
  replace e := zb_let e
  obtain ⟨v1, h1, e⟩ := e
  have t1 := t_49 h1
  replace e := zb_if e
  rcases e with ⟨hc, e⟩ | ⟨hc, e⟩
  · have q := zc_eqT hc
    exfalso
    omega
  · subst e
    omega
/-- the class's MARKS come -/
theorem l_87_130 {r5 s : Nat} (hs : x3.toInt = s) {w : Nat} (hw : x7.toInt = w) (h5 : 105 ≤ r5) (hb : ∀ i, i < w → s + 2 * i + 1 < 40 ∧ 0 ≤ (g (r5 + 1) (s + 2 * i)).toInt ∧ (g (r5 + 1) (s + 2 * i)).toInt < 8) : ∀ (f : Nat) (x8 : Int32) (n : Nat) (g' : G), x8.toInt = n → n ≤ w → d_87_130 x3 r5 x6 x7 f x8 (mkn r5 s n g) = some (v, g') → v = x7 ∧ g' = zg_up (mkn r5 s w g) 0 7 x6 := by
  intro f
  induction f with
  | zero =>
    intro x8 n g' _ _ e
    rw [d_87_130.eq_1] at e
    cases e
  | succ f ih =>
    intro x8 n g' hx hnw e
    rw [d_87_130.eq_2] at e
    have L1 := zl_1
    have L2 := zl_2
    replace e := zb_if e
    rcases e with ⟨hc, e⟩ | ⟨hc, e⟩
    · have q := zc_geT hc
      obtain rfl : n = w := by omega
      replace e := zb_let e
      obtain ⟨g11, h11, e⟩ := e
      obtain ⟨e1, e2⟩ := zb_r2 e
      exact ⟨e1.symm, by rw [← e2, ← h11]⟩
    · have q := zc_geF hc
      have hn := hb n (by omega)
      have y1 := zi_mul (x := 2) (y := x8) (n := 2) (by decide) (by omega) (by omega)
      have y2 := zi_add (x := x3) (y := 2 * x8) (by omega) (by omega)
      have y3 := zi_add (x := x3 + 2 * x8) (y := 1) (by omega) (by omega)
      have y4 := zi_add (x := x8) (y := 1) (by omega) (by omega)
      replace e := zb_bind e
      obtain ⟨k12, h12, e⟩ := e
      replace e := zb_bind e
      obtain ⟨k13, h13, e⟩ := e
      replace e := zb_bind e
      obtain ⟨k14, h14, e⟩ := e
      replace e := zb_let e
      obtain ⟨g15, h15, e⟩ := e
      have b12 := zm_ix_ko h12
      have b13 := zm_ix_ko h13
      have b14 := zm_ix_ko h14
      obtain rfl : k12 = s + 2 * n := by omega
      obtain rfl : k14 = s + 2 * n + 1 := by omega
      refine ih (x8 + 1) (n + 1) g' (by omega) (by omega) ?_
      show d_87_130 x3 r5 x6 x7 f (x8 + 1) (mk1 r5 (s + 2 * n) (mkn r5 s n g)) = some (v, g')
      unfold mk1
      rw [show (mkn r5 s n g (r5 + 1) (s + 2 * n)).toInt.toNat = k13 by omega, h15]
      exact e
/-- the reference's look at one MARK -/
theorem in_77 {k62 : Int32 → Int32 → Int32 → G → Option (Int32 × G)} {k : Nat} {q : Int32 × G} (hk : x1.toInt = k) (hk4 : k < 4) (hi : 0 ≤ x7.toInt ∧ x7.toInt < 20) (hL : 0 ≤ (m 120 k).toInt ∧ (m 120 k).toInt ≤ 40) (e : d_186_77 x1 x2 x3 x4 x6 x7 m k62 300 0 0 = some q) :
    ((m 119 k).toInt = -4 ∧ k62 1 x6 (x7 + 1) m = some q) ∨ ((m 119 k).toInt ≠ -4 ∧ (m 119 k).toInt ≠ x2.toInt ∧ k62 3 x6 (x7 + 1) m = some q) ∨
    ((m 119 k).toInt ≠ -4 ∧ (m 119 k).toInt = x2.toInt ∧ ¬ (0 ≤ x3.toInt + 2 * x7.toInt ∧ x3.toInt + 2 * x7.toInt + 1 < (m 120 k).toInt) ∧ k62 2 x6 (x7 + 1) m = some q) ∨
    ((m 119 k).toInt ≠ -4 ∧ (m 119 k).toInt = x2.toInt ∧ (0 ≤ x3.toInt + 2 * x7.toInt ∧ x3.toInt + 2 * x7.toInt + 1 < (m 120 k).toInt) ∧ ∃ p : Nat, (p : Int) = x3.toInt + 2 * x7.toInt ∧ zb_bp (d_148 (m 121 (40 * k + p)) (m 121 (40 * k + p + 1)) m) (fun v14 g15 => bif zm_cmp .ge v14 0 then k62 0 (x6 + 1) (x7 + 1) g15 else d_186_208 x7 300 0 g15) = some q) := by
  have L0 := zl_0
  have L1 := zl_1
  have L2 := zl_2
  have L3 := zl_3
  have L40 := zl_40
  have Lm4 := zl_m4
  have K0 : (0 : Int64).toInt = 0 := by decide
  have r3 := zi_rng x3
  have y1 := zi_mul (x := 2) (y := x7) (n := 2) (by decide) (by omega) (by omega)
  have j1 := zi_i64 x3
  have j2 := zi_i64 (2 * x7)
  have j3 := zj_add (x := Int32.toInt64 x3) (y := Int32.toInt64 (2 * x7)) (by omega) (by omega)
  have j4 : (Int32.toInt64 (0 : Int32)).toInt = 0 := by decide
  have j5 : (Int32.toInt64 (1 : Int32)).toInt = 1 := by decide
  have s0 := zj_add (x := Int32.toInt64 x3 + Int32.toInt64 (2 * x7)) (y := Int32.toInt64 0) (by omega) (by omega)
  have s1 := zj_add (x := Int32.toInt64 x3 + Int32.toInt64 (2 * x7)) (y := Int32.toInt64 1) (by omega) (by omega)
  have o1 : (0 : Int32) + 1 = 1 := by decide
  have o2 : (1 : Int32) + 1 = 2 := by decide
  -- the second look and what follows, for a FAULT found at the first
  have ends : ∀ (n : Nat) (rr : Int32), rr.toInt ≠ 0 → ∀ y8 : Int32, d_186_77 x1 x2 x3 x4 x6 x7 m k62 (n + 1) rr y8 = some q → k62 rr x6 (x7 + 1) m = some q := by
    intro n rr hr y8 e
    rw [d_186_77.eq_2] at e
    have hne : zm_cmp .ne rr 0 = true := by
      cases hb : zm_cmp .ne rr 0 with
      | true => rfl
      | false => exact absurd ((zc_neF hb).trans zl_0) hr
    replace e := zb_if e
    rcases e with ⟨_, e⟩ | ⟨_, e⟩
    · rw [hne, cond_true] at e
      exact e
    · rw [hne, cond_true, cond_true] at e
      exact e
  have look : ∀ (n : Nat) (y8 : Int32), (y8.toInt = 0 ∨ y8.toInt = 1) → d_186_77 x1 x2 x3 x4 x6 x7 m k62 (n + 1) 0 y8 = some q → ((m 119 k).toInt = -4 ∧ d_186_77 x1 x2 x3 x4 x6 x7 m k62 n 1 (y8 + 1) = some q) ∨ ((m 119 k).toInt ≠ -4 ∧ (m 119 k).toInt ≠ x2.toInt ∧ d_186_77 x1 x2 x3 x4 x6 x7 m k62 n 3 (y8 + 1) = some q) ∨ ((m 119 k).toInt ≠ -4 ∧ (m 119 k).toInt = x2.toInt ∧ ¬ (0 ≤ x3.toInt + 2 * x7.toInt + y8.toInt ∧ x3.toInt + 2 * x7.toInt + y8.toInt < (m 120 k).toInt) ∧ d_186_77 x1 x2 x3 x4 x6 x7 m k62 n 2 (y8 + 1) = some q) ∨ ((m 119 k).toInt ≠ -4 ∧ (m 119 k).toInt = x2.toInt ∧ (0 ≤ x3.toInt + 2 * x7.toInt + y8.toInt ∧ x3.toInt + 2 * x7.toInt + y8.toInt < (m 120 k).toInt) ∧ d_186_77 x1 x2 x3 x4 x6 x7 m k62 n 0 (y8 + 1) = some q) := by
    intro n y8 hy e
    rw [d_186_77.eq_2] at e
    have j8 := zi_i64 y8
    have s8 := zj_add (x := Int32.toInt64 x3 + Int32.toInt64 (2 * x7)) (y := Int32.toInt64 y8) (by omega) (by omega)
    replace e := zb_if e
    rcases e with ⟨hc, _⟩ | ⟨_, e⟩
    · have := zc_geT hc
      exfalso
      omega
    · replace e := zb_if e
      rcases e with ⟨hc, _⟩ | ⟨_, e⟩
      · have := zc_neT hc
        exact absurd rfl this
      · replace e := zb_bind e
        obtain ⟨k28, h28, e⟩ := e
        have b28 := zm_ix_ko h28
        obtain rfl : k28 = k := by omega
        replace e := zb_if e
        rcases e with ⟨hc, e⟩ | ⟨hc, e⟩
        · have n4 := zc_neT hc
          replace e := zb_bind e
          obtain ⟨k30, h30, e⟩ := e
          have b30 := zm_ix_ko h30
          obtain rfl : k30 = k28 := by omega
          replace e := zb_if e
          rcases e with ⟨hc, e⟩ | ⟨hc, e⟩
          · have q2 := zc_eqT hc
            have cz := zl_cf (x := (Int32.toInt64 x3 + Int32.toInt64 (2 * x7)) + Int32.toInt64 y8) (y := 0)
            replace e := zb_if e
            rcases e with ⟨hc, e⟩ | ⟨hc, e⟩
            · have q3 := zc_ltT hc
              exact Or.inr (Or.inr (Or.inl ⟨by omega, q2, by omega, e⟩))
            · have q3 := zc_ltF hc
              replace e := zb_bind e
              obtain ⟨k33, h33, e⟩ := e
              have b33 := zm_ix_ko h33
              obtain rfl : k33 = k30 := by omega
              have jL := zi_i64 (m 120 k33)
              have cz2 := zl_cf (x := (Int32.toInt64 x3 + Int32.toInt64 (2 * x7)) + Int32.toInt64 y8) (y := Int32.toInt64 (m 120 k33))
              replace e := zb_if e
              rcases e with ⟨hc, e⟩ | ⟨hc, e⟩
              · have q4 := zc_ltT hc
                exact Or.inr (Or.inr (Or.inr ⟨by omega, q2, by omega, e⟩))
              · have q4 := zc_ltF hc
                exact Or.inr (Or.inr (Or.inl ⟨by omega, q2, by omega, e⟩))
          · have q2 := zc_eqF hc
            exact Or.inr (Or.inl ⟨by omega, q2, e⟩)
        · have n4 := zc_neF hc
          exact Or.inl ⟨by omega, e⟩
  rcases look 299 0 (Or.inl zl_0) e with ⟨a, e⟩ | ⟨a, b, e⟩ | ⟨a, b, d, e⟩ | ⟨a, b, d, e⟩
  · exact Or.inl ⟨a, ends 298 1 (by decide) _ e⟩
  · exact Or.inr (Or.inl ⟨a, b, ends 298 3 (by decide) _ e⟩)
  · exact Or.inr (Or.inr (Or.inl ⟨a, b, by omega, ends 298 2 (by decide) _ e⟩))
  · rw [o1] at e
    rcases look 298 1 (Or.inr zl_1) e with ⟨a', _⟩ | ⟨_, b', _⟩ | ⟨_, _, d', e⟩ | ⟨_, _, d', e⟩
    · exact absurd a' a
    · exact absurd b b'
    · exact Or.inr (Or.inr (Or.inl ⟨a, b, by omega, ends 297 2 (by decide) _ e⟩))
    · rw [o2, d_186_77.eq_2] at e
      obtain ⟨p, hp⟩ : ∃ p : Nat, x3.toInt + 2 * x7.toInt = p := ⟨(x3.toInt + 2 * x7.toInt).toNat, by omega⟩
      refine Or.inr (Or.inr (Or.inr ⟨a, b, by omega, p, by omega, ?_⟩))
      have y3 := zi_mul (x := 40) (y := x1) (n := 40) (by decide) (by omega) (by omega)
      have y4 := zi_add (x := 40 * x1) (y := x3) (by omega) (by omega)
      have y5 := zi_add (x := 40 * x1 + x3) (y := 2 * x7) (by omega) (by omega)
      have y6 := zi_add (x := 40 * x1 + x3 + 2 * x7) (y := 1) (by omega) (by omega)
      replace e := zb_if e
      rcases e with ⟨_, e⟩ | ⟨hc, _⟩
      · replace e := zb_if e
        rcases e with ⟨hc, _⟩ | ⟨_, e⟩
        · exact absurd rfl (zc_neT hc)
        · replace e := zb_bind e
          obtain ⟨k12, h12, e⟩ := e
          replace e := zb_bind e
          obtain ⟨k13, h13, e⟩ := e
          have b12 := zm_ix_ko h12
          have b13 := zm_ix_ko h13
          obtain rfl : k12 = 40 * k + p := by omega
          obtain rfl : k13 = 40 * k + p + 1 := by omega
          exact e
      · have := zc_geF hc
        exfalso
        omega
/-- the MARKS are put back -/
theorem l_186_208 : ∀ (f : Nat) (x9 : Int32) (n : Nat) (g g' : G), x9.toInt = n → n ≤ 8 → d_186_208 x7 f x9 g = some (v, g') → v = (-20) - x7 ∧ (∀ r k, ¬ (r = 114 ∧ ∃ d, n ≤ d ∧ d < 8 ∧ k = 9 + 7 * d + 5) → g' r k = g r k) ∧ ∀ d, n ≤ d → d < 8 → g' 114 (9 + 7 * d + 5) = g 122 d := by
  intro f
  induction f with
  | zero =>
    intro x9 n g g' _ _ e
    rw [d_186_208.eq_1] at e
    cases e
  | succ f ih =>
    intro x9 n g g' hx hn e
    rw [d_186_208.eq_2] at e
    have L1 := zl_1
    have L8 := zl_8
    replace e := zb_if e
    rcases e with ⟨hc, e⟩ | ⟨hc, e⟩
    · have q := zc_geT hc
      obtain ⟨e1, e2⟩ := zb_r2 e
      subst e2
      exact ⟨e1.symm, fun _ _ _ => rfl, fun d h1 h2 => by omega⟩
    · have q := zc_geF hc
      have yi := zi_idx (x := x9) (o := 5) (n := 5) hx (by omega) (by decide) (by omega)
      have ya := zi_add (x := x9) (y := 1) (by omega) (by omega)
      replace e := zb_bind e
      obtain ⟨k18, h18, e⟩ := e
      replace e := zb_bind e
      obtain ⟨k20, h20, e⟩ := e
      have b18 := zm_ix_ko h18
      have b20 := zm_ix_ko h20
      obtain rfl : k18 = n := by omega
      obtain rfl : k20 = 9 + 7 * k18 + 5 := by omega
      replace e := zb_let e
      obtain ⟨g19, h19, e⟩ := e
      obtain ⟨i0, i1, i2⟩ := ih (x9 + 1) (k18 + 1) g19 g' (by omega) (by omega) e
      refine ⟨i0, fun r k hr => ?_, fun d h1 h2 => ?_⟩
      · rw [i1 r k (fun ⟨w1, d, w2, w3, w4⟩ => hr ⟨w1, d, by omega, w3, w4⟩), zg_fr h19 r k (fun ⟨w1, w2⟩ => hr ⟨w1, k18, by omega, by omega, w2⟩)]
      · by_cases hh : d = k18
        · subst hh
          rw [i1 _ _ (fun ⟨_, d', w2, w3, w4⟩ => by omega), ← h19]
          exact zg_ue
        · rw [i2 d (by omega) h2, zg_fr h19 _ _ (by omega)]
/-- the MARKS are laid aside -/
theorem l_186_26 : ∀ (f : Nat) (x5 : Int32) (n : Nat) (g g' : G), x5.toInt = n → n ≤ 8 → d_186_26 x1 x2 x3 x4 f x5 g = some (v, g') → ∃ g1, d_186_62 x1 x2 x3 x4 300 0 0 0 g1 = some (v, g') ∧ (∀ r k, ¬ (r = 122 ∧ n ≤ k ∧ k < 8) → g1 r k = g r k) ∧ ∀ d, n ≤ d → d < 8 → g1 122 d = g 114 (9 + 7 * d + 5) := by
  intro f
  induction f with
  | zero =>
    intro x5 n g g' _ _ e
    rw [d_186_26.eq_1] at e
    cases e
  | succ f ih =>
    intro x5 n g g' hx hn e
    rw [d_186_26.eq_2] at e
    have L1 := zl_1
    have L8 := zl_8
    replace e := zb_if e
    rcases e with ⟨hc, e⟩ | ⟨hc, e⟩
    · have q := zc_geT hc
      exact ⟨g, e, fun _ _ _ => rfl, fun d h1 h2 => by omega⟩
    · have q := zc_geF hc
      have ya := zi_add (x := x5) (y := 1) (by omega) (by omega)
      replace e := zb_bind e
      obtain ⟨v35, h35, e⟩ := e
      rw [t_136 (d := n) (n := 5) hx (by omega) (by decide) (by omega)] at h35
      have h35 := Option.some.inj h35
      replace e := zb_bind e
      obtain ⟨k37, h37, e⟩ := e
      have b37 := zm_ix_ko h37
      obtain rfl : k37 = n := by omega
      replace e := zb_let e
      obtain ⟨g36, h36, e⟩ := e
      obtain ⟨g1, i0, i1, i2⟩ := ih (x5 + 1) (k37 + 1) g36 g' (by omega) (by omega) e
      refine ⟨g1, i0, fun r k hr => (i1 r k (by omega)).trans (zg_fr h36 r k (by omega)), fun d h1 h2 => ?_⟩
      by_cases hh : d = k37
      · subst hh
        rw [i1 _ _ (by omega), ← h36, zg_ue, ← h35]
      · exact (i2 d (by omega) h2).trans (zg_fr h36 _ _ (by omega))
end RD
