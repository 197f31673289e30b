/-! odds() and luck(): the weight of a DAY -/
theorem zj_10 {v : Int32} (h : 0 ≤ v.toInt ∧ v.toInt ≤ 10) : Int32.toInt64 (10 - v) = 10 - Int32.toInt64 v := by
  have L10 := zl_10
  have J10 : (10 : Int64).toInt = 10 := by decide
  apply Int64.toInt_inj.mp
  rw [zi_i64, zi_sub (by omega) (by omega), Int64.toInt_sub, zi_i64, L10, J10, Int.bmod_def]
  omega
theorem t_14 {b k : Nat} {g : G} (W : Wdeed b k g) : 0 ≤ (d_14 (b + 8 + k) g).toInt ∧ (d_14 (b + 8 + k) g).toInt ≤ 10 := by
  unfold Wdeed at W
  have L10 := zl_10
  have L0 := zl_0
  unfold d_14
  cases zm_cmp .ne (g (b + 8 + k) 5) 1 with
  | true =>
    cases zm_cmp .ne (g (b + 8 + k) 5) 2 with
    | true => exact ⟨W.2.2.2.2.2.2.2.2.2.2.2.2.1, W.2.2.2.2.2.2.2.2.2.2.2.2.2⟩
    | false => exact ⟨by show 0 ≤ (0 : Int32).toInt; omega, by show (0 : Int32).toInt ≤ 10; omega⟩
  | false => exact ⟨by show 0 ≤ (10 : Int32).toInt; omega, by show (10 : Int32).toInt ≤ 10; omega⟩
theorem l_103 {g m : G} {x1 : Int32} (hR : RCb 1 g m) : ∀ (f : Nat) (x2 v v' : Int64) (x4 : Int32) (k : Nat), x4.toInt = k → d_103_5 x1 g f x2 x4 = some v → d_171_5 x1 m f x2 x4 = some v' → v = v' := by
  intro n
  induction n with
  | zero =>
    intro x2 v v' x4 k _ e
    rw [d_103_5.eq_1] at e
    cases e
  | succ n ih =>
    intro x2 v v' x4 k hx e f
    rw [d_103_5.eq_2] at e
    rw [d_171_5.eq_2, ← hR.2.2.2.1] at f
    have L1 := zl_1
    have nn := hR.nums
    rcases zb_if2 Iff.rfl e f with ⟨_, _, e, f⟩ | ⟨hc, _, e, f⟩
    · exact (zb_r1 e).symm.trans (zb_r1 f)
    · have q := zc_geF hc
      have ya := zi_add (x := x4) (y := 1) (by omega) (by omega)
      replace e := zb_bind e
      obtain ⟨k2, h2, e⟩ := e
      have b2 := zm_ix_ko h2
      obtain rfl : k2 = k := by omega
      have wd := hR.wdeed (d := k2) (by omega)
      have r := t_14 wd
      rw [t_136 hx (by omega) (show (5 : Int32).toInt = (5 : Nat) from by decide) (by omega), t_136 hx (by omega) (show (6 : Int32).toInt = (6 : Nat) from by decide) (by omega), ← hR.deeds (d := k2) (by omega) (show 5 < 7 by omega), ← hR.deeds (d := k2) (by omega) (show 6 < 7 by omega)] at f
      have f : d_171_58 x1 x2 x4 (Int32.toInt64 (d_14 (1 + 8 + k2) g)) m (d_171_5 x1 m n) = some v' := by
        have f : (bif zm_cmp .ne (g (1 + 8 + k2) 5) 1 then (bif zm_cmp .ne (g (1 + 8 + k2) 5) 2 then d_171_58 x1 x2 x4 (Int32.toInt64 (g (1 + 8 + k2) 6)) m (d_171_5 x1 m n) else d_171_58 x1 x2 x4 0 m (d_171_5 x1 m n)) else d_171_58 x1 x2 x4 10 m (d_171_5 x1 m n)) = some v' := f
        unfold d_14
        cases h1 : zm_cmp .ne (g (1 + 8 + k2) 5) 1 with
        | true =>
          rw [h1] at f
          cases h2 : zm_cmp .ne (g (1 + 8 + k2) 5) 2 with
          | true =>
            rw [h2] at f
            exact f
          | false =>
            rw [h2] at f
            exact f
        | false =>
          rw [h1] at f
          exact f
      unfold d_171_58 at f
      replace e := zb_let e
      obtain ⟨v3, h3, e⟩ := e
      have h3 : d_14 (1 + 8 + k2) g = v3 := h3
      rw [h3] at f r
      replace e := zb_let e
      obtain ⟨v4, h4, e⟩ := e
      have b4 := b_90n (x0 := x1) hx (by omega)
      rw [h4] at b4
      replace e := zb_if e
      replace f := zb_if f
      rcases zbt (x := x1) hx (by omega) with z | z
      · rcases e with ⟨hc, e⟩ | ⟨hc, e⟩
        · rcases f with ⟨kc, f⟩ | ⟨kc, f⟩
          · have := zc_neT kc
            exfalso
            omega
          · exact ih _ v v' (x4 + 1) (k2 + 1) (by omega) e f
        · exact absurd z.1 (zd_no b4 hc)
      · rcases e with ⟨hc, e⟩ | ⟨hc, e⟩
        · exact absurd (b4.mp hc) z.1
        · rcases f with ⟨kc, f⟩ | ⟨kc, f⟩
          · rw [zj_10 r] at e
            exact ih _ v v' (x4 + 1) (k2 + 1) (by omega) e f
          · have := zc_neF kc
            exfalso
            omega
/-! Euclid: both sides walk together, and the class's limit is never reached -/
def tT : Nat → Nat
  | 0 => 2
  | j + 1 => tT j + tT j / 2
theorem tT_90 : 2 ^ 40 < tT 90 := by decide +kernel
theorem zj_mod {x y : Int64} (hx : 0 ≤ x.toInt) (hy : 0 < y.toInt) : (x - x / y * y).toInt = x.toInt % y.toInt := by
  rw [zj_tmod, Int.tmod_eq_emod_of_nonneg hx]
theorem l_eu {g m : G} {x1 x4 : Int64} {x3 : Int32} : ∀ (f j : Nat) (a b : Int64) (x8 : Int32) (k : Nat) (v2 v' : Int64), x8.toInt = k → k + j < 100 → 0 ≤ b.toInt → b.toInt < a.toInt → a.toInt + b.toInt < (tT j : Nat) → d_105_9 g f a b x8 = some v2 → d_172_39 x1 x3 x4 m f a b = some v' → 0 < v2.toInt ∧ v' = (bif zm_cmp .ne x3 0 then x4 / v2 else x1 / v2) := by
  intro n
  induction n with
  | zero =>
    intro j a b x8 k v2 v' _ _ _ _ _ e
    rw [d_105_9.eq_1] at e
    cases e
  | succ n ih =>
    intro j a b x8 k v2 v' hx hk hb hab hT e f
    rw [d_105_9.eq_2] at e
    rw [d_172_39.eq_2] at f
    have L0 := zl_0
    have L1 := zl_1
    have L100 := zl_100
    have J0 : (0 : Int64).toInt = 0 := by decide
    have c0 := zl_cf (x := b) (y := (0 : Int64))
    replace e := zb_if e
    rcases e with ⟨hc, e⟩ | ⟨hc, e⟩
    · have := zc_geT hc
      exfalso
      omega
    · rcases zb_if2 Iff.rfl e f with ⟨h1, _, e, f⟩ | ⟨h1, _, e, f⟩
      · have e1 := zb_r1 e
        subst e1
        refine ⟨by omega, ?_⟩
        cases h3 : zm_cmp .ne x3 0 with
        | true =>
          rw [h3] at f
          have f : (bif a == 0 then none else some (x4 / a)) = some v' := f
          replace f := zb_if f
          rcases f with ⟨_, f⟩ | ⟨_, f⟩
          · cases f
          · exact (zb_r1 f).symm
        | false =>
          rw [h3] at f
          have f : (bif a == 0 then none else some (x1 / a)) = some v' := f
          replace f := zb_if f
          rcases f with ⟨_, f⟩ | ⟨_, f⟩
          · cases f
          · exact (zb_r1 f).symm
      · have h1 := zc_eqF h1
        have hb1 : 0 < b.toInt := by omega
        rcases zb_if2 Iff.rfl e f with ⟨_, _, e, f⟩ | ⟨_, _, e, f⟩
        · cases e
        · have ya := zi_add (x := x8) (y := 1) (by omega) (by omega)
          have r := zj_mod (x := a) (y := b) (by omega) hb1
          have r1 := Int.emod_nonneg a.toInt (show b.toInt ≠ 0 by omega)
          have r2 := Int.emod_lt_of_pos a.toInt hb1
          have r3 : a.toInt % b.toInt + b.toInt ≤ a.toInt := by
            have q : 1 ≤ a.toInt / b.toInt := Int.le_ediv_of_mul_le hb1 (by omega)
            have := Int.mul_le_mul_of_nonneg_left q (show 0 ≤ b.toInt by omega)
            rw [Int.emod_def]
            omega
          cases j with
          | zero =>
            rw [tT] at hT
            exfalso
            omega
          | succ j =>
            rw [tT] at hT
            exact ih j b _ (x8 + 1) (k + 1) v2 v' (by omega) (by omega) (by omega) (by omega) (by omega) e f
/-- both sides tell the same half -/
theorem told_eu {g m : G} {x1 x4 v2 v' : Int64} {x3 : Int32} (h4 : 0 < x4.toInt ∧ x4.toInt ≤ 2 ^ 36) (h1 : 0 ≤ x1.toInt ∧ x1.toInt ≤ 2 ^ 36) (e : d_105 x4 x1 g = some v2) (f : d_172_39 x1 x3 x4 m 300 x4 x1 = some v') : 0 < v2.toInt ∧ v' = (bif zm_cmp .ne x3 0 then x4 / v2 else x1 / v2) := by
  unfold d_105 at e
  have T := tT_90
  have L0 := zl_0
  have L1 := zl_1
  have L100 := zl_100
  have J0 : (0 : Int64).toInt = 0 := by decide
  by_cases h : x1.toInt < x4.toInt
  · exact l_eu 300 90 x4 x1 0 0 v2 v' (by decide) (by omega) h1.1 h (by omega) e f
  · rw [d_105_9.eq_2] at e
    rw [d_172_39.eq_2] at f
    have c0 := zl_cf (x := x1) (y := (0 : Int64))
    replace e := zb_if e
    rcases e with ⟨hc, e⟩ | ⟨hc, e⟩
    · have := zc_geT hc
      exfalso
      omega
    · rcases zb_if2 Iff.rfl e f with ⟨h2, _, e, f⟩ | ⟨h2, _, e, f⟩
      · have := zc_eqT h2
        exfalso
        omega
      · rcases zb_if2 Iff.rfl e f with ⟨_, _, e, f⟩ | ⟨_, _, e, f⟩
        · cases e
        · have r := zj_mod (x := x4) (y := x1) (by omega) (by omega)
          have r1 := Int.emod_nonneg x4.toInt (show x1.toInt ≠ 0 by omega)
          have r2 := Int.emod_lt_of_pos x4.toInt (show 0 < x1.toInt by omega)
          have ya := zi_add (x := 0) (y := 1) (by omega) (by omega)
          exact l_eu 299 90 x1 _ (0 + 1) 1 v2 v' (by omega) (by omega) (by omega) (by omega) (by omega) e f
theorem zp10 : ∀ k, k < 9 → 1 ≤ (10 : Int) ^ k ∧ (10 : Int) ^ k ≤ 100000000 := by decide +kernel
theorem zj_mul10 {x y : Int64} {k : Nat} (hk : k < 8) (hx : 0 ≤ x.toInt ∧ x.toInt ≤ 10 ^ k) (hy : 0 ≤ y.toInt ∧ y.toInt ≤ 10) : (x * y).toInt = x.toInt * y.toInt ∧ 0 ≤ (x * y).toInt ∧ (x * y).toInt ≤ 10 ^ (k + 1) := by
  have p := zp10 k (by omega)
  have p' := zp10 (k + 1) (by omega)
  have m1 : x.toInt * y.toInt ≤ 10 ^ k * 10 := Int.mul_le_mul hx.2 hy.2 hy.1 (by omega)
  have m0 : 0 ≤ x.toInt * y.toInt := Int.mul_nonneg hx.1 hy.1
  have e : (x * y).toInt = x.toInt * y.toInt := by
    rw [Int64.toInt_mul]
    exact zj_bm (by omega) (by omega)
  rw [e, Int.pow_succ]
  exact ⟨rfl, m0, m1⟩
theorem l_103b {g m : G} {x1 : Int32} (hR : RCb 1 g m) : ∀ (f : Nat) (x2 v : Int64) (x4 : Int32) (k : Nat), x4.toInt = k → k ≤ 8 → 0 ≤ x2.toInt ∧ x2.toInt ≤ 10 ^ k → d_103_5 x1 g f x2 x4 = some v → 0 ≤ v.toInt ∧ v.toInt ≤ 100000000 := by
  intro n
  induction n with
  | zero =>
    intro x2 v x4 k _ _ _ e
    rw [d_103_5.eq_1] at e
    cases e
  | succ n ih =>
    intro x2 v x4 k hx hk h2 e
    rw [d_103_5.eq_2] at e
    have L1 := zl_1
    have L10 := zl_10
    have nn := hR.nums
    have p := zp10 k (by omega)
    replace e := zb_if e
    rcases e with ⟨_, e⟩ | ⟨hc, e⟩
    · have e1 := zb_r1 e
      subst e1
      omega
    · have q := zc_geF hc
      have ya := zi_add (x := x4) (y := 1) (by omega) (by omega)
      replace e := zb_bind e
      obtain ⟨k2, j2, e⟩ := e
      have b2 := zm_ix_ko j2
      obtain rfl : k2 = k := by omega
      have r := t_14 (hR.wdeed (d := k2) (by omega))
      replace e := zb_let e
      obtain ⟨v3, h3, e⟩ := e
      have h3 : d_14 (1 + 8 + k2) g = v3 := h3
      rw [h3] at r
      have ys := zi_sub (x := 10) (y := v3) (by omega) (by omega)
      replace e := zb_let e
      obtain ⟨v4, h4, e⟩ := e
      replace e := zb_if e
      rcases e with ⟨_, e⟩ | ⟨_, e⟩
      · exact ih _ v (x4 + 1) (k2 + 1) (by omega) (by omega) (zj_mul10 (by omega) h2 (by rw [zi_i64]; omega)).2 e
      · exact ih _ v (x4 + 1) (k2 + 1) (by omega) (by omega) (zj_mul10 (by omega) h2 (by rw [zi_i64]; omega)).2 e
theorem l_104 {g m : G} {x1 : Int64} {x3 : Int32} (hR : RCb 1 g m) (h1 : 0 ≤ x1.toInt ∧ x1.toInt ≤ 2 ^ 36) : ∀ (f : Nat) (x4 v v' : Int64) (x6 : Int32) (k : Nat), x6.toInt = k → k ≤ 8 → 0 < x4.toInt → x4.toInt ≤ 10 ^ k → d_104_6 x1 x3 g f x4 x6 = some v → d_172_6 x1 x3 m f x4 x6 = some v' → v = v' := by
  intro n
  induction n with
  | zero =>
    intro x4 v v' x6 k _ _ _ _ e
    rw [d_104_6.eq_1] at e
    cases e
  | succ n ih =>
    intro x4 v v' x6 k hx hk h0 h4 e f
    rw [d_104_6.eq_2] at e
    rw [d_172_6.eq_2, ← hR.2.2.2.1] at f
    have L0 := zl_0
    have L1 := zl_1
    have J0 : (0 : Int64).toInt = 0 := by decide
    have J10 : (10 : Int64).toInt = 10 := by decide
    have nn := hR.nums
    have p := zp10 k (by omega)
    rcases zb_if2 Iff.rfl e f with ⟨_, _, e, f⟩ | ⟨hc, _, e, f⟩
    · replace e := zb_bind e
      obtain ⟨v2, j2, e⟩ := e
      obtain ⟨a1, a2⟩ := told_eu (x3 := x3) (m := m) ⟨h0, by omega⟩ h1 j2 f
      have c0 := zl_cf (x := v2) (y := (0 : Int64))
      rw [a2]
      cases h3 : zm_cmp .ne x3 0 with
      | true =>
        rw [h3] at e
        have e : (bif zm_cmp .le (lg_cmp v2 0) 0 then some x4 else bif v2 == 0 then none else some (x4 / v2)) = some v := e
        replace e := zb_if e
        rcases e with ⟨hc, e⟩ | ⟨_, e⟩
        · have := zc_leT hc
          exfalso
          omega
        · replace e := zb_if e
          rcases e with ⟨_, e⟩ | ⟨_, e⟩
          · cases e
          · exact (zb_r1 e).symm
      | false =>
        rw [h3] at e
        have e : (bif zm_cmp .le (lg_cmp v2 0) 0 then some x1 else bif v2 == 0 then none else some (x1 / v2)) = some v := e
        replace e := zb_if e
        rcases e with ⟨hc, e⟩ | ⟨_, e⟩
        · have := zc_leT hc
          exfalso
          omega
        · replace e := zb_if e
          rcases e with ⟨_, e⟩ | ⟨_, e⟩
          · cases e
          · exact (zb_r1 e).symm
    · have q := zc_geF hc
      have ya := zi_add (x := x6) (y := 1) (by omega) (by omega)
      have mm := zj_mul10 (x := x4) (y := 10) (k := k) (by omega) ⟨by omega, h4⟩ (by omega)
      rw [J10] at mm
      exact ih (x4 * 10) v v' (x6 + 1) (k + 1) (by omega) (by omega) (by omega) mm.2.2 e f
theorem hang_eq {c g m : G} {x : Int32} {r r' : Bool} (hR : RCb 1 c m) (hL : Looked 1 c g) (h0 : 0 ≤ x.toInt) (h : x.toInt ≤ (g 25 0).toInt) (e : d_6 x g = some r) (f : d_152 x m = some r') : r = true ↔ r' = true := (t_6 hR.2.2.1 hL (day_le hR hL h0 h) e).trans (t_152 hR f).symm
theorem wt_eq {g m : G} {x : Int32} {v v' : Int64} (hG : RCb 1 g m) (e : d_103 x g = some v) (f : d_171 x m = some v') : v = v' ∧ 0 ≤ v.toInt ∧ v.toInt ≤ 100000000 := by
  unfold d_103 at e
  unfold d_171 at f
  exact ⟨l_103 hG 300 1 v v' 0 0 (by decide) e f, l_103b hG 300 1 v 0 0 (by decide) (by omega) (by decide) e⟩
theorem l_77 {c g m : G} {x1 : Int32} (hR : RCb 1 c m) (hG : RCb 1 g m) (hL : Looked 1 c g) : ∀ (f : Nat) (x4 s v' : Int64) (x6 : Int32) (g1 : G), 0 ≤ x6.toInt ∧ x6.toInt ≤ 256 → 0 ≤ x4.toInt ∧ x4.toInt ≤ 100000000 * x6.toInt → d_102_17 (-1) 0 0 g f x4 x6 = some (s, g1) → d_173_19 x1 m f x4 x6 = some v' → g1 = g ∧ (0 ≤ s.toInt ∧ s.toInt ≤ 2 ^ 36) ∧ d_172 s x1 m = some v' := by
  have hall := all_eq hR hL
  have ai := all_int hR hL
  intro n
  induction n with
  | zero =>
    intro x4 s v' x6 g1 _ _ e
    rw [d_102_17.eq_1] at e
    cases e
  | succ n ih =>
    intro x4 s v' x6 g1 h6 h4 e f
    rw [d_102_17.eq_2] at e
    rw [d_173_19.eq_2] at f
    have L1 := zl_1
    replace f := zb_let f
    obtain ⟨w3, k3, f⟩ := f
    rw [← hall] at k3
    subst k3
    rcases zb_if2 Iff.rfl e f with ⟨_, _, e, f⟩ | ⟨hc, _, e, f⟩
    · obtain ⟨e1, e2⟩ := zb_r2 e
      subst e1
      subst e2
      replace f := zb_bind f
      obtain ⟨w5, k5, f⟩ := f
      have f1 := zb_r1 f
      subst f1
      exact ⟨rfl, by omega, k5⟩
    · have q := zc_gtF hc
      have ya := zi_add (x := x6) (y := 1) (by omega) (by omega)
      replace e := zb_bind e
      obtain ⟨v3, h3, e⟩ := e
      replace f := zb_bind f
      obtain ⟨w6, k6, f⟩ := f
      rcases zb_if2 (hang_eq hR hL h6.1 (by omega) h3 k6) e f with ⟨_, _, e, f⟩ | ⟨_, _, e, f⟩
      · have e : (Option.bind (d_103 x6 g) fun v6 => d_102_17 (-1) 0 0 g n (x4 + v6) (x6 + 1)) = some (s, g1) := e
        replace e := zb_bind e
        obtain ⟨v8, h8, e⟩ := e
        replace f := zb_bind f
        obtain ⟨w8, k8, f⟩ := f
        obtain ⟨vw, b1, b2⟩ := wt_eq hG h8 k8
        subst vw
        have yj := zj_add (x := x4) (y := v8) (by omega) (by omega)
        exact ih _ s v' (x6 + 1) g1 (by omega) (by omega) e f
      · rw [Int64.add_zero] at f
        exact ih _ s v' (x6 + 1) g1 (by omega) (by omega) e f
theorem l_78 {c g m : G} {x1 x2 x3 x4 : Int32} {p t : Nat} (hR : RCb 1 c m) (hG : RCb 1 g m) (hL : Looked 1 c g) (hp : x1.toInt = p) (hl : (p : Int) < (g 1 1).toInt) (h2 : x2.toInt = t) (ht : t < 6) (hh : 0 ≤ x3.toInt ∧ x3.toInt < (g 1 0).toInt) : ∀ (f : Nat) (x5 s v' : Int64) (x7 : Int32) (g1 : G), 0 ≤ x7.toInt ∧ x7.toInt ≤ 256 → 0 ≤ x5.toInt ∧ x5.toInt ≤ 100000000 * x7.toInt → d_102_17 x1 x2 x3 g f x5 x7 = some (s, g1) → d_174_44 x1 x2 x3 x4 m f x5 x7 = some v' → g1 = g ∧ (0 ≤ s.toInt ∧ s.toInt ≤ 2 ^ 36) ∧ d_172 s x4 m = some v' := by
  have hall := all_eq hR hL
  have ai := all_int hR hL
  intro n
  induction n with
  | zero =>
    intro x5 s v' x7 g1 _ _ e
    rw [d_102_17.eq_1] at e
    cases e
  | succ n ih =>
    intro x5 s v' x7 g1 h6 h4 e f
    rw [d_102_17.eq_2] at e
    rw [d_174_44.eq_2] at f
    have L1 := zl_1
    have Lm1 := zl_m1
    replace f := zb_let f
    obtain ⟨w3, k3, f⟩ := f
    rw [← hall] at k3
    subst k3
    rcases zb_if2 Iff.rfl e f with ⟨_, _, e, f⟩ | ⟨hc, _, e, f⟩
    · obtain ⟨e1, e2⟩ := zb_r2 e
      subst e1
      subst e2
      replace f := zb_bind f
      obtain ⟨w5, k5, f⟩ := f
      have f1 := zb_r1 f
      subst f1
      exact ⟨rfl, by omega, k5⟩
    · have q := zc_gtF hc
      have ya := zi_add (x := x7) (y := 1) (by omega) (by omega)
      replace e := zb_bind e
      obtain ⟨v3, h3, e⟩ := e
      replace f := zb_bind f
      obtain ⟨w6, k6, f⟩ := f
      rcases zb_if2 (hang_eq hR hL h6.1 (by omega) h3 k6) e f with ⟨_, _, e, f⟩ | ⟨_, _, e, f⟩
      · replace e := zb_if e
        rcases e with ⟨hc, e⟩ | ⟨_, e⟩
        · have := zc_eqT hc
          exfalso
          omega
        · replace e := zb_bind e
          obtain ⟨v7, h7, e⟩ := e
          replace f := zb_bind f
          obtain ⟨w7, k7, f⟩ := f
          have hq := has_eq hG hp hl hh h7 k7
          subst hq
          replace e := zb_let e
          obtain ⟨v8, h8, e⟩ := e
          have b8 := b_90n (x0 := v7) h2 (by omega)
          rw [h8] at b8
          replace e := zb_if e
          replace f := zb_if f
          rcases zbt (x := v7) h2 (by omega) with z | z
          · rcases e with ⟨hc, e⟩ | ⟨hc, e⟩
            · rcases f with ⟨kc, f⟩ | ⟨kc, f⟩
              · have := zc_neT kc
                exfalso
                omega
              · replace e := zb_bind e
                obtain ⟨v10, h10, e⟩ := e
                replace f := zb_bind f
                obtain ⟨w10, k10, f⟩ := f
                obtain ⟨vw, b1, b2⟩ := wt_eq hG h10 k10
                subst vw
                have yj := zj_add (x := x5) (y := v10) (by omega) (by omega)
                exact ih _ s v' (x7 + 1) g1 (by omega) (by omega) e f
            · exact absurd z.1 (zd_no b8 hc)
          · rcases e with ⟨hc, e⟩ | ⟨hc, e⟩
            · exact absurd (b8.mp hc) z.1
            · rcases f with ⟨kc, f⟩ | ⟨kc, f⟩
              · rw [Int64.add_zero] at f
                exact ih _ s v' (x7 + 1) g1 (by omega) (by omega) e f
              · have := zc_neF kc
                exfalso
                omega
      · rw [Int64.add_zero] at f
        exact ih _ s v' (x7 + 1) g1 (by omega) (by omega) e f
theorem a_77 {x1 : Int32} {v v' : Int64} {g g1 m : G} (_ : Inv g) (_ : Inv m) (hR : Rel g m) (e : d_77 x1 g = some (v, g1)) (f : d_173 x1 m = some v') : v = v' := by
  unfold d_77 at e
  unfold d_173 at f
  replace e := zb_let e
  obtain ⟨v3, h3, e⟩ := e
  replace f := zb_let f
  obtain ⟨w3, k3, f⟩ := f
  have i := in01 (x := x1)
  rw [h3, k3] at i
  replace e := zb_if e
  replace f := zb_if f
  rcases e with ⟨hc, e⟩ | ⟨hc, e⟩
  · rcases f with ⟨kc, f⟩ | ⟨kc, f⟩
    · exact absurd hc (i.mp kc)
    · exact (zb_r2 e).1.symm.trans (zb_r1 f)
  · rcases f with ⟨kc, f⟩ | ⟨kc, f⟩
    · replace e := zb_bpair e
      obtain ⟨s, g4, h4, e⟩ := e
      unfold d_102 at h4
      replace h4 := zb_bind h4
      obtain ⟨g5, h5, h4⟩ := h4
      obtain ⟨hL, hF⟩ := t_2 (Or.inl rfl) hR.rcb.2.2.1 h5
      have hG := hR.rcb.cl (Or.inl rfl) hF
      obtain ⟨a1, a2, a3⟩ := l_77 hR.rcb hG hL 300 0 s v' 0 g4 (by decide) (by decide) h4 f
      subst a1
      replace e := zb_bind e
      obtain ⟨v5, h6, e⟩ := e
      unfold d_104 at h6
      unfold d_172 at a3
      have := l_104 hG a2 300 1 v5 v' 0 0 (by decide) (by omega) (by decide) (by decide) h6 a3
      exact (zb_r2 e).1.symm.trans this
    · exact absurd (i.mpr (by rw [hc]; decide)) (by rw [kc]; decide)
theorem a_78 {x1 x2 x3 x4 : Int32} {v v' : Int64} {g g1 m : G} (_ : Inv g) (_ : Inv m) (hR : Rel g m) (e : d_78 x1 x2 x3 x4 g = some (v, g1)) (f : d_174 x1 x2 x3 x4 m = some v') : v = v' := by
  unfold d_78 at e
  unfold d_174 at f
  have nn := hR.rcb.nums
  replace e := zb_let e
  obtain ⟨v1, h1, e⟩ := e
  have b1 := b_96 (x1 := x1) (x2 := x2) (x3 := x3) (g := g)
  rw [h1] at b1
  have n1 := (one_eq (x := x1) hR.rcb).symm.trans b_18
  have n3 := (hour_eq (x := x3) hR.rcb).symm.trans b_19
  replace e := zb_if e
  rcases e with ⟨hc, e⟩ | ⟨hc, e⟩
  · have q := b1.mp hc
    have e1 := (zb_r2 e).1
    replace f := zb_if f
    rcases f with ⟨k1, f⟩ | ⟨_, f⟩
    · replace f := zb_if f
      rcases f with ⟨k2, f⟩ | ⟨_, f⟩
      · replace f := zb_if f
        rcases f with ⟨k3, f⟩ | ⟨_, f⟩
        · exact absurd ⟨n1.mp k1, b_134.mp k2, n3.mp k3⟩ q
        · exact e1.symm.trans (zb_r1 f)
      · exact e1.symm.trans (zb_r1 f)
    · exact e1.symm.trans (zb_r1 f)
  · have q := zd_no b1 hc
    have q := Classical.not_not.mp q
    replace f := zb_if f
    rcases f with ⟨k1, f⟩ | ⟨k1, f⟩
    · replace f := zb_if f
      rcases f with ⟨k2, f⟩ | ⟨k2, f⟩
      · replace f := zb_if f
        rcases f with ⟨k3, f⟩ | ⟨k3, f⟩
        · replace e := zb_let e
          obtain ⟨v3, h3, e⟩ := e
          replace f := zb_let f
          obtain ⟨w3, k3, f⟩ := f
          have i := in01 (x := x4)
          rw [h3, k3] at i
          replace e := zb_if e
          replace f := zb_if f
          rcases e with ⟨hc, e⟩ | ⟨hc, e⟩
          · rcases f with ⟨kc, f⟩ | ⟨kc, f⟩
            · exact absurd hc (i.mp kc)
            · exact (zb_r2 e).1.symm.trans (zb_r1 f)
          · rcases f with ⟨kc, f⟩ | ⟨kc, f⟩
            · replace e := zb_bpair e
              obtain ⟨s, g4, h4, e⟩ := e
              unfold d_102 at h4
              replace h4 := zb_bind h4
              obtain ⟨g5, h5, h4⟩ := h4
              obtain ⟨hL, hF⟩ := t_2 (Or.inl rfl) hR.rcb.2.2.1 h5
              have hG := hR.rcb.cl (Or.inl rfl) hF
              have f1 := hF 1 1 (by omega) (by omega) (by omega)
              have f0 := hF 1 0 (by omega) (by omega) (by omega)
              obtain ⟨a1, a2, a3⟩ := l_78 (p := x1.toInt.toNat) (t := x2.toInt.toNat) hR.rcb hG hL (by omega) (by rw [f1]; omega) (by omega) (by omega) (by rw [f0]; omega) 300 0 s v' 0 g4 (by decide) (by decide) h4 f
              subst a1
              replace e := zb_bind e
              obtain ⟨v5, h6, e⟩ := e
              unfold d_104 at h6
              unfold d_172 at a3
              have := l_104 hG a2 300 1 v5 v' 0 0 (by decide) (by omega) (by decide) (by decide) h6 a3
              exact (zb_r2 e).1.symm.trans this
            · exact absurd (i.mpr (by rw [hc]; decide)) (by rw [kc]; decide)
        · exact absurd (n3.mpr q.2.2) (by rw [k3]; decide)
      · exact absurd (b_134.mpr q.2.1) (by rw [k2]; decide)
    · exact absurd (n1.mpr q.1) (by rw [k1]; decide)
