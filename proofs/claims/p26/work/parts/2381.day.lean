/-! DAYS; one() and has() answer alike -/
theorem zi_sh8 : ∀ n, n < 9 → ((1 : Int32) <<< (Int32.ofNat n &&& 31)).toInt = 2 ^ n := by decide +kernel
theorem zi_p8 : ∀ n, n < 9 → 1 ≤ (2 : Int) ^ n ∧ (2 : Int) ^ n ≤ 256 := by decide +kernel
theorem b_21 {b n : Nat} {x1 : Int32} {c : G} (hn : (c b 2).toInt = n) (h8 : n ≤ 8) : d_21 b x1 c = true ↔ 0 ≤ x1.toInt ∧ x1.toInt < 2 ^ n := by
  unfold d_21
  have L0 := zl_0
  have s := zi_sh8 n (by omega)
  rw [zi_nat hn]
  exact zd_i (fun h => zd_f (by have := zc_ltT h; omega)) (fun h => zd_i (fun h2 => zd_f (by have := zc_geT h2; omega)) (fun h2 => zd_t (by have := zc_ltF h; have := zc_geF h2; omega)))
theorem b_135 {n : Nat} {x1 : Int32} {m : G} (hn : (m 114 8).toInt = n) (h8 : n ≤ 8) : d_135 x1 m = true ↔ 0 ≤ x1.toInt ∧ x1.toInt < 2 ^ n := by
  have h := zin_i (a := Int32.toInt64 x1) (b := 0) (c := Int32.toInt64 (((1 : Int32) <<< ((m 114 8) &&& 31)) - 1))
  have s := zi_sh8 n (by omega)
  have p := zi_p8 n (by omega)
  have L1 := zl_1
  have e : d_135 x1 m = d_107 (Int32.toInt64 x1) 0 (Int32.toInt64 (((1 : Int32) <<< ((m 114 8) &&& 31)) - 1)) := rfl
  rw [e]
  rw [zi_nat hn] at h ⊢
  rw [zi_i64, zi_i64, zi_sub (by omega) (by omega), L1, s] at h
  refine h.trans ?_
  show 0 ≤ x1.toInt ∧ _ ↔ _
  omega
/-- a DAY has no bit from n on -/
theorem zbit_day {x : Int32} {n i : Nat} (h0 : 0 ≤ x.toInt) (h : x.toInt < 2 ^ n) (hb : zbit x i = true) : i < n := by
  unfold zbit at hb
  have e : x.toBitVec.toNat < 2 ^ n := by
    have h1 : x.toInt = x.toBitVec.toInt := rfl
    rw [h1, BitVec.toInt_eq_toNat_bmod, Int.bmod_def] at h h0
    have h2 : x.toBitVec.toNat < 2 ^ 32 := x.toBitVec.isLt
    have h3 : ((2 ^ n : Nat) : Int) = 2 ^ n := by simp
    generalize 2 ^ n = y at *
    omega
  rcases Nat.lt_or_ge i n with q | q
  · exact q
  · have := Nat.testBit_lt_two_pow (Nat.lt_of_lt_of_le e (Nat.pow_le_pow_right (by decide) q))
    rw [BitVec.getLsbD, this] at hb
    cases hb
theorem a_59 {x1 x2 v v' : Int32} {g m : G} (_ : Inv g) (_ : Inv m) (hR : Rel g m) (e : d_59 x1 x2 g = some v) (f : d_140 x1 x2 m = some v') : v = v' := by
  unfold d_59 at e
  unfold d_140 at f
  have nn := hR.nums
  have L0 := zl_0
  have L1 := zl_1
  have L4 := zl_4
  have L10 := zl_10
  replace e := zb_let e
  obtain ⟨v1, h1, e⟩ := e
  have b1 := b_18 (r0 := 1) (x1 := x1) (g := g)
  rw [h1] at b1
  replace f := zb_let f
  obtain ⟨w1, k1, f⟩ := f
  have b2 := b_131 (x1 := x1) (g := m) (by omega)
  rw [k1] at b2
  replace e := zb_if e
  replace f := zb_if f
  rcases e with ⟨hc, e⟩ | ⟨hc, e⟩
  · have q1 := b1.mp hc
    rcases f with ⟨kc, f⟩ | ⟨kc, f⟩
    · replace e := zb_bind e
      obtain ⟨k3, h3, e⟩ := e
      have b3 := zm_ix_ko h3
      have on := hR.ones (p := k3) (by omega)
      have wo := hR.wone (p := k3) (by omega)
      have y0 := zi_add (x := 0) (y := x1) (by omega) (by omega)
      have y4 := zi_add (x := 4) (y := x1) (by omega) (by omega)
      replace e := zb_if e
      replace f := zb_if f
      rcases e with ⟨hc, e⟩ | ⟨hc, e⟩
      · have q2 := zc_neT hc
        rcases f with ⟨kc, f⟩ | ⟨kc, f⟩
        · replace e := zb_if e
          replace f := zb_if f
          rcases e with ⟨hc, e⟩ | ⟨hc, e⟩
          · have q3 := zc_neT hc
            rcases f with ⟨kc, f⟩ | ⟨kc, f⟩
            · have z := zi_s10 x2
              have b5 := b_133 (x1 := x2 - 10) (g := m) (by omega)
              replace f := zb_let f
              obtain ⟨w5, k5, f⟩ := f
              rw [k5] at b5
              have z10 := zi_add (x := 10) (y := g 1 0) (by omega) (by omega)
              replace e := zb_if e
              replace f := zb_if f
              rcases e with ⟨hc, e⟩ | ⟨hc, e⟩
              · have q4 := zc_ltT hc
                rcases f with ⟨kc, f⟩ | ⟨kc, f⟩
                · have := b5.mp kc
                  exfalso
                  omega
                · exact (zb_r1 e).symm.trans (zb_r1 f)
              · have q4 := zc_ltF hc
                replace e := zb_if e
                rcases e with ⟨hc, e⟩ | ⟨hc, e⟩
                · have q5 := zc_ltT hc
                  rcases f with ⟨kc, f⟩ | ⟨kc, f⟩
                  · replace f := zb_bind f
                    obtain ⟨k7, h7, f⟩ := f
                    have b7 := zm_ix_ko h7
                    obtain rfl : k7 = k3 := by omega
                    have t := t_138 (w := m 114 k7) (h := x2 - 10) (m := m) (by rw [← on.1]; omega) (by omega) (b5.mp kc)
                    rw [t] at f
                    have e1 := zb_r1 e
                    have f1 := zb_r1 f
                    rw [← e1, ← f1, on.1, hR.2.2.1.1]
                  · have := zd_no b5 kc
                    exfalso
                    omega
                · have q5 := zc_ltF hc
                  rcases f with ⟨kc, f⟩ | ⟨kc, f⟩
                  · have := b5.mp kc
                    exfalso
                    omega
                  · exact (zb_r1 e).symm.trans (zb_r1 f)
            · have := zc_neF kc
              exact absurd this q3
          · have q3 := zc_neF hc
            rcases f with ⟨kc, f⟩ | ⟨kc, f⟩
            · have := zc_neT kc
              exact absurd q3 this
            · replace f := zb_bind f
              obtain ⟨k9, h9, f⟩ := f
              have b9 := zm_ix_ko h9
              obtain rfl : k9 = 4 + k3 := by omega
              exact (zb_r1 e).symm.trans (on.2.trans (zb_r1 f))
        · have := zc_neF kc
          exact absurd this q2
      · have q2 := zc_neF hc
        rcases f with ⟨kc, f⟩ | ⟨kc, f⟩
        · have := zc_neT kc
          exact absurd q2 this
        · replace f := zb_bind f
          obtain ⟨k9, h9, f⟩ := f
          have b9 := zm_ix_ko h9
          obtain rfl : k9 = k3 := by omega
          exact (zb_r1 e).symm.trans (on.1.trans (zb_r1 f))
    · have := zd_no b2 kc
      exfalso
      omega
  · have q1 := zd_no b1 hc
    rcases f with ⟨kc, f⟩ | ⟨kc, f⟩
    · have := b2.mp kc
      exfalso
      omega
    · exact (zb_r1 e).symm.trans (zb_r1 f)
/-- two tests that say the same, both taken -/
theorem zb_if2 {α β : Type} {p q : Bool} {a b r : α} {a' b' r' : β} (hpq : p = true ↔ q = true) (e : (bif p then a else b) = r) (f : (bif q then a' else b') = r') : (p = true ∧ q = true ∧ a = r ∧ a' = r') ∨ (p = false ∧ q = false ∧ b = r ∧ b' = r') := by
  cases p with
  | true =>
    cases hpq.mp rfl
    exact Or.inl ⟨rfl, rfl, e, f⟩
  | false =>
    cases q with
    | true => cases hpq.mpr rfl
    | false => exact Or.inr ⟨rfl, rfl, e, f⟩
theorem day_eq {b : Nat} {c m : G} {x : Int32} (hR : RCb b c m) : d_21 b x c = true ↔ d_135 x m = true := by
  have nn := hR.nums
  have h1 : (c b 2).toInt = ((c b 2).toInt.toNat : Nat) := by omega
  exact (b_21 h1 (by omega)).trans (b_135 (show (m 114 8).toInt = ((c b 2).toInt.toNat : Nat) by omega) (by omega)).symm
theorem one_eq {b : Nat} {c m : G} {x : Int32} (hR : RCb b c m) : d_18 b x c = true ↔ d_131 x m = true := by
  have nn := hR.nums
  have h := b_18 (r0 := b) (x1 := x) (g := c)
  have h' := b_131 (x1 := x) (g := m) (by omega)
  rw [← nn.1.2.1] at h'
  exact h.trans h'.symm
theorem hour_eq {b : Nat} {c m : G} {x : Int32} (hR : RCb b c m) : d_19 b x c = true ↔ d_133 x m = true := by
  have nn := hR.nums
  have h := b_19 (r0 := b) (x1 := x) (g := c)
  have h' := b_133 (x1 := x) (g := m) (by omega)
  rw [← nn.1.1] at h'
  exact h.trans h'.symm
theorem deed_eq {b : Nat} {c m : G} {x : Int32} (hR : RCb b c m) : d_20 b x c = true ↔ d_132 x m = true := by
  have nn := hR.nums
  have h := b_20 (r0 := b) (x1 := x) (g := c)
  have h' := b_132 (x1 := x) (g := m) (by omega)
  rw [← nn.1.2.2.1] at h'
  exact h.trans h'.symm
theorem a_67 {x1 x2 x3 v v' : Int32} {g m : G} (_ : Inv g) (_ : Inv m) (hR : Rel g m) (e : d_67 x1 x2 x3 g = some v) (f : d_153 x1 x2 x3 m = some v') : v = v' := by
  unfold d_67 at e
  unfold d_153 at f
  have nn := hR.nums
  rcases zb_if2 (one_eq hR.rcb) e f with ⟨h1, _, e, f⟩ | ⟨_, _, e, f⟩
  · have q1 := b_18.mp h1
    rcases zb_if2 (hour_eq hR.rcb) e f with ⟨h2, _, e, f⟩ | ⟨_, _, e, f⟩
    · have q2 := b_19.mp h2
      rcases zb_if2 (day_eq hR.rcb) e f with ⟨h3, _, e, f⟩ | ⟨_, _, e, f⟩
      · replace e := zb_bind e
        obtain ⟨v7, h7, e⟩ := e
        replace f := zb_bind f
        obtain ⟨w7, k7, f⟩ := f
        have := has_eq (p := x1.toInt.toNat) hR.rcb (by omega) (by omega) q2 h7 k7
        exact (zb_r1 e).symm.trans (this.trans (zb_r1 f))
      · exact (zb_r1 e).symm.trans (zb_r1 f)
    · exact (zb_r1 e).symm.trans (zb_r1 f)
  · exact (zb_r1 e).symm.trans (zb_r1 f)
