/-! the text: all lines, and what is asked behind them -/
theorem l_27_2 {c : G} (h8 : (c 30 2).toInt ≤ 8) : ∀ (f : Nat) (x : Int32) (n : Nat) (b : Bool), x.toInt = n → d_27_2 30 c f x = some b → (b = true ↔ ∀ d : Nat, n ≤ d → (d : Int) < (c 30 2).toInt → (0 ≤ (c (38 + d) 0).toInt ∧ (c (38 + d) 0).toInt < (c 30 0).toInt) ∧ (0 ≤ (c (38 + d) 1).toInt ∧ (c (38 + d) 1).toInt < (c 30 1).toInt) ∧ 0 ≤ (c (38 + d) 2).toInt ∧ (c (38 + d) 2).toInt < (c 30 1).toInt) := by
  intro f
  induction f with
  | zero =>
    intro x n b hx e
    rw [d_27_2.eq_1] at e
    cases e
  | succ f ih =>
    intro x n b hx e
    rw [d_27_2.eq_2] at e
    have L1 := zl_1
    replace e := zb_if e
    rcases e with ⟨hc, e⟩ | ⟨hc, e⟩
    · have q := zc_geT hc
      have e1 := zb_r1 e
      subst e1
      exact zd_t fun d h1 h2 => by omega
    · have q := zc_geF hc
      replace e := zb_bind e
      obtain ⟨k2, h2, e⟩ := e
      have b2 := zm_ix_ko h2
      obtain rfl : k2 = n := by omega
      replace e := zb_let e
      obtain ⟨v3, h3, e⟩ := e
      have b3 := b_19 (r0 := 30) (x1 := c (30 + 8 + k2) 0) (g := c)
      rw [h3] at b3
      replace e := zb_if e
      rcases e with ⟨hc, e⟩ | ⟨hc, e⟩
      · have r3 := b3.mp hc
        replace e := zb_bind e
        obtain ⟨k5, h5, e⟩ := e
        have b5 := zm_ix_ko h5
        obtain rfl : k5 = k2 := by omega
        replace e := zb_let e
        obtain ⟨v6, h6, e⟩ := e
        have b6 := b_18 (r0 := 30) (x1 := c (30 + 8 + k5) 1) (g := c)
        rw [h6] at b6
        replace e := zb_if e
        rcases e with ⟨hc, e⟩ | ⟨hc, e⟩
        · have r6 := b6.mp hc
          replace e := zb_bind e
          obtain ⟨k8, h8', e⟩ := e
          have b8 := zm_ix_ko h8'
          obtain rfl : k8 = k5 := by omega
          replace e := zb_let e
          obtain ⟨v9, h9, e⟩ := e
          have b9 := b_18 (r0 := 30) (x1 := c (30 + 8 + k8) 2) (g := c)
          rw [h9] at b9
          replace e := zb_if e
          rcases e with ⟨hc, e⟩ | ⟨hc, e⟩
          · have r9 := b9.mp hc
            have yi := zi_add (x := x) (y := 1) (by omega) (by omega)
            have r := ih (x + 1) (k8 + 1) b (by omega) e
            refine r.trans ⟨fun h d h1 h2 => ?_, fun h d h1 h2 => h d (by omega) h2⟩
            by_cases hh : d = k8
            · subst hh
              exact ⟨r3, r6, r9⟩
            · exact h d (by omega) h2
          · have r9 := zd_no b9 hc
            have e1 := zb_r1 e
            subst e1
            exact zd_f fun h => r9 (h k8 (by omega) (by omega)).2.2
        · have r6 := zd_no b6 hc
          have e1 := zb_r1 e
          subst e1
          exact zd_f fun h => r6 (h k5 (by omega) (by omega)).2.1
      · have r3 := zd_no b3 hc
        have e1 := zb_r1 e
        subst e1
        exact zd_f fun h => r3 (h k2 (by omega) (by omega)).1
set_option maxRecDepth 100000 in
theorem zbit_lo : ∀ n, n < 9 → ∀ i, i < 32 → zbit ((((1 : Int32) <<< (Int32.ofNat n &&& 31)) - 1) ^^^ (-1)) i = decide (n ≤ i) := by decide +kernel
theorem bits_ok {x : Int32} {n : Nat} (hn : n < 9) : x &&& ((((1 : Int32) <<< (Int32.ofNat n &&& 31)) - 1) ^^^ (-1)) = 0 ↔ ∀ i, zbit x i = true → i < n := by
  constructor
  · intro h i hi
    by_cases h32 : i < 32
    · have : zbit (x &&& ((((1 : Int32) <<< (Int32.ofNat n &&& 31)) - 1) ^^^ (-1))) i = false := by rw [h]; exact zbit_0 i
      rw [zbit_and, hi, Bool.true_and, zbit_lo n hn i h32] at this
      have := of_decide_eq_false this
      omega
    · rw [zbit_ge _ (by omega)] at hi
      cases hi
  · intro h
    apply zbit_ext
    intro i hi
    rw [zbit_0, zbit_and, zbit_lo n hn i hi]
    cases hz : zbit x i with
    | false => rfl
    | true =>
      rw [Bool.true_and]
      exact decide_eq_false (by have := h i hz; omega)
/-- what is asked behind all lines -/
def Wh (c m : G) : Prop := (m 113 10).toInt < (c 30 0).toInt ∧ (m 113 11).toInt < (c 30 1).toInt ∧ (m 113 12).toInt < (c 30 2).toInt
theorem DR.wh {c m : G} (h : DR c m) : (((∀ d : Nat, 0 ≤ d → (d : Int) < (c 30 2).toInt → (0 ≤ (c (38 + d) 0).toInt ∧ (c (38 + d) 0).toInt < (c 30 0).toInt) ∧ (0 ≤ (c (38 + d) 1).toInt ∧ (c (38 + d) 1).toInt < (c 30 1).toInt) ∧ 0 ≤ (c (38 + d) 2).toInt ∧ (c (38 + d) 2).toInt < (c 30 1).toInt) ∧ ∀ i : Nat, zbit (c 28 6 ||| c 28 7) i = true → (i : Int) < (c 30 2).toInt) ↔ Wh c m) := by
  obtain ⟨d1, d2, d3, d4, d5, d6⟩ := h
  have b := d1.2.1
  constructor
  · rintro ⟨h1, h2⟩
    refine ⟨?_, ?_, ?_⟩
    · rcases d5.1 with q | ⟨d, q1, q2⟩
      · omega
      · have := h1 d (by omega) q1
        omega
    · rcases d5.2 with q | ⟨d, q1, q2⟩
      · omega
      · have := h1 d (by omega) q1
        omega
    · rcases d6.2.1 with q | ⟨i, q1, q2⟩
      · omega
      · have := h2 i q2
        omega
  · rintro ⟨h1, h2, h3⟩
    refine ⟨fun d _ hd => ?_, fun i hi => ?_⟩
    · have := (d3 d hd).2
      omega
    · have := d6.1 i hi
      omega
section FIN
variable {c c1 m m1 : G} {x1 x2 v v' : Int32}
theorem fin_f (h : FT c m) (e : d_30_68 x1 c = some (v, c1)) (f : d_129_44 x2 m = some (v', m1)) : v = v' ∧ c1 = c ∧ m1 = zg_up m 113 14 0 := by
  unfold d_30_68 at e
  unfold d_129_44 at f
  have L0 := zl_0
  have h1 := congrArg Int32.toInt h.1
  have h2 := h.2.1
  replace e := zb_if e
  rcases e with ⟨hc, e⟩ | ⟨hc, e⟩
  · rw [hc, cond_true] at e
    obtain ⟨e1, e2⟩ := zb_r2 e
    replace f := zb_if f
    rcases f with ⟨hf, f⟩ | ⟨hf, f⟩
    · replace f := zb_let f
      obtain ⟨g7, h7, f⟩ := f
      have u19 : g7 113 19 = m 113 19 := zg_fr h7 113 19 (by omega)
      have u20 : g7 113 20 = m 113 20 := zg_fr h7 113 20 (by omega)
      replace f := zb_if f
      rcases f with ⟨hf, f⟩ | ⟨hf, f⟩
      · have := zc_leT hf
        rw [u19] at this
        exfalso
        omega
      · obtain ⟨f1, f2⟩ := zb_r2 f
        exact ⟨by rw [← e1, ← f1, u20, h.2.2], e2.symm, by rw [← f2, ← h7]⟩
    · have := zc_neF hf
      exfalso
      omega
  · have := zc_neF hc
    exfalso
    omega
theorem fin_ok (hT : AT c m) (h9 : (c 28 9).toInt = (c 28 1).toInt) (hD : DR c m) (e : d_30_68 x1 c = some (v, c1)) (f : d_129_44 x1 m = some (v', m1)) : v = v' ∧ ((Wh c m ∧ c1 = c ∧ d_110 (zg_up m 113 14 0) = some m1) ∨ (¬ Wh c m ∧ c1 = zg_up (zg_up c 28 2 6) 28 3 (c 28 1) ∧ m1 = zg_up (zg_up (zg_up m 113 19 6) 113 20 (m 113 16)) 113 14 0)) := by
  have L0 := zl_0
  have L6 := zl_6
  have k0 := hT.2.1
  have k19 := hT.2.2.1
  have wh := hD.wh
  have b := hD.1.2.1
  have e91 : c 28 9 = c 28 1 := Int32.toInt_inj.mp h9
  -- the class
  have cl : (Wh c m ∧ v = x1 ∧ c1 = c) ∨ (¬ Wh c m ∧ v = (-10) - (c 28 1) ∧ c1 = zg_up (zg_up c 28 2 6) 28 3 (c 28 1)) := by
    unfold d_30_68 at e
    replace e := zb_if e
    rcases e with ⟨hc, e⟩ | ⟨hc, e⟩
    · have := zc_neT hc
      exfalso
      omega
    · have bad : ∀ {w : Bool} {gg : G}, d_44 6 (c 28 1) c = (w, gg) → (bif zm_cmp .ne (gg 28 2) 0 then some (((-10) - (gg 28 3)), gg) else some (x1, gg)) = some (v, c1) → v = (-10) - (c 28 1) ∧ c1 = zg_up (zg_up c 28 2 6) 28 3 (c 28 1) := by
        intro w gg h44 e
        rw [t_44] at h44
        obtain ⟨_, e2⟩ := zb_q2 h44
        have u2 : (gg 28 2).toInt = 6 := by rw [← e2, zg_un (by omega), zg_ue]; decide
        have u3 : gg 28 3 = c 28 1 := by rw [← e2]; exact zg_ue
        replace e := zb_if e
        rcases e with ⟨_, e⟩ | ⟨hc, e⟩
        · obtain ⟨f1, f2⟩ := zb_r2 e
          exact ⟨by rw [← f1, u3], by rw [← f2, ← e2]⟩
        · have := zc_neF hc
          exfalso
          omega
      replace e := zb_bind e
      obtain ⟨v10, h10, e⟩ := e
      have b10 := l_27_2 (by omega) 300 0 0 v10 (by decide) h10
      replace e := zb_if e
      rcases e with ⟨hc2, e⟩ | ⟨hc2, e⟩
      · have r10 := b10.mp hc2
        obtain ⟨n, hn⟩ : ∃ n : Nat, (c 30 2).toInt = n := ⟨(c 30 2).toInt.toNat, by omega⟩
        have en : c 30 2 = Int32.ofNat n := zi_nat hn
        have bo := bits_ok (x := c 28 6 ||| c 28 7) (n := n) (by omega)
        replace e := zb_if e
        rcases e with ⟨hc3, e⟩ | ⟨hc3, e⟩
        · have q := zc_eqT hc3
          rw [en] at q
          have q2 := bo.mp (Int32.toInt_inj.mp q)
          rw [hc, cond_false] at e
          obtain ⟨f1, f2⟩ := zb_r2 e
          exact Or.inl ⟨wh.mp ⟨r10, fun i hi => by have := q2 i hi; omega⟩, f1.symm, f2.symm⟩
        · have q := zc_eqF hc3
          rw [en] at q
          replace e := zb_pair e
          obtain ⟨v17, g18, h18, e⟩ := e
          obtain ⟨r1, r2⟩ := bad h18 e
          refine Or.inr ⟨fun w => q ?_, r1, r2⟩
          have q2 := (wh.mpr w).2
          rw [bo.mpr (fun i hi => by have := q2 i hi; omega)]
      · have r10 := zd_no b10 hc2
        replace e := zb_pair e
        obtain ⟨v12, g13, h13, e⟩ := e
        obtain ⟨r1, r2⟩ := bad h13 e
        exact Or.inr ⟨fun w => r10 (wh.mpr w).1, r1, r2⟩
  -- the reference
  have ml : (Wh c m ∧ v' = x1 ∧ d_110 (zg_up m 113 14 0) = some m1) ∨ (¬ Wh c m ∧ v' = (-10) - (m 113 16) ∧ m1 = zg_up (zg_up (zg_up m 113 19 6) 113 20 (m 113 16)) 113 14 0) := by
    unfold d_129_44 at f
    have m5 := congrArg Int32.toInt hD.1.1.1
    have m6 := congrArg Int32.toInt hD.1.1.2.1
    have m8 := congrArg Int32.toInt hD.1.1.2.2.1
    have bad : ∀ {g11 : G}, d_113 0 6 m = g11 → (zb_l (zg_up g11 113 14 0) fun g12 => bif zm_cmp .le (g12 113 19) 0 then (Option.bind (d_110 g12) fun g14 => some (x1, g14)) else some (((-10) - (g12 113 20)), g12)) = some (v', m1) → v' = (-10) - (m 113 16) ∧ m1 = zg_up (zg_up (zg_up m 113 19 6) 113 20 (m 113 16)) 113 14 0 := by
      intro g11 h11 f
      rw [t_113c (by decide) k19] at h11
      replace f := zb_let f
      obtain ⟨g12, h12, f⟩ := f
      have u19 : (g12 113 19).toInt = 6 := by rw [zg_fr h12 113 19 (by omega), ← h11, zg_un (by omega), zg_ue]; decide
      have u20 : g12 113 20 = m 113 16 := by rw [zg_fr h12 113 20 (by omega), ← h11]; exact zg_ue
      replace f := zb_if f
      rcases f with ⟨hf, f⟩ | ⟨_, f⟩
      · have := zc_leT hf
        exfalso
        omega
      · obtain ⟨f1, f2⟩ := zb_r2 f
        exact ⟨by rw [← f1, u20], by rw [← f2, ← h12, ← h11]⟩
    replace f := zb_if f
    rcases f with ⟨hf, f⟩ | ⟨hf, f⟩
    · have := zc_neT hf
      exfalso
      omega
    · replace f := zb_if f
      rcases f with ⟨hf, f⟩ | ⟨hf, f⟩
      · have q := zc_geT hf
        replace f := zb_let f
        obtain ⟨g11, h11, f⟩ := f
        obtain ⟨r1, r2⟩ := bad h11 f
        exact Or.inr ⟨fun w => by have := w.1; omega, r1, r2⟩
      · have q1 := zc_geF hf
        replace f := zb_if f
        rcases f with ⟨hf, f⟩ | ⟨hf, f⟩
        · have q := zc_geT hf
          replace f := zb_let f
          obtain ⟨g11, h11, f⟩ := f
          obtain ⟨r1, r2⟩ := bad h11 f
          exact Or.inr ⟨fun w => by have := w.2.1; omega, r1, r2⟩
        · have q2 := zc_geF hf
          replace f := zb_if f
          rcases f with ⟨hf, f⟩ | ⟨hf, f⟩
          · have q := zc_geT hf
            replace f := zb_let f
            obtain ⟨g11, h11, f⟩ := f
            obtain ⟨r1, r2⟩ := bad h11 f
            exact Or.inr ⟨fun w => by have := w.2.2; omega, r1, r2⟩
          · have q3 := zc_geF hf
            replace f := zb_let f
            obtain ⟨g25, h25, f⟩ := f
            rw [t_113a (by decide)] at h25
            subst h25
            replace f := zb_let f
            obtain ⟨g26, h26, f⟩ := f
            have u19 : g26 113 19 = m 113 19 := zg_fr h26 113 19 (by omega)
            replace f := zb_if f
            rcases f with ⟨_, f⟩ | ⟨hf, f⟩
            · replace f := zb_bind f
              obtain ⟨g28, h28, f⟩ := f
              obtain ⟨f1, f2⟩ := zb_r2 f
              subst f2
              exact Or.inl ⟨⟨by omega, by omega, by omega⟩, f1.symm, by rw [h26]; exact h28⟩
            · have := zc_leF hf
              rw [u19] at this
              exfalso
              omega
  rcases cl with ⟨a1, a2, a3⟩ | ⟨a1, a2, a3⟩
  · rcases ml with ⟨_, b2, b3⟩ | ⟨b1, _⟩
    · exact ⟨a2.trans b2.symm, Or.inl ⟨a1, a3, b3⟩⟩
    · exact absurd a1 b1
  · rcases ml with ⟨b1, _⟩ | ⟨_, b2, b3⟩
    · exact absurd b1 a1
    · exact ⟨by rw [a2, b2, ← hT.2.2.2.2.1, e91], Or.inr ⟨a1, a3, b3⟩⟩
end FIN
/-- where the loop ends -/
def EndR (c m : G) : Prop := FT c m ∨ (AT c m ∧ (c 28 9).toInt = (c 28 1).toInt ∧ DR c m)
theorem tx_loop : ∀ (f : Nat) (x1 v v' : Int32) (c c1 ma m m1 : G), PT c ma → d_119 ma = some m → DR c ma → 0 ≤ x1.toInt → x1.toInt ≤ (c 28 10).toInt → d_30_34 f x1 c = some (v, c1) → d_129_20 f x1 m = some (v', m1) →
    ∃ cE mE x2 x3, EndR cE mE ∧ (¬ FT cE mE → x2 = x3) ∧ d_30_68 x2 cE = some (v, c1) ∧ d_129_44 x3 mE = some (v', m1) ∧ (∀ r k, ¬ (r = 28 ∧ k ≠ 1) → ¬ (30 ≤ r ∧ r < 46) → cE r k = c r k) ∧ (∀ r k, ¬ (r = 113 ∧ 5 ≤ k ∧ k ≠ 14 ∧ k ≤ 20) → r ≠ 116 → mE r k = m r k) := by
  intro f
  induction f with
  | zero =>
    intro x1 v v' c c1 ma m m1 _ _ _ _ _ e _
    rw [d_30_34.eq_1] at e
    cases e
  | succ f ih =>
    intro x1 v v' c c1 ma m m1 hP f0 hD hx0 hx e f'
    rw [d_30_34.eq_2] at e
    rw [d_129_20.eq_2] at f'
    have L0 := zl_0
    have L1 := zl_1
    have L160 := zl_160
    have pl := hP.2.2.2.2.2
    have lb := hP.1.2.2.1
    replace e := zb_if e
    rcases e with ⟨hc, e⟩ | ⟨hc, e⟩
    · have := zc_gtT hc
      exfalso
      omega
    · replace e := zb_bpair e
      obtain ⟨v20, g21, h21, e⟩ := e
      have F21 := f42u h21
      rcases hP.tok h21 f0 with ⟨hb, hT, ha, hk, hl⟩ | ⟨hb, hF⟩
      · subst hb
        rw [cond_true] at e
        have k17 := congrArg Int32.toInt hT.2.2.2.1
        have k19 := hT.2.2.1
        have el := congrArg Int32.toInt (F21 28 1 (by omega))
        have hD1 : DR g21 m := hD.tk F21 (f119u f0)
        replace f' := zb_if f'
        rcases f' with ⟨hf, f'⟩ | ⟨hf, f'⟩
        · have := zc_neT hf
          exfalso
          omega
        · replace e := zb_if e
          rcases e with ⟨hc, e⟩ | ⟨hc, e⟩
          · have q := zc_eqT hc
            replace f' := zb_if f'
            rcases f' with ⟨hf, f'⟩ | ⟨hf, f'⟩
            · exact ⟨g21, m, x1, x1, Or.inr ⟨hT, by have := hl (by omega); omega, hD1⟩, fun _ => rfl, e, f', fun r k h1 h2 => F21 r k (by omega), fun r k _ _ => rfl⟩
            · have := zc_eqF hf
              exfalso
              omega
          · have q := zc_eqF hc
            replace f' := zb_if f'
            rcases f' with ⟨hf, f'⟩ | ⟨hf, f'⟩
            · have := zc_eqT hf
              exfalso
              omega
            · replace e := zb_bpair e
              obtain ⟨v24, g25, h25, e⟩ := e
              replace f' := zb_bind f'
              obtain ⟨g30, h30, f'⟩ := f'
              have F25 := f_31 g21 (v24, g25) h25
              have F30 := f_128 m g30 h30
              have hk := hk (by omega)
              have yi := zi_add (x := x1) (y := 1) (by omega) (by omega)
              rcases ln_all hT hD1 h25 h30 with ⟨r1, ⟨mt, r2, r3, r4⟩, r5⟩ | ⟨r1, r2⟩
              · subst r1
                rw [cond_true] at e
                obtain ⟨cE, mE, y2, y3, i1, i2, i3, i4, i5, i6⟩ := ih (x1 + 1) v v' g25 c1 mt g30 m1 r2 r3 r4 (by omega) (by omega) e f'
                exact ⟨cE, mE, y2, y3, i1, i2, i3, i4, fun r k h1 h2 => (i5 r k h1 h2).trans ((F25 r k (by omega)).trans (F21 r k (by omega))), fun r k h1 h2 => (i6 r k h1 h2).trans (F30 r k (by omega))⟩
              · subst r1
                rw [cond_false] at e
                have p : 0 < (g30 113 19).toInt := by rw [← r2.1]; exact r2.2.1
                refine ⟨g25, g30, x1, x1 + 1, Or.inl r2, fun q => absurd r2 q, e, ?_, fun r k h1 h2 => (F25 r k (by omega)).trans (F21 r k (by omega)), fun r k h1 h2 => F30 r k (by omega)⟩
                cases f with
                | zero =>
                  rw [d_129_20.eq_1] at f'
                  cases f'
                | succ f =>
                  rw [d_129_20.eq_2] at f'
                  replace f' := zb_if f'
                  rcases f' with ⟨_, f'⟩ | ⟨hf, _⟩
                  · exact f'
                  · have := zc_neF hf
                    exfalso
                    omega
      · subst hb
        rw [cond_false] at e
        have p : 0 < (m 113 19).toInt := by rw [← hF.1]; exact hF.2.1
        refine ⟨g21, m, x1, x1, Or.inl hF, fun _ => rfl, e, ?_, fun r k h1 h2 => F21 r k (by omega), fun r k _ _ => rfl⟩
        replace f' := zb_if f'
        rcases f' with ⟨_, f'⟩ | ⟨hf, _⟩
        · exact f'
        · have := zc_neF hf
          exfalso
          omega
