/-! the text: THINGS up to the ; -/
def pcn (n : Nat) : Nat := n % 2 + n / 2 % 2 + n / 4 % 2 + n / 8 % 2 + n / 16 % 2 + n / 32 % 2
set_option maxRecDepth 100000 in
theorem pcn_s0 : ∀ n, n < 64 → ∀ t, t < 6 → ((Int32.ofNat n >>> (Int32.ofNat t &&& 31)) &&& 1) = 0 → (Int32.ofNat n ||| ((1 : Int32) <<< (Int32.ofNat t &&& 31))) = Int32.ofNat (n + 2 ^ t) ∧ n + 2 ^ t < 64 ∧ pcn (n + 2 ^ t) = pcn n + 1 := by decide +kernel
set_option maxRecDepth 100000 in
theorem pcn_60 : ∀ n, n < 64 → pcn n ≤ 6 ∧ (pcn n = 6 → ∀ t, t < 6 → ¬ ((Int32.ofNat n >>> (Int32.ofNat t &&& 31)) &&& 1) = 0) := by decide +kernel
theorem pcn_s {x y : Int32} (hx : 0 ≤ x.toInt ∧ x.toInt ≤ 63) (hy : 0 ≤ y.toInt ∧ y.toInt ≤ 5) (hb : ((x >>> (y &&& 31)) &&& 1).toInt = 0) : (0 ≤ (x ||| ((1 : Int32) <<< (y &&& 31))).toInt ∧ (x ||| ((1 : Int32) <<< (y &&& 31))).toInt ≤ 63) ∧ pcn (x ||| ((1 : Int32) <<< (y &&& 31))).toInt.toNat = pcn x.toInt.toNat + 1 := by
  have ex := zi_nat (x := x) (n := x.toInt.toNat) (by omega)
  have ey := zi_nat (x := y) (n := y.toInt.toNat) (by omega)
  have hn : x.toInt.toNat < 64 := by omega
  have ht : y.toInt.toNat < 6 := by omega
  generalize x.toInt.toNat = n at *
  generalize y.toInt.toNat = t at *
  subst ex
  subst ey
  obtain ⟨r1, r2, r3⟩ := pcn_s0 n hn t ht (Int32.toInt_inj.mp (hb.trans zl_0.symm))
  rw [r1]
  generalize n + 2 ^ t = q at *
  have e : (Int32.ofNat q).toInt = (q : Int) := Int32.toInt_ofNat_of_lt (by omega)
  rw [e, Int.toNat_natCast]
  exact ⟨by omega, r3⟩
theorem pcn_6 {x y : Int32} (hx : 0 ≤ x.toInt ∧ x.toInt ≤ 63) (hy : 0 ≤ y.toInt ∧ y.toInt ≤ 5) (h6 : pcn x.toInt.toNat = 6) : ((x >>> (y &&& 31)) &&& 1).toInt ≠ 0 := by
  have ex := zi_nat (x := x) (n := x.toInt.toNat) (by omega)
  have ey := zi_nat (x := y) (n := y.toInt.toNat) (by omega)
  have hn : x.toInt.toNat < 64 := by omega
  have ht : y.toInt.toNat < 6 := by omega
  generalize x.toInt.toNat = n at *
  generalize y.toInt.toNat = t at *
  subst ex
  subst ey
  exact fun hb => (pcn_60 n hn).2 h6 t ht (Int32.toInt_inj.mp (hb.trans zl_0.symm))
theorem b_90 {x0 x1 : Int32} : d_90 x0 x1 = true ↔ ((x0 >>> (x1 &&& 31)) &&& 1).toInt ≠ 0 := by
  unfold d_90
  have L0 := zl_0
  exact zd_i (fun h => zd_f (by have := zc_eqT h; omega)) (fun h => zd_t (by have := zc_eqF h; omega))
theorem t_122s {f : Nat} {x v : Int32} {m m1 : G} (h : 0 < (m 113 19).toInt) (e : d_122_2 f x m = some (v, m1)) : m1 = m := by
  cases f with
  | zero =>
    rw [d_122_2.eq_1] at e
    cases e
  | succ f =>
    rw [d_122_2.eq_2] at e
    have L0 := zl_0
    replace e := zb_if e
    rcases e with ⟨hc, e⟩ | ⟨hc, e⟩
    · obtain ⟨_, e2⟩ := zb_r2 e
      exact e2.symm
    · have := zc_neF hc
      exfalso
      omega
/-- behind the THINGS: class's c1, v; reference's m1, v' -/
def ThR (c1 : G) (v : Int32) (m1 : G) (v' : Int32) : Prop :=
  (AT c1 m1 ∧ (c1 28 8).toInt = 3 ∧ v = v' ∧ 0 ≤ v.toInt ∧ v.toInt ≤ 63) ∨ FT c1 m1 ∨
  ((m1 113 19).toInt = 0 ∧ (m1 113 17).toInt ≠ 3 ∧ (c1 28 2).toInt = 2 ∧ c1 28 3 = m1 113 16)
theorem tk_things : ∀ (f : Nat) (x1 x2 v v' : Int32) (c c1 m0 mq m m1 : G), PT c m0 → d_119 m0 = some mq → UT mq m → 0 ≤ x1.toInt ∧ x1.toInt ≤ 63 → x2.toInt = pcn x1.toInt.toNat → d_37_4 f x1 x2 c = some (v, c1) → d_122_2 f x1 m = some (v', m1) → ThR c1 v m1 v' ∧ (ThR c1 v m1 v' → (c1 28 2).toInt = 0 → (c 28 10).toInt ≤ (c1 28 10).toInt) := by
  intro f
  induction f with
  | zero =>
    intro x1 x2 v v' c c1 m0 mq m m1 _ _ _ _ _ e _
    rw [d_37_4.eq_1] at e
    cases e
  | succ f ih =>
    intro x1 x2 v v' c c1 m0 mq m m1 hP f0 hu hx hx2 e f'
    rw [d_37_4.eq_2] at e
    have f'0 := f'
    rw [d_122_2.eq_2] at f'
    have L0 := zl_0
    have L1 := zl_1
    have L2 := zl_2
    have L3 := zl_3
    have L4 : (4 : Int32).toInt = 4 := by decide
    have L5 := zl_5
    have L6 := zl_6
    have p6 := (pcn_60 x1.toInt.toNat (by omega)).1
    replace e := zb_if e
    rcases e with ⟨hc, e⟩ | ⟨hc, e⟩
    · have := zc_gtT hc
      exfalso
      omega
    · replace e := zb_bpair e
      obtain ⟨v2, g3, h3, e⟩ := e
      rcases hP.tok h3 f0 with ⟨hb, hT, ha, _⟩ | ⟨hb, hF⟩
      · subst hb
        rw [cond_true] at e
        replace hT := hT.ut hu
        have h17 := congrArg Int32.toInt hT.2.2.2.1
        have hle := hT.2.2.2.2.2.2.2.1
        have h19 := hT.2.2.1
        -- the reference: no FAULT yet
        replace f' := zb_if f'
        rcases f' with ⟨hf, f'⟩ | ⟨hf, f'⟩
        · have := zc_neT hf
          exfalso
          omega
        · replace e := zb_if e
          rcases e with ⟨hc, e⟩ | ⟨hc, e⟩
          · -- the ;
            have q := zc_eqT hc
            obtain ⟨e1, e2⟩ := zb_r2 e
            subst e1
            subst e2
            replace f' := zb_if f'
            rcases f' with ⟨hf, f'⟩ | ⟨hf, f'⟩
            · obtain ⟨e1, e2⟩ := zb_r2 f'
              subst e1
              subst e2
              exact ⟨Or.inl ⟨hT, by omega, rfl, hx⟩, fun _ _ => by omega⟩
            · have := zc_neF hf
              exfalso
              omega
          · have q := zc_eqF hc
            replace e := zb_pair e
            obtain ⟨v6, g7, h7, e⟩ := e
            replace f' := zb_if f'
            rcases f' with ⟨hf, f'⟩ | ⟨hf, f'⟩
            · -- no NUMBER
              have q2 := zc_neT hf
              obtain ⟨e1, e2⟩ := zb_r2 f'
              subst e1
              subst e2
              rcases t_40 h7 with ⟨p, _⟩ | ⟨p, _⟩ | ⟨p, p2, p3⟩
              · exfalso
                omega
              · exfalso
                omega
              · subst p2
                rw [cond_false] at e
                obtain ⟨e1, e2⟩ := zb_r2 e
                subst e2
                have z2 : g7 28 2 = 2 := by rw [p3, zg_un (by omega)]; exact zg_ue
                have z2i := congrArg Int32.toInt z2
                refine ⟨Or.inr (Or.inr ⟨h19, by omega, by omega, ?_⟩), fun _ w => by omega⟩
                rw [p3, zg_ue]
                exact hT.2.2.2.2.1
            · have q2 := zc_neF hf
              replace f' := zb_pair f'
              obtain ⟨v3, g4, h4, f'⟩ := f'
              rcases hT.num h7 h4 with ⟨r1, r2, r3, r4, r5, r6, r7⟩ | ⟨r1, r2⟩
              · subst r1
                subst r2
                subst r3
                rw [cond_true] at e
                replace f' := zb_if f'
                rcases f' with ⟨hf, f'⟩ | ⟨hf, f'⟩
                · have := zc_neT hf
                  exfalso
                  omega
                · replace e := zb_let e
                  obtain ⟨v9, h9, e⟩ := e
                  have b9 := b_90 (x0 := x1) (x1 := g7 28 11)
                  rw [h9, ← r4] at b9
                  replace f' := zb_if f'
                  rcases f' with ⟨hf2, f'⟩ | ⟨hf2, f'⟩
                  · -- told before
                    have q3 := zc_neT hf2
                    have v9t := b9.mpr (by omega)
                    subst v9t
                    rw [cond_true] at e
                    replace e := zb_pair e
                    obtain ⟨v11, g12, h12, e⟩ := e
                    rw [t_44] at h12
                    obtain ⟨_, e2⟩ := zb_q2 h12
                    obtain ⟨_, e3⟩ := zb_r2 e
                    subst e3
                    replace f' := zb_let f'
                    obtain ⟨g8, h8, f'⟩ := f'
                    rw [t_113c (by decide) h19] at h8
                    replace f' := zb_bind f'
                    obtain ⟨g9, hg9, f'⟩ := f'
                    have u19 : (g8 113 19).toInt = 4 := by rw [← h8, zg_un (by omega), zg_ue]; decide
                    have g9e := t_119s (by omega) hg9
                    subst g9e
                    have m1e := t_122s (by omega) f'
                    subst m1e
                    have z2 : g12 28 2 = 4 := by rw [← e2, zg_un (by omega)]; exact zg_ue
                    have z2i := congrArg Int32.toInt z2
                    refine ⟨Or.inr (Or.inl ?_), fun _ w => by omega⟩
                    rw [← e2, ← h8]
                    exact FT.mk2 (by decide) hT.2.2.2.2.1
                  · -- fresh
                    have q3 := zc_neF hf2
                    have v9f : v9 = false := by
                      cases hb : v9 with
                      | false => rfl
                      | true => exact absurd (q3.trans L0) (b9.mp hb)
                    subst v9f
                    rw [cond_false] at e
                    replace f' := zb_let f'
                    obtain ⟨g10, h10, f'⟩ := f'
                    rw [t_113a (by decide)] at h10
                    subst h10
                    replace f' := zb_bind f'
                    obtain ⟨g11, h11, f'⟩ := f'
                    have ps := pcn_s hx (y := v3) (by omega) (by omega)
                    have p6' := (pcn_60 (x1 ||| ((1 : Int32) <<< (v3 &&& 31))).toInt.toNat (by omega)).1
                    have yi := zi_add (x := x2) (y := 1) (by omega) (by omega)
                    rw [← r4] at e
                    obtain ⟨i1, i2⟩ := ih _ _ v v' g7 c1 g4 g11 g11 m1 hT.pt h11 (fun _ _ _ => rfl) ps.1 (by omega) e f'
                    exact ⟨i1, fun w1 w2 => by have := i2 w1 w2; omega⟩
              · subst r1
                rw [cond_false] at e
                obtain ⟨e1, e2⟩ := zb_r2 e
                subst e2
                have g19 : 0 < (g4 113 19).toInt := by rw [← r2.1]; exact r2.2.1
                replace f' := zb_if f'
                rcases f' with ⟨hf, f'⟩ | ⟨hf, f'⟩
                · replace f' := zb_bind f'
                  obtain ⟨g6, hg6, f'⟩ := f'
                  have g6e := t_119s g19 hg6
                  subst g6e
                  have m1e := t_122s g19 f'
                  subst m1e
                  have := r2.2.1
                  exact ⟨Or.inr (Or.inl r2), fun _ w => by omega⟩
                · have := zc_neF hf
                  exfalso
                  omega
      · subst hb
        rw [cond_false] at e
        obtain ⟨e1, e2⟩ := zb_r2 e
        subst e2
        replace hF := hF.ut hu
        have m1e := t_122s (by rw [← hF.1]; exact hF.2.1) f'0
        subst m1e
        have := hF.2.1
        exact ⟨Or.inr (Or.inl hF), fun _ w => by omega⟩
