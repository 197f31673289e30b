/-! the text: a TOKEN -/
theorem t_44 {x1 x2 : Int32} {g : G} : d_44 x1 x2 g = (false, zg_up (zg_up g 28 2 x1) 28 3 x2) := rfl
theorem t_155n {c c1 : G} {b : Bool} (h : (c 28 9).toInt < (c 28 10).toInt) (e : d_42_155 c = some (b, c1)) : b = true ∧ c1 = zg_up c 28 8 1 := by
  unfold d_42_155 at e
  replace e := zb_if e
  rcases e with ⟨hc, e⟩ | ⟨hc, e⟩
  · have := zc_leT hc
    exfalso
    omega
  · replace e := zb_let e
    obtain ⟨g21, h21, e⟩ := e
    obtain ⟨e1, e2⟩ := zb_r2 e
    exact ⟨e1.symm, by rw [← e2, ← h21]⟩
theorem t_155d {c c1 : G} {b : Bool} (h : (c 28 10).toInt ≤ (c 28 9).toInt) (hb : (c 28 9).toInt ≤ 1000) (hb0 : 0 ≤ (c 28 9).toInt) (e : d_42_155 c = some (b, c1)) : ∃ v10 g11, d_43_2 300 0 (zg_up c 28 8 2) = some (v10, g11) ∧ (((g11 28 10).toInt ≤ (g11 28 9).toInt ∧ b = false ∧ c1 = zg_up (zg_up (zg_up g11 28 11 v10) 28 2 1) 28 3 (g11 28 9)) ∨ ((g11 28 9).toInt < (g11 28 10).toInt ∧ (g11 28 10).toInt ≤ (g11 28 9 + 2).toInt ∧ b = true ∧ c1 = zg_up g11 28 11 v10) ∨ ((g11 28 9).toInt < (g11 28 10).toInt ∧ (g11 28 9 + 2).toInt < (g11 28 10).toInt ∧ b = false ∧ c1 = zg_up (zg_up (zg_up g11 28 11 v10) 28 2 1) 28 3 (g11 28 9))) := by
  unfold d_42_155 at e
  replace e := zb_if e
  rcases e with ⟨hc, e⟩ | ⟨hc, e⟩
  · replace e := zb_let e
    obtain ⟨g9, h9, e⟩ := e
    replace e := zb_bpair e
    obtain ⟨v10, g11, h11, e⟩ := e
    replace e := zb_let e
    obtain ⟨g12, h12, e⟩ := e
    subst h9
    refine ⟨v10, g11, h11, ?_⟩
    have a9 : g12 28 9 = g11 28 9 := zg_fr h12 28 9 (by omega)
    have a10 : g12 28 10 = g11 28 10 := zg_fr h12 28 10 (by omega)
    rw [a9, a10] at e
    replace e := zb_if e
    rcases e with ⟨hc, e⟩ | ⟨hc, e⟩
    · have q := zc_leT hc
      replace e := zb_pair e
      obtain ⟨v14, g15, h14, e⟩ := e
      rw [t_44] at h14
      obtain ⟨e1, e2⟩ := zb_q2 h14
      subst e1
      replace e := zb_if e
      rcases e with ⟨hc, e⟩ | ⟨hc, e⟩
      · cases hc
      · obtain ⟨f1, f2⟩ := zb_r2 e
        exact Or.inl ⟨q, f1.symm, by rw [← f2, ← e2, h12]⟩
    · have q := zc_leF hc
      replace e := zb_if e
      rcases e with ⟨hc, e⟩ | ⟨hc, e⟩
      · have q2 := zc_leT hc
        obtain ⟨f1, f2⟩ := zb_r2 e
        exact Or.inr (Or.inl ⟨q, q2, f1.symm, by rw [← f2, h12]⟩)
      · have q2 := zc_leF hc
        replace e := zb_pair e
        obtain ⟨v14, g15, h14, e⟩ := e
        rw [t_44] at h14
        obtain ⟨e1, e2⟩ := zb_q2 h14
        subst e1
        replace e := zb_if e
        rcases e with ⟨hc, e⟩ | ⟨hc, e⟩
        · cases hc
        · obtain ⟨f1, f2⟩ := zb_r2 e
          exact Or.inr (Or.inr ⟨q, q2, f1.symm, by rw [← f2, ← e2, h12]⟩)
  · have := zc_leF hc
    exfalso
    omega
theorem t_43_no {n : Nat} {x v : Int32} {c c1 : G} (h : ¬ (48 ≤ tb c (c 28 10).toInt ∧ tb c (c 28 10).toInt ≤ 57)) (e : d_43_2 (n + 1) x c = some (v, c1)) : v = x ∧ c1 = c := by
  rw [d_43_2.eq_2] at e
  have L48 := zl_48
  have L57 := zl_57
  replace e := zb_if e
  rcases e with ⟨hc, e⟩ | ⟨hc, e⟩
  · obtain ⟨e1, e2⟩ := zb_r2 e
    exact ⟨e1.symm, e2.symm⟩
  · have q := zc_geF hc
    replace e := zb_bind e
    obtain ⟨k2, hk2, e⟩ := e
    have b2 := zm_ix_ko hk2
    have t := tb_in (c := c) (k := k2) b2.1 q
    replace e := zb_if e
    rcases e with ⟨hc, e⟩ | ⟨hc, e⟩
    · obtain ⟨e1, e2⟩ := zb_r2 e
      exact ⟨e1.symm, e2.symm⟩
    · have q2 := zc_ltF hc
      replace e := zb_bind e
      obtain ⟨k4, hk4, e⟩ := e
      have b4 := zm_ix_ko hk4
      obtain rfl : k4 = k2 := by omega
      replace e := zb_if e
      rcases e with ⟨hc, e⟩ | ⟨hc, e⟩
      · obtain ⟨e1, e2⟩ := zb_r2 e
        exact ⟨e1.symm, e2.symm⟩
      · have q3 := zc_gtF hc
        exfalso
        omega
/-- one step of a NAME's loop -/
theorem t_103 {n : Nat} {c c1 : G} {b : Bool} (e : d_42_103 (n + 1) c = some (b, c1)) : (97 ≤ tb c (c 28 10).toInt ∧ tb c (c 28 10).toInt ≤ 122 ∧ d_42_103 n (zg_up c 28 10 (c 28 10 + 1)) = some (b, c1)) ∨ (¬ (97 ≤ tb c (c 28 10).toInt ∧ tb c (c 28 10).toInt ≤ 122) ∧ d_42_155 c = some (b, c1)) := by
  rw [d_42_103.eq_2] at e
  have L97 := zl_97
  have L122 := zl_122
  replace e := zb_if e
  rcases e with ⟨hc, e⟩ | ⟨hc, e⟩
  · have q := zc_geT hc
    have t := tb_out (c := c) q
    exact Or.inr ⟨by omega, e⟩
  · have q := zc_geF hc
    replace e := zb_bind e
    obtain ⟨k2, hk2, e⟩ := e
    have b2 := zm_ix_ko hk2
    have t := tb_in (c := c) (k := k2) b2.1 q
    replace e := zb_if e
    rcases e with ⟨hc, e⟩ | ⟨hc, e⟩
    · have q2 := zc_ltT hc
      exact Or.inr ⟨by omega, e⟩
    · have q2 := zc_ltF hc
      replace e := zb_bind e
      obtain ⟨k4, hk4, e⟩ := e
      have b4 := zm_ix_ko hk4
      obtain rfl : k4 = k2 := by omega
      replace e := zb_if e
      rcases e with ⟨hc, e⟩ | ⟨hc, e⟩
      · have q3 := zc_gtT hc
        exact Or.inr ⟨by omega, e⟩
      · have q3 := zc_gtF hc
        replace e := zb_let e
        obtain ⟨g26, h26, e⟩ := e
        subst h26
        exact Or.inl ⟨by omega, by omega, e⟩
/-- NAMES -/
theorem tk_nam : ∀ (f : Nat) (b : Bool) (c c1 m m1 : G), RA c m → c 28 10 = m 113 15 → 0 ≤ (c 28 9).toInt → (c 28 9).toInt ≤ (c 28 10).toInt → (c 28 10).toInt ≤ (c 28 1).toInt →
    ((c 28 9).toInt < (c 28 10).toInt ∨ (97 ≤ tb c (c 28 10).toInt ∧ tb c (c 28 10).toInt ≤ 122)) → d_42_103 f c = some (b, c1) → d_119_82 f m = some m1 →
    b = true ∧ c1 28 8 = 1 ∧ c1 28 9 = c 28 9 ∧ c1 28 2 = c 28 2 ∧ c1 28 10 = m1 113 15 ∧ (c 28 10).toInt ≤ (c1 28 10).toInt ∧ (c1 28 10).toInt ≤ (c 28 1).toInt ∧ m1 113 16 = m 113 16 ∧ m1 113 17 = m 113 17 ∧ m1 113 19 = m 113 19 ∧ (c1 28 9).toInt < (c1 28 10).toInt := by
  intro f
  induction f with
  | zero =>
    intro b c c1 m m1 _ _ _ _ _ _ e _
    rw [d_42_103.eq_1] at e
    cases e
  | succ f ih =>
    intro b c c1 m m1 hA hp h0 h1 h2 h3 e f'
    rw [d_119_82.eq_2] at f'
    have L1 := zl_1
    have hpi := congrArg Int32.toInt hp
    have hlb := hA.2.2.1
    replace f' := zb_bind f'
    obtain ⟨v32, hv32, f'⟩ := f'
    have t32 := tb_m hA hv32 (by omega)
    rw [← hpi] at t32
    replace f' := zb_let f'
    obtain ⟨v33, hv33, f'⟩ := f'
    have b33 := zin_a (x1 := v32) (show (97 : Int64).toInt = 97 from by decide) (show (122 : Int64).toInt = 122 from by decide)
    rw [hv33] at b33
    rcases t_103 e with ⟨q1, q2, e⟩ | ⟨q, e⟩
    · replace f' := zb_if f'
      rcases f' with ⟨hc, f'⟩ | ⟨hc, f'⟩
      · replace f' := zb_let f'
        obtain ⟨g35, h35, f'⟩ := f'
        subst h35
        have hlt : (c 28 10).toInt < (c 28 1).toInt := by
          rcases Int.lt_or_le (c 28 10).toInt (c 28 1).toInt with q | q
          · exact q
          · have := t32.2.2.2.1 q
            omega
        have yp := zi_add (x := c 28 10) (y := 1) (by omega) (by omega)
        have u10 : zg_up c 28 10 (c 28 10 + 1) 28 10 = c 28 10 + 1 := zg_ue
        have uo : ∀ r k, ¬ (r = 28 ∧ k = 10) → zg_up c 28 10 (c 28 10 + 1) r k = c r k := fun r k hn => zg_un hn
        have v15 : zg_up m 113 15 (m 113 15 + 1) 113 15 = m 113 15 + 1 := zg_ue
        have vo : ∀ r k, ¬ (r = 113 ∧ k = 15) → zg_up m 113 15 (m 113 15 + 1) r k = m r k := fun r k hn => zg_un hn
        generalize zg_up c 28 10 (c 28 10 + 1) = c2 at *
        generalize zg_up m 113 15 (m 113 15 + 1) = m2 at *
        have u10i := congrArg Int32.toInt u10
        have e9 := uo 28 9 (by omega)
        have e1 := uo 28 1 (by omega)
        have e2 := uo 28 2 (by omega)
        have e9i := congrArg Int32.toInt e9
        have e1i := congrArg Int32.toInt e1
        obtain ⟨r1, r2, r3, r4, r5, r6, r7, r8, r9, r10, r11⟩ := ih b c2 c1 m2 m1 (hA.tk (fun r k hn => uo r k (by omega)) (fun r k hn => vo r k (by omega))) (by rw [u10, v15, hp]) (by omega) (by omega) (by omega) (by omega) e f'
        exact ⟨r1, r2, r3.trans e9, r4.trans e2, r5, by omega, by omega, r8.trans (vo 113 16 (by omega)), r9.trans (vo 113 17 (by omega)), r10.trans (vo 113 19 (by omega)), r11⟩
      · have := zd_no b33 hc
        exfalso
        omega
    · replace f' := zb_if f'
      rcases f' with ⟨hc, f'⟩ | ⟨hc, f'⟩
      · have := b33.mp hc
        exfalso
        omega
      · have e1 := zb_r1 f'
        subst e1
        obtain ⟨r1, r2⟩ := t_155n (by omega) e
        subst r2
        refine ⟨r1, zg_ue, zg_un (by omega), zg_un (by omega), ?_, ?_, ?_, rfl, rfl, rfl, by rw [zg_un (by omega), zg_un (by omega)]; omega⟩
        · rw [zg_un (by omega)]
          exact hp
        · rw [zg_un (by omega)]
          omega
        · rw [zg_un (by omega)]
          exact h2
/-- behind a TOKEN: the class's c1 and answer b, the reference's m1 -/
def TokR (c c1 : G) (b : Bool) (m1 : G) (s0 : Int) : Prop :=
  (b = true ∧ (m1 113 19).toInt = 0 ∧ c1 28 2 = c 28 2 ∧ c1 28 8 = m1 113 17 ∧ c1 28 9 = m1 113 16 ∧ c1 28 10 = m1 113 15 ∧ 0 ≤ (c1 28 9).toInt ∧ (c1 28 9).toInt ≤ (c1 28 10).toInt ∧ (c1 28 10).toInt ≤ (c 28 1).toInt ∧ ((c1 28 8).toInt = 2 → c1 28 11 = m1 113 18) ∧ 0 ≤ (c1 28 8).toInt ∧ (c1 28 8).toInt ≤ 3 ∧ s0 ≤ (c1 28 9).toInt ∧ ((c1 28 8).toInt ≠ 0 → (c1 28 9).toInt < (c1 28 10).toInt) ∧ ((c1 28 8).toInt = 0 → (c1 28 9).toInt = (c 28 1).toInt)) ∨
  (b = false ∧ (c1 28 2).toInt = 1 ∧ (m1 113 19).toInt = 1 ∧ c1 28 3 = m1 113 20)
def zt_stop (g : G) : Option (Bool × G) :=
  zb_l (zg_up g 28 10 (g 28 9)) fun g3 =>
  bif zm_cmp .ne (g3 28 9) (g3 28 1) then (
    Option.bind (zm_ix (g3 28 9) 160) fun k5 =>
    bif zm_cmp .ne (g3 29 k5) 59 then (
      d_42_103 300 g3) else
    zb_l (zg_up g3 28 8 3) fun g27 =>
    zb_l (zg_up g27 28 10 ((g27 28 10) + 1)) fun g28 =>
    some (true, g28)) else
  zb_l (zg_up g3 28 8 0) fun g29 =>
  some (true, g29)
def zt_mstop (g : G) : Option G :=
  zb_l (zg_up g 113 16 (g 113 15)) fun g4 =>
  Option.bind (d_114 (g4 113 15) g4) fun v5 =>
  bif zm_cmp .ge v5 0 then (
    zb_l (d_107 (Int32.toInt64 v5) 97 122) fun v7 =>
    bif v7 then (
      zb_l (zg_up g4 113 17 1) fun g31 =>
      d_119_82 300 g31) else
    zb_l (d_107 (Int32.toInt64 v5) 48 57) fun v9 =>
    bif v9 then (
      zb_l (zg_up g4 113 17 2) fun g17 =>
      zb_l (zg_up g17 113 18 0) fun g18 =>
      d_119_140 300 g18) else
    zb_l (zg_up g4 113 17 3) fun g11 =>
    bif zm_cmp .ne v5 59 then (
      zb_l (d_113 0 1 g11) fun g13 =>
      zb_l (zg_up g13 113 15 ((g13 113 15) + 1)) fun g14 =>
      some g14) else
    zb_l (d_113 1 1 g11) fun g15 =>
    zb_l (zg_up g15 113 15 ((g15 113 15) + 1)) fun g16 =>
    some g16) else
  zb_l (zg_up g4 113 17 0) fun g36 =>
  some g36
theorem tk_stop {b : Bool} {c c1 m m1 : G} (hA : RA c m) (hp : c 28 9 = m 113 15) (h0 : 0 ≤ (c 28 9).toInt) (h1 : (c 28 9).toInt ≤ (c 28 1).toInt) (h19 : (m 113 19).toInt = 0) (e : zt_stop c = some (b, c1)) (f : zt_mstop m = some m1) : TokR c c1 b m1 (c 28 9).toInt := by
  unfold zt_stop at e
  unfold zt_mstop at f
  have L0 := zl_0
  have L1 := zl_1
  have L2 := zl_2
  have L3 := zl_3
  have L59 := zl_59
  have hlb := hA.2.2.1
  replace e := zb_let e
  obtain ⟨g3, h3, e⟩ := e
  replace f := zb_let f
  obtain ⟨g4, h4, f⟩ := f
  have u10 : g3 28 10 = c 28 9 := by rw [← h3]; exact zg_ue
  have uo : ∀ r k, ¬ (r = 28 ∧ k = 10) → g3 r k = c r k := fun r k hn => zg_fr h3 r k hn
  have v16 : g4 113 16 = m 113 15 := by rw [← h4]; exact zg_ue
  have vo : ∀ r k, ¬ (r = 113 ∧ k = 16) → g4 r k = m r k := fun r k hn => zg_fr h4 r k hn
  clear h3 h4
  have hA3 : RA g3 g4 := hA.tk (fun r k hn => uo r k (by omega)) (fun r k hn => vo r k (by omega))
  have e9 := uo 28 9 (by omega)
  have el := uo 28 1 (by omega)
  have e2 := uo 28 2 (by omega)
  have f15 := vo 113 15 (by omega)
  have f19 := vo 113 19 (by omega)
  have e9i := congrArg Int32.toInt e9
  have eli := congrArg Int32.toInt el
  have u10i := congrArg Int32.toInt u10
  have f15i := congrArg Int32.toInt f15
  have f19i := congrArg Int32.toInt f19
  have v16i := congrArg Int32.toInt v16
  have hpi := congrArg Int32.toInt hp
  replace f := zb_bind f
  obtain ⟨v5, hv5, f⟩ := f
  have t5 := tb_m hA3 hv5 (by omega)
  have px : (g4 113 15).toInt = (g3 28 9).toInt := by omega
  rw [px] at t5
  replace e := zb_if e
  rcases e with ⟨hc, e⟩ | ⟨hc, e⟩
  · have q := zc_neT hc
    replace e := zb_bind e
    obtain ⟨k5, hk5, e⟩ := e
    have b5 := zm_ix_ko hk5
    have hlt : (g3 28 9).toInt < (g3 28 1).toInt := by omega
    have tv := tb_in (c := g3) (k := k5) b5.1 hlt
    have t5p := t5.2.2.2.2 hlt
    replace f := zb_if f
    rcases f with ⟨hf, f⟩ | ⟨hf, f⟩
    · replace e := zb_if e
      rcases e with ⟨hc, e⟩ | ⟨hc, e⟩
      · have n59 := zc_neT hc
        replace f := zb_let f
        obtain ⟨v7, hv7, f⟩ := f
        have b7 := zin_a (x1 := v5) (show (97 : Int64).toInt = 97 from by decide) (show (122 : Int64).toInt = 122 from by decide)
        rw [hv7] at b7
        replace f := zb_if f
        rcases f with ⟨hf, f⟩ | ⟨hf, f⟩
        · -- a NAME
          have r7 := b7.mp hf
          replace f := zb_let f
          obtain ⟨g31, h31, f⟩ := f
          have w17 : g31 113 17 = 1 := by rw [← h31]; exact zg_ue
          have wo : ∀ r k, ¬ (r = 113 ∧ k = 17) → g31 r k = g4 r k := fun r k hn => zg_fr h31 r k hn
          have tp : tb g3 (g3 28 10).toInt = v5.toInt := by
            rw [show (g3 28 10).toInt = (g3 28 9).toInt by omega]
            exact t5.1.symm
          obtain ⟨r1, r2, r3, r4, r5, r6, r7', r8, r9, r10, r11⟩ := tk_nam 300 b g3 c1 g31 m1 (hA3.tk (fun r k hn => rfl) (fun r k hn => wo r k (by omega))) (by rw [u10, wo 113 15 (by omega), f15]; exact hp) (by omega) (by omega) (by omega) (Or.inr (by rw [tp]; omega)) e f
          have r3i := congrArg Int32.toInt r3
          have r2i := congrArg Int32.toInt r2
          left
          refine ⟨r1, by rw [r10, wo 113 19 (by omega), f19]; exact h19, r4.trans e2, by rw [r2, r9, w17], ?_, r5, by omega, by omega, by omega, fun q => by omega, by omega, by omega, by omega, fun q => by omega, fun q => by omega⟩
          rw [r3, r8, wo 113 16 (by omega), v16, e9]
          exact hp
        · have r7 := zd_no b7 hf
          have nl : ¬ (97 ≤ tb g3 (g3 28 10).toInt ∧ tb g3 (g3 28 10).toInt ≤ 122) := by
            rw [show (g3 28 10).toInt = (g3 28 9).toInt by omega, ← t5.1]
            exact r7
          rcases t_103 e with ⟨q1, q2, _⟩ | ⟨_, e⟩
          · exact absurd ⟨q1, q2⟩ nl
          · obtain ⟨v10, g11, h11, hcase⟩ := t_155d (by omega) (by omega) (by omega) e
            have c9 : ∀ r k, ¬ (r = 28 ∧ k = 8) → zg_up g3 28 8 2 r k = g3 r k := fun r k hn => zg_un hn
            have c8 : zg_up g3 28 8 2 28 8 = 2 := zg_ue
            have F11 := f_43_2 300 0 (zg_up g3 28 8 2) (v10, g11) h11
            generalize zg_up g3 28 8 2 = g9 at *
            have k8 : g11 28 8 = 2 := (F11 28 8 (by omega)).trans c8
            have k9 : g11 28 9 = c 28 9 := (F11 28 9 (by omega)).trans ((c9 28 9 (by omega)).trans e9)
            have k2 : g11 28 2 = c 28 2 := (F11 28 2 (by omega)).trans ((c9 28 2 (by omega)).trans e2)
            have k9i := congrArg Int32.toInt k9
            have c10 := c9 28 10 (by omega)
            have c1' := c9 28 1 (by omega)
            have c10i := congrArg Int32.toInt c10
            have c1i := congrArg Int32.toInt c1'
            have ty := zi_add (x := g11 28 9) (y := 2) (by omega) (by omega)
            replace f := zb_let f
            obtain ⟨v9, hv9, f⟩ := f
            have b9 := zin_a (x1 := v5) (show (48 : Int64).toInt = 48 from by decide) (show (57 : Int64).toInt = 57 from by decide)
            rw [hv9] at b9
            have tp : tb g9 (g9 28 10).toInt = v5.toInt := by
              rw [tb_cg (c := g3) (c' := g9) (fun r k hn => c9 r k (by omega)), show (g9 28 10).toInt = (g3 28 9).toInt by omega]
              exact t5.1.symm
            replace f := zb_if f
            rcases f with ⟨hf, f⟩ | ⟨hf, f⟩
            · -- a NUMBER
              have r9 := b9.mp hf
              replace f := zb_let f
              obtain ⟨g17, h17, f⟩ := f
              replace f := zb_let f
              obtain ⟨g18, h18, f⟩ := f
              have w17 : g18 113 17 = 2 := by rw [zg_fr h18 113 17 (by omega), ← h17]; exact zg_ue
              have w18 : g18 113 18 = 0 := by rw [← h18]; exact zg_ue
              have wo : ∀ r k, ¬ (r = 113 ∧ (k = 17 ∨ k = 18)) → g18 r k = g4 r k := fun r k hn => (zg_fr h18 r k (by omega)).trans (zg_fr h17 r k (by omega))
              have w16 := wo 113 16 (by omega)
              have w15 := wo 113 15 (by omega)
              have w19 := wo 113 19 (by omega)
              have w16i := congrArg Int32.toInt w16
              have w19i := congrArg Int32.toInt w19
              obtain ⟨r1, r2, r3, r4, r5, r6, r7', r8⟩ := tk_fig 300 0 v10 g9 g11 g18 m1 (c 28 9).toInt (hA3.tk (fun r k hn => c9 r k (by omega)) (fun r k hn => wo r k (by omega))) (by rw [c10, u10, w15, f15]; exact hp) (by omega) h0 (by omega) (by omega) (by omega) (fun _ => w18.symm) (fun _ => by omega) (fun _ => by omega) (fun _ => by omega) h11 f
              have r8 := r8 (by rw [tp]; exact r9)
              have r1i := congrArg Int32.toInt r1
              rcases hcase with ⟨q1, q2, q3⟩ | ⟨q1, q2, q3, q4⟩ | ⟨q1, q2, q3, q4⟩
              · exfalso
                omega
              · left
                have r6 := r6 (by omega)
                have z10 : c1 28 10 = g11 28 10 := by rw [q4]; exact zg_un (by omega)
                have z9 : c1 28 9 = c 28 9 := by rw [q4, zg_un (by omega)]; exact k9
                have z8 : c1 28 8 = 2 := by rw [q4, zg_un (by omega)]; exact k8
                have z11 : c1 28 11 = v10 := by rw [q4]; exact zg_ue
                have z10i := congrArg Int32.toInt z10
                have z9i := congrArg Int32.toInt z9
                have z8i := congrArg Int32.toInt z8
                refine ⟨q3, by rw [r6.2]; omega, by rw [q4, zg_un (by omega)]; exact k2, by rw [z8, r2, w17], ?_, by rw [z10]; exact r3, by omega, by omega, by omega, fun _ => by rw [z11]; exact r6.1, by omega, by omega, by omega, fun _ => by omega, fun q => by omega⟩
                rw [z9, r1, w16, v16]
                exact hp
              · right
                have r7'' := r7' (by omega)
                refine ⟨q3, by rw [q4, zg_un (by omega), zg_ue]; decide, r7''.1, ?_⟩
                rw [q4, zg_ue, k9, r7''.2, w16, v16]
                exact hp
            · -- no TOKEN
              have r9 := zd_no b9 hf
              obtain ⟨n1, n2⟩ := t_43_no (n := 299) (by rw [tp]; exact r9) h11
              subst n2
              rcases hcase with ⟨q1, q2, q3⟩ | ⟨q1, q2, q3, q4⟩ | ⟨q1, q2, q3, q4⟩
              · right
                replace f := zb_let f
                obtain ⟨g11', h11', f⟩ := f
                replace f := zb_if f
                rcases f with ⟨hf, f⟩ | ⟨hf, f⟩
                · replace f := zb_let f
                  obtain ⟨g13, h13, f⟩ := f
                  replace f := zb_let f
                  obtain ⟨g14, h14, f⟩ := f
                  have e1 := zb_r1 f
                  subst e1
                  have s19 : (g11' 113 19).toInt = 0 := by rw [zg_fr h11' 113 19 (by omega)]; omega
                  rw [t_113c (by decide) s19] at h13
                  refine ⟨q2, by rw [q3, zg_un (by omega), zg_ue]; decide, ?_, ?_⟩
                  · rw [← h14, zg_un (by omega), ← h13, zg_un (by omega), zg_ue]
                    decide
                  · rw [q3, zg_ue, k9, ← h14, zg_un (by omega), ← h13, zg_ue, zg_fr h11' 113 16 (by omega), v16]
                    exact hp
                · have := zc_neF hf
                  exfalso
                  omega
              · exfalso
                omega
              · exfalso
                omega
      · -- the ;
        have y59 := zc_neF hc
        replace e := zb_let e
        obtain ⟨g27, h27, e⟩ := e
        replace e := zb_let e
        obtain ⟨g28, h28, e⟩ := e
        obtain ⟨e1, e2'⟩ := zb_r2 e
        subst e1
        subst e2'
        replace f := zb_let f
        obtain ⟨v7, hv7, f⟩ := f
        have b7 := zin_a (x1 := v5) (show (97 : Int64).toInt = 97 from by decide) (show (122 : Int64).toInt = 122 from by decide)
        rw [hv7] at b7
        replace f := zb_if f
        rcases f with ⟨hf, f⟩ | ⟨hf, f⟩
        · have := b7.mp hf
          exfalso
          omega
        · replace f := zb_let f
          obtain ⟨v9, hv9, f⟩ := f
          have b9 := zin_a (x1 := v5) (show (48 : Int64).toInt = 48 from by decide) (show (57 : Int64).toInt = 57 from by decide)
          rw [hv9] at b9
          replace f := zb_if f
          rcases f with ⟨hf, f⟩ | ⟨hf, f⟩
          · have := b9.mp hf
            exfalso
            omega
          · replace f := zb_let f
            obtain ⟨g11', h11', f⟩ := f
            replace f := zb_if f
            rcases f with ⟨hf, f⟩ | ⟨hf, f⟩
            · have := zc_neT hf
              exfalso
              omega
            · replace f := zb_let f
              obtain ⟨g15, h15, f⟩ := f
              replace f := zb_let f
              obtain ⟨g16, h16, f⟩ := f
              have e1 := zb_r1 f
              subst e1
              rw [t_113a (by decide)] at h15
              subst h15
              have z10 : g28 28 10 = c 28 9 + 1 := by rw [← h28, zg_ue, zg_fr h27 28 10 (by omega), u10]
              have z9 : g28 28 9 = c 28 9 := by rw [zg_fr h28 28 9 (by omega), zg_fr h27 28 9 (by omega), e9]
              have z8 : g28 28 8 = 3 := by rw [zg_fr h28 28 8 (by omega), ← h27]; exact zg_ue
              have yp := zi_add (x := c 28 9) (y := 1) (by omega) (by omega)
              have z10i := congrArg Int32.toInt z10
              have z9i := congrArg Int32.toInt z9
              have z8i := congrArg Int32.toInt z8
              left
              refine ⟨rfl, ?_, by rw [zg_fr h28 28 2 (by omega), zg_fr h27 28 2 (by omega), e2], ?_, ?_, ?_, by omega, by omega, by omega, fun q => by omega, by omega, by omega, by omega, fun q => by omega, fun q => by omega⟩
              · rw [zg_fr h16 113 19 (by omega), zg_fr h11' 113 19 (by omega)]
                omega
              · rw [z8, zg_fr h16 113 17 (by omega), ← h11', zg_ue]
              · rw [z9, zg_fr h16 113 16 (by omega), zg_fr h11' 113 16 (by omega), v16]
                exact hp
              · rw [z10, ← h16, zg_ue, zg_fr h11' 113 15 (by omega), f15, hp]
    · have := zc_geF hf
      exfalso
      omega
  · -- the end
    have q := zc_neF hc
    replace e := zb_let e
    obtain ⟨g29, h29, e⟩ := e
    obtain ⟨e1, e2'⟩ := zb_r2 e
    subst e1
    subst e2'
    have t5e := t5.2.2.2.1 (by omega)
    replace f := zb_if f
    rcases f with ⟨hf, f⟩ | ⟨hf, f⟩
    · have := zc_geT hf
      exfalso
      omega
    · replace f := zb_let f
      obtain ⟨g36, h36, f⟩ := f
      have e1 := zb_r1 f
      subst e1
      have z10 : g29 28 10 = c 28 9 := by rw [zg_fr h29 28 10 (by omega), u10]
      have z9 : g29 28 9 = c 28 9 := by rw [zg_fr h29 28 9 (by omega), e9]
      have z8 : g29 28 8 = 0 := by rw [← h29]; exact zg_ue
      have z10i := congrArg Int32.toInt z10
      have z9i := congrArg Int32.toInt z9
      have z8i := congrArg Int32.toInt z8
      left
      refine ⟨rfl, ?_, by rw [zg_fr h29 28 2 (by omega), e2], ?_, ?_, ?_, by omega, by omega, by omega, fun q => by omega, by omega, by omega, by omega, fun q => by omega, fun q => by omega⟩
      · rw [zg_fr h36 113 19 (by omega)]
        omega
      · rw [z8, ← h36, zg_ue]
      · rw [z9, zg_fr h36 113 16 (by omega), v16]
        exact hp
      · rw [z10, zg_fr h36 113 15 (by omega), f15]
        exact hp
/-- blanks -/
theorem tk_8 : ∀ (f : Nat) (b : Bool) (c c1 m m1 : G), RA c m → c 28 9 = m 113 15 → 0 ≤ (c 28 9).toInt → (c 28 9).toInt ≤ (c 28 1).toInt → (m 113 19).toInt = 0 → d_42_8 f c = some (b, c1) → d_119_8 f m = some m1 → TokR c c1 b m1 (c 28 9).toInt := by
  intro f
  induction f with
  | zero =>
    intro b c c1 m m1 _ _ _ _ _ e _
    rw [d_42_8.eq_1] at e
    cases e
  | succ f ih =>
    intro b c c1 m m1 hA hp h0 h1 h19 e f'
    rw [d_42_8.eq_2] at e
    rw [d_119_8.eq_2] at f'
    have L1 := zl_1
    have L32 := zl_32
    have hpi := congrArg Int32.toInt hp
    have hlb := hA.2.2.1
    replace f' := zb_bind f'
    obtain ⟨v2, hv2, f'⟩ := f'
    have t2 := tb_m hA hv2 (by omega)
    rw [← hpi] at t2
    replace e := zb_if e
    rcases e with ⟨hc, e⟩ | ⟨hc, e⟩
    · have q := zc_geT hc
      have t2e := t2.2.2.2.1 q
      replace f' := zb_if f'
      rcases f' with ⟨hf, f'⟩ | ⟨hf, f'⟩
      · exact tk_stop hA hp h0 h1 h19 e f'
      · have := zc_neF hf
        exfalso
        omega
    · have q := zc_geF hc
      replace e := zb_bind e
      obtain ⟨k30, hk30, e⟩ := e
      have b30 := zm_ix_ko hk30
      have tv := tb_in (c := c) (k := k30) b30.1 q
      replace e := zb_if e
      rcases e with ⟨hc, e⟩ | ⟨hc, e⟩
      · have q2 := zc_neT hc
        replace f' := zb_if f'
        rcases f' with ⟨hf, f'⟩ | ⟨hf, f'⟩
        · exact tk_stop hA hp h0 h1 h19 e f'
        · have := zc_neF hf
          exfalso
          omega
      · have q2 := zc_neF hc
        replace f' := zb_if f'
        rcases f' with ⟨hf, f'⟩ | ⟨hf, f'⟩
        · have := zc_neT hf
          exfalso
          omega
        · replace e := zb_let e
          obtain ⟨g39, h39, e⟩ := e
          replace f' := zb_let f'
          obtain ⟨g37, h37, f'⟩ := f'
          have yp := zi_add (x := c 28 9) (y := 1) (by omega) (by omega)
          have u9 : g39 28 9 = c 28 9 + 1 := by rw [← h39]; exact zg_ue
          have v15 : g37 113 15 = m 113 15 + 1 := by rw [← h37]; exact zg_ue
          have el : g39 28 1 = c 28 1 := zg_fr h39 28 1 (by omega)
          have e2 : g39 28 2 = c 28 2 := zg_fr h39 28 2 (by omega)
          have u9i := congrArg Int32.toInt u9
          have eli := congrArg Int32.toInt el
          have r := ih b g39 c1 g37 m1 (hA.tk (fun r k hn => zg_fr h39 r k (by omega)) (fun r k hn => zg_fr h37 r k (by omega))) (by rw [u9, v15, hp]) (by omega) (by omega) (by rw [zg_fr h37 113 19 (by omega)]; exact h19) e f'
          unfold TokR at *
          rw [e2, el] at r
          rcases r with ⟨a1, a2, a3, a4, a5, a6, a7, a8, a9, a10, a11, a12, a13, a14, a15⟩ | r
          · exact Or.inl ⟨a1, a2, a3, a4, a5, a6, a7, a8, a9, a10, a11, a12, by omega, a14, a15⟩
          · exact Or.inr r
theorem tk {b : Bool} {c c1 m m1 : G} (hA : RA c m) (hp : c 28 10 = m 113 15) (h0 : 0 ≤ (c 28 10).toInt) (h1 : (c 28 10).toInt ≤ (c 28 1).toInt) (h19 : (m 113 19).toInt = 0) (e : d_42 c = some (b, c1)) (f : d_119 m = some m1) : TokR c c1 b m1 (c 28 10).toInt := by
  unfold d_42 at e
  unfold d_119 at f
  have L0 := zl_0
  replace e := zb_let e
  obtain ⟨g1, hg, e⟩ := e
  have u9 : g1 28 9 = c 28 10 := by rw [← hg]; exact zg_ue
  have el : g1 28 1 = c 28 1 := zg_fr hg 28 1 (by omega)
  have e2 : g1 28 2 = c 28 2 := zg_fr hg 28 2 (by omega)
  have u9i := congrArg Int32.toInt u9
  have eli := congrArg Int32.toInt el
  replace f := zb_if f
  rcases f with ⟨hf, f⟩ | ⟨hf, f⟩
  · have r := tk_8 300 b g1 c1 m m1 (hA.tk (fun r k hn => zg_fr hg r k (by omega)) (fun r k hn => rfl)) (u9.trans hp) (by omega) (by omega) h19 e f
    unfold TokR at *
    rw [e2, el, u9] at r
    exact r
  · have := zc_leF hf
    exfalso
    omega
