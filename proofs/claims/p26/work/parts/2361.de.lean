/-! the text: deed -/
section DE
variable {c c1 c2 ma mb mc m5 m m' g : G} {b b2 : Bool} {k s1 x1 x2 v : Int32}
/-- the greatest so far -/
def Mx (f a v w : Int32) : Prop := (f.toInt ≠ 0 ∧ w = a) ∨ (f.toInt = 0 ∧ v.toInt ≤ a.toInt ∧ w = a) ∨ (f.toInt = 0 ∧ a.toInt < v.toInt ∧ w = v)
theorem t_124 (f : d_124 m = some (v, m')) : ∃ m1 m2 w, d_120 0 3 m = (v, m1) ∧ d_119 m1 = some m2 ∧ zg_up m2 113 11 w = m' ∧ Mx (m2 113 19) (m2 113 11) v w := by
  unfold d_124 at f
  have L0 := zl_0
  replace f := zb_bpair f
  obtain ⟨v1, g2, h2, f⟩ := f
  obtain ⟨m1, h120, h119⟩ := t_121 h2
  replace f := zb_if f
  rcases f with ⟨hf, f⟩ | ⟨hf, f⟩
  · have q := zc_neT hf
    replace f := zb_let f
    obtain ⟨g4, h4, f⟩ := f
    obtain ⟨e1, e2⟩ := zb_r2 f
    subst e1
    subst e2
    exact ⟨m1, g2, _, h120, h119, h4, Or.inl ⟨by omega, rfl⟩⟩
  · have q := zc_neF hf
    replace f := zb_if f
    rcases f with ⟨hf, f⟩ | ⟨hf, f⟩
    · have q2 := zc_leT hf
      replace f := zb_let f
      obtain ⟨g4, h4, f⟩ := f
      obtain ⟨e1, e2⟩ := zb_r2 f
      subst e1
      subst e2
      exact ⟨m1, g2, _, h120, h119, h4, Or.inr (Or.inl ⟨by omega, q2, rfl⟩)⟩
    · have q2 := zc_leF hf
      replace f := zb_let f
      obtain ⟨g4, h4, f⟩ := f
      obtain ⟨e1, e2⟩ := zb_r2 f
      subst e1
      subst e2
      exact ⟨m1, g2, _, h120, h119, h4, Or.inr (Or.inr ⟨by omega, q2, rfl⟩)⟩
theorem t_120f (h : 0 < (m 113 19).toInt) (f : d_120 x1 x2 m = (v, m')) : m' = m := by
  rcases t_120 f with ⟨_, _, r2⟩ | ⟨r, _⟩ | ⟨r, _⟩ | ⟨r, _⟩
  · exact r2
  · exfalso
    omega
  · exfalso
    omega
  · exfalso
    omega
theorem t_124s (h : 0 < (m 113 19).toInt) (f : d_124 m = some (v, m')) : UT m m' := by
  obtain ⟨m1, m2, w, h1, h2, h3, _⟩ := t_124 f
  have e1 := t_120f h h1
  subst e1
  have e2 := t_119s h h2
  subst e2
  exact fun r k hr => zg_fr h3 r k (by omega)
theorem t_125 (f : d_125 m = some mc) : ∃ v1 g2 s1 g4 k6 g5 v7 g8 k10 g9 v11 g12 k14 g13 v15 g16 k18 g17 v19 g20 k22 g21, d_121 0 7 m = some (v1, g2) ∧ Mx (g2 113 19) (g2 113 10) v1 s1 ∧ zg_up g2 113 10 s1 = g4 ∧ zm_ix ((9 + (7 * (m 116 8))) + 0) 98 = some k6 ∧ zg_up g4 116 k6 v1 = g5 ∧ d_124 g5 = some (v7, g8) ∧ zm_ix ((9 + (7 * (m 116 8))) + 1) 98 = some k10 ∧ zg_up g8 116 k10 v7 = g9 ∧ d_124 g9 = some (v11, g12) ∧ zm_ix ((9 + (7 * (m 116 8))) + 2) 98 = some k14 ∧ zg_up g12 116 k14 v11 = g13 ∧ d_121 0 5 g13 = some (v15, g16) ∧ zm_ix ((9 + (7 * (m 116 8))) + 3) 98 = some k18 ∧ zg_up g16 116 k18 v15 = g17 ∧ d_122_2 300 0 g17 = some (v19, g20) ∧ zm_ix ((9 + (7 * (m 116 8))) + 4) 98 = some k22 ∧ zg_up g20 116 k22 v19 = g21 ∧ zg_up g21 116 8 ((g21 116 8) + 1) = mc := by
  unfold d_125 at f
  have L0 := zl_0
  replace f := zb_bpair f
  obtain ⟨v1, g2, h2, f⟩ := f
  have nx : ∃ s1, Mx (g2 113 19) (g2 113 10) v1 s1 ∧ d_125_46 (9 + (7 * (m 116 8))) v1 s1 g2 = some mc := by
    replace f := zb_if f
    rcases f with ⟨hf, f⟩ | ⟨hf, f⟩
    · have q := zc_neT hf
      exact ⟨_, Or.inl ⟨by omega, rfl⟩, f⟩
    · have q := zc_neF hf
      replace f := zb_if f
      rcases f with ⟨hf, f⟩ | ⟨hf, f⟩
      · have q2 := zc_leT hf
        exact ⟨_, Or.inr (Or.inl ⟨by omega, q2, rfl⟩), f⟩
      · have q2 := zc_leF hf
        exact ⟨_, Or.inr (Or.inr ⟨by omega, q2, rfl⟩), f⟩
  clear f
  obtain ⟨s1, hs, f⟩ := nx
  unfold d_125_46 at f
  replace f := zb_let f
  obtain ⟨g4, h4, f⟩ := f
  replace f := zb_bind f
  obtain ⟨k6, h6, f⟩ := f
  replace f := zb_let f
  obtain ⟨g5, h5, f⟩ := f
  replace f := zb_bpair f
  obtain ⟨v7, g8, h8, f⟩ := f
  replace f := zb_bind f
  obtain ⟨k10, h10, f⟩ := f
  replace f := zb_let f
  obtain ⟨g9, h9, f⟩ := f
  replace f := zb_bpair f
  obtain ⟨v11, g12, h12, f⟩ := f
  replace f := zb_bind f
  obtain ⟨k14, h14, f⟩ := f
  replace f := zb_let f
  obtain ⟨g13, h13, f⟩ := f
  replace f := zb_bpair f
  obtain ⟨v15, g16, h16, f⟩ := f
  replace f := zb_bind f
  obtain ⟨k18, h18, f⟩ := f
  replace f := zb_let f
  obtain ⟨g17, h17, f⟩ := f
  replace f := zb_bpair f
  obtain ⟨v19, g20, h20, f⟩ := f
  replace f := zb_bind f
  obtain ⟨k22, h22, f⟩ := f
  replace f := zb_let f
  obtain ⟨g21, h21, f⟩ := f
  replace f := zb_let f
  obtain ⟨g23, h23, f⟩ := f
  have e1 := zb_r1 f
  subst e1
  exact ⟨v1, g2, s1, g4, k6, g5, v7, g8, k10, g9, v11, g12, k14, g13, v15, g16, k18, g17, v19, g20, k22, g21, h2, hs, h4, h6, h5, h8, h10, h9, h12, h14, h13, h16, h18, h17, h20, h22, h21, h23⟩
theorem Mx.le {f a v w : Int32} (h : Mx f a v w) (hf : f.toInt = 0) : (v.toInt ≤ a.toInt ∧ w = a) ∨ (a.toInt < v.toInt ∧ w = v) := by
  rcases h with ⟨q, _⟩ | ⟨_, q⟩ | ⟨_, q⟩
  · exact absurd hf q
  · exact Or.inl q
  · exact Or.inr q
theorem ln_deed (hP : PT c ma) (f0 : d_119 ma = some mb) (hD : DR c ma) (hde : (c 30 2).toInt < 8) (e : d_34 c = some (b2, c2)) (f : d_127 2 mb = some mc) (ft : zt_tail mc = some m5) : LnR c c2 b2 m5 := by
  have L0 := zl_0
  have L1 := zl_1
  have L3 := zl_3
  have L5 := zl_5
  have L7 := zl_7
  have L8 := zl_8
  have f : d_125 mb = some mc := by
    unfold d_127 at f
    replace f := zb_if f
    rcases f with ⟨hf, f⟩ | ⟨_, f⟩
    · exact absurd hf (by decide)
    · replace f := zb_if f
      rcases f with ⟨hf, f⟩ | ⟨_, f⟩
      · exact absurd hf (by decide)
      · replace f := zb_if f
        rcases f with ⟨_, f⟩ | ⟨hf, f⟩
        · replace f := zb_bind f
          obtain ⟨g6, h6, f⟩ := f
          rw [h6]
          exact f
        · exact absurd hf (by decide)
  obtain ⟨v1, g2, s1, g4, k6, g5, v7, g8, k10, g9, v11, g12, k14, g13, v15, g16, k18, g17, v19, g20, k22, g21, F2, FX, F4, F6, F5, F8, F10, F9, F12, F14, F13, F16, F18, F17, F20, F22, F21, F23⟩ := t_125 f
  -- behind a FAULT
  have S5 : UT g20 mc := fun r k hr => by rw [zg_fr F23 r k (by omega), zg_fr F21 r k (by omega)]
  have S4 : 0 < (g17 113 19).toInt → UT g17 mc := fun h => by
    have q := t_122s h F20
    subst q
    exact S5
  have uT17 : UT g16 g17 := fun r k hr => zg_fr F17 r k (by omega)
  have S3 : 0 < (g13 113 19).toInt → UT g13 mc := fun h => by
    have q := (t_121f h F16).2
    subst q
    exact uT17.trans (S4 (by rw [uT17 113 19 (by omega)]; exact h))
  have uT13 : UT g12 g13 := fun r k hr => zg_fr F13 r k (by omega)
  have S2' : 0 < (g12 113 19).toInt → UT g12 mc := fun h => uT13.trans (S3 (by rw [uT13 113 19 (by omega)]; exact h))
  have S2 : 0 < (g9 113 19).toInt → UT g9 mc := fun h => by
    have q := t_124s h F12
    exact q.trans (S2' (by rw [q 113 19 (by omega)]; exact h))
  have uT9 : UT g8 g9 := fun r k hr => zg_fr F9 r k (by omega)
  have S1' : 0 < (g8 113 19).toInt → UT g8 mc := fun h => uT9.trans (S2 (by rw [uT9 113 19 (by omega)]; exact h))
  have S1 : 0 < (g5 113 19).toInt → UT g5 mc := fun h => by
    have q := t_124s h F8
    exact q.trans (S1' (by rw [q 113 19 (by omega)]; exact h))
  have uT5 : UT g2 g5 := fun r k hr => by rw [zg_fr F5 r k (by omega), zg_fr F4 r k (by omega)]
  have S0 : 0 < (g2 113 19).toInt → UT g2 mc := fun h => uT5.trans (S1 (by rw [uT5 113 19 (by omega)]; exact h))
  obtain ⟨m1, A120, A119⟩ := t_121 F2
  obtain ⟨m1b, m2b, wb, B120, B119, B11, BX⟩ := t_124 F8
  obtain ⟨m1c, m2c, wc, C120, C119, C11, CX⟩ := t_124 F12
  obtain ⟨m1d, D120, D119⟩ := t_121 F16
  have uTb : UT m2b g8 := fun r k hr => zg_fr B11 r k (by omega)
  have uTc : UT m2c g12 := fun r k hr => zg_fr C11 r k (by omega)
  unfold d_34 at e
  replace e := zb_if e
  rcases e with ⟨hc, e⟩ | ⟨hc, e⟩
  · replace e := zb_bind e
    obtain ⟨n, hn, e⟩ := e
    have bn := zm_ix_ko hn
    replace e := zb_let e
    obtain ⟨c3, h3, e⟩ := e
    replace e := zb_bpair e
    obtain ⟨w4, c5, h5, e⟩ := e
    have hP3 : PT c3 ma := hP.uc (fun r k hr => zg_fr h3 r k (by omega))
    have hD1 : DR c mb := hD.tk UC.refl (f119u f0)
    obtain ⟨U5, hn5⟩ := hP3.num f0 h5 A120
    rcases hn5 with ⟨q1, q2, q3, q4, q5, q6, q7⟩ | ⟨q1, q2⟩
    · subst q1
      subst q3
      rw [cond_true] at e
      replace e := zb_let e
      obtain ⟨c7, h7, e⟩ := e
      replace e := zb_bpair e
      obtain ⟨w8, c9, h9, e⟩ := e
      have hP7 : PT c7 m1 := q2.pt.uc (fun r k hr => zg_fr h7 r k (by omega))
      obtain ⟨U9, hn9⟩ := hP7.num2 A119 uT5 h9 B120
      rcases hn9 with ⟨r1, r2, r3, r4, r5, r6, r7⟩ | ⟨r1, r2⟩
      · subst r1
        subst r3
        rw [cond_true] at e
        replace e := zb_let e
        obtain ⟨c11, h11, e⟩ := e
        replace e := zb_bpair e
        obtain ⟨w12, c13, h13, e⟩ := e
        have hP11 : PT c11 m1b := r2.pt.uc (fun r k hr => zg_fr h11 r k (by omega))
        obtain ⟨U13, hn13⟩ := hP11.num2 B119 (uTb.trans uT9) h13 C120
        rcases hn13 with ⟨s1', s2, s3, s4, s5, s6, s7⟩ | ⟨s1', s2⟩
        · subst s1'
          subst s3
          rw [cond_true] at e
          replace e := zb_let e
          obtain ⟨c15, h15, e⟩ := e
          replace e := zb_bpair e
          obtain ⟨w16, c17, h17, e⟩ := e
          have hP15 : PT c15 m1c := s2.pt.uc (fun r k hr => zg_fr h15 r k (by omega))
          obtain ⟨U17, hn17⟩ := hP15.num2 C119 (uTc.trans uT13) h17 D120
          rcases hn17 with ⟨t1, t2, t3, t4, t5, t6, t7⟩ | ⟨t1, t2⟩
          · subst t1
            subst t3
            rw [cond_true] at e
            replace e := zb_let e
            obtain ⟨c19, h19, e⟩ := e
            replace e := zb_bpair e
            obtain ⟨v20, c21, h21, e⟩ := e
            replace e := zb_let e
            obtain ⟨c22, h22, e⟩ := e
            have hP19 : PT c19 m1d := t2.pt.uc (fun r k hr => zg_fr h19 r k (by omega))
            obtain ⟨th, thp⟩ := tk_things 300 0 0 v20 v19 c19 c21 m1d g16 g17 g20 hP19 D119 uT17 (by decide) (by decide) h21 F20
            have T37 : UC c19 c21 := fun r k hn => f_37_4 300 0 0 c19 (v20, c21) h21 r k (by omega)
            have T122 : UM g17 g20 := fun r k hn => f_122_2 300 0 g17 (v19, g20) F20 r k (by omega)
            have z2 : c22 28 2 = c21 28 2 := zg_fr h22 28 2 (by omega)
            have z3 : c22 28 3 = c21 28 3 := zg_fr h22 28 3 (by omega)
            have z2i := congrArg Int32.toInt z2
            have hb : ((c22 28 2).toInt ≠ 0 → b2 = false ∧ c2 = c22) ∧ ((c22 28 2).toInt = 0 → b2 = true ∧ c2 = c22) := by
              replace e := zb_if e
              rcases e with ⟨hc, e⟩ | ⟨hc, e⟩
              · have z := zc_neT hc
                obtain ⟨e1, e2⟩ := zb_r2 e
                exact ⟨fun _ => ⟨e1.symm, e2.symm⟩, fun w => by omega⟩
              · have z := zc_neF hc
                obtain ⟨e1, e2⟩ := zb_r2 e
                exact ⟨fun w => by omega, fun _ => ⟨e1.symm, e2.symm⟩⟩
            rcases th with ⟨y1, y2, y3, y4, y5⟩ | y1 | ⟨y1, y2, y3, y4⟩
            · have k0 := y1.2.1
              have adv := thp (Or.inl ⟨y1, y2, y3, y4, y5⟩) k0
              obtain ⟨hb1, hb2⟩ := hb.2 (by omega)
              subst hb2
              left
              have y1m : AT c21 mc := y1.ut S5
              have h17' := congrArg Int32.toInt y1m.2.2.2.1
              have ATg : AT c2 mc := y1m.uc (fun r k hr => zg_fr h22 r k (by omega))
              have l1 := congrArg Int32.toInt (zg_fr h3 28 10 (by omega))
              have l2 := congrArg Int32.toInt (zg_fr h7 28 10 (by omega))
              have l3 := congrArg Int32.toInt (zg_fr h11 28 10 (by omega))
              have l4 := congrArg Int32.toInt (zg_fr h15 28 10 (by omega))
              have l5 := congrArg Int32.toInt (zg_fr h19 28 10 (by omega))
              have l6 := congrArg Int32.toInt (zg_fr h22 28 10 (by omega))
              refine ⟨hb1, ⟨mc, ATg.pt, tail_3 y1m.2.2.1 (by omega) ft, ?_⟩, by omega⟩
              -- class: what has changed
              have u1 : ∀ r k, ¬ (r = 28 ∧ (k = 2 ∨ k = 3 ∨ (8 ≤ k ∧ k ≤ 11))) → ¬ (r = 30 ∧ k = 2) → ¬ (r = 38 + n ∧ k < 5) → c2 r k = c r k := fun r k p1 p2 p3 => by rw [zg_fr h22 r k (by omega), T37 r k (by omega), zg_fr h19 r k (by omega), U17 r k p1, zg_fr h15 r k (by omega), U13 r k p1, zg_fr h11 r k (by omega), U9 r k p1, zg_fr h7 r k (by omega), U5 r k p1, zg_fr h3 r k (by omega)]
              have x2' : c2 30 2 = c 30 2 + 1 := by rw [zg_fr h22 30 2 (by omega), T37 30 2 (by omega), zg_fr h19 30 2 (by omega), U17 30 2 (by omega), zg_fr h15 30 2 (by omega), U13 30 2 (by omega), zg_fr h11 30 2 (by omega), U9 30 2 (by omega), zg_fr h7 30 2 (by omega), U5 30 2 (by omega), ← h3, zg_ue]
              have z0 : c2 (38 + n) 0 = v1 := by rw [zg_fr h22 _ _ (by omega), T37 _ _ (by omega), zg_fr h19 _ _ (by omega), U17 _ _ (by omega), zg_fr h15 _ _ (by omega), U13 _ _ (by omega), zg_fr h11 _ _ (by omega), U9 _ _ (by omega), ← h7, zg_ue, q4]
              have z1 : c2 (38 + n) 1 = v7 := by rw [zg_fr h22 _ _ (by omega), T37 _ _ (by omega), zg_fr h19 _ _ (by omega), U17 _ _ (by omega), zg_fr h15 _ _ (by omega), U13 _ _ (by omega), ← h11, zg_ue, r4]
              have z2' : c2 (38 + n) 2 = v11 := by rw [zg_fr h22 _ _ (by omega), T37 _ _ (by omega), zg_fr h19 _ _ (by omega), U17 _ _ (by omega), ← h15, zg_ue, s4]
              have z3' : c2 (38 + n) 3 = v15 := by rw [zg_fr h22 _ _ (by omega), T37 _ _ (by omega), ← h19, zg_ue, t4]
              have z4 : c2 (38 + n) 4 = v20 := by rw [← h22]; exact zg_ue
              -- the reference: what has changed
              have M2 := f119u A119
              have M2b := f119u B119
              have M2c := f119u C119
              have M16 := f119u D119
              have a3 : c 30 2 = m1 116 8 := hD1.1.1.2.2.1
              have a3i := congrArg Int32.toInt a3
              have n8 : (m1 116 8).toInt = n := by omega
              have i0 := zi_idx (x := m1 116 8) (o := 0) (n := 0) n8 (by omega) (by decide) (by omega)
              have i1 := zi_idx (x := m1 116 8) (o := 1) (n := 1) n8 (by omega) (by decide) (by omega)
              have i2 := zi_idx (x := m1 116 8) (o := 2) (n := 2) n8 (by omega) (by decide) (by omega)
              have i3 := zi_idx (x := m1 116 8) (o := 3) (n := 3) n8 (by omega) (by decide) (by omega)
              have i4 := zi_idx (x := m1 116 8) (o := 4) (n := 4) n8 (by omega) (by decide) (by omega)
              have j0 := zm_ix_ko F6
              have j1 := zm_ix_ko F10
              have j2 := zm_ix_ko F14
              have j3' := zm_ix_ko F18
              have j4 := zm_ix_ko F22
              obtain rfl : k6 = 9 + 7 * n + 0 := by omega
              obtain rfl : k10 = 9 + 7 * n + 1 := by omega
              obtain rfl : k14 = 9 + 7 * n + 2 := by omega
              obtain rfl : k18 = 9 + 7 * n + 3 := by omega
              obtain rfl : k22 = 9 + 7 * n + 4 := by omega
              have w1 : ∀ r k, ¬ (r = 113 ∧ 15 ≤ k ∧ k ≤ 20) → ¬ (r = 113 ∧ (k = 10 ∨ k = 11)) → ¬ (r = 116 ∧ k = 8) → ¬ (r = 116 ∧ 9 + 7 * n ≤ k ∧ k < 9 + 7 * n + 5) → mc r k = m1 r k := fun r k p1 p2 p3 p4 => by rw [zg_fr F23 r k (by omega), zg_fr F21 r k (by omega), T122 r k (by omega), zg_fr F17 r k (by omega), M16 r k p1, zg_fr F13 r k (by omega), zg_fr C11 r k (by omega), M2c r k p1, zg_fr F9 r k (by omega), zg_fr B11 r k (by omega), M2b r k p1, zg_fr F5 r k (by omega), zg_fr F4 r k (by omega), M2 r k p1]
              have o8 : mc 116 8 = m1 116 8 + 1 := by rw [← F23, zg_ue, zg_fr F21 116 8 (by omega), T122 116 8 (by omega), zg_fr F17 116 8 (by omega), M16 116 8 (by omega), zg_fr F13 116 8 (by omega), zg_fr C11 116 8 (by omega), M2c 116 8 (by omega), zg_fr F9 116 8 (by omega), zg_fr B11 116 8 (by omega), M2b 116 8 (by omega), zg_fr F5 116 8 (by omega), zg_fr F4 116 8 (by omega), M2 116 8 (by omega)]
              have o0 : mc 116 (9 + 7 * n + 0) = v1 := by rw [zg_fr F23 _ _ (by omega), zg_fr F21 _ _ (by omega), T122 _ _ (by omega), zg_fr F17 _ _ (by omega), M16 _ _ (by omega), zg_fr F13 _ _ (by omega), zg_fr C11 _ _ (by omega), M2c _ _ (by omega), zg_fr F9 _ _ (by omega), zg_fr B11 _ _ (by omega), M2b _ _ (by omega), ← F5, zg_ue]
              have o1 : mc 116 (9 + 7 * n + 1) = v7 := by rw [zg_fr F23 _ _ (by omega), zg_fr F21 _ _ (by omega), T122 _ _ (by omega), zg_fr F17 _ _ (by omega), M16 _ _ (by omega), zg_fr F13 _ _ (by omega), zg_fr C11 _ _ (by omega), M2c _ _ (by omega), ← F9, zg_ue]
              have o2 : mc 116 (9 + 7 * n + 2) = v11 := by rw [zg_fr F23 _ _ (by omega), zg_fr F21 _ _ (by omega), T122 _ _ (by omega), zg_fr F17 _ _ (by omega), M16 _ _ (by omega), ← F13, zg_ue]
              have o3 : mc 116 (9 + 7 * n + 3) = v15 := by rw [zg_fr F23 _ _ (by omega), zg_fr F21 _ _ (by omega), T122 _ _ (by omega), ← F17, zg_ue]
              have o4 : mc 116 (9 + 7 * n + 4) = v19 := by rw [zg_fr F23 _ _ (by omega), ← F21, zg_ue]
              have o10 : mc 113 10 = s1 := by rw [zg_fr F23 113 10 (by omega), zg_fr F21 113 10 (by omega), T122 113 10 (by omega), zg_fr F17 113 10 (by omega), M16 113 10 (by omega), zg_fr F13 113 10 (by omega), zg_fr C11 113 10 (by omega), M2c 113 10 (by omega), zg_fr F9 113 10 (by omega), zg_fr B11 113 10 (by omega), M2b 113 10 (by omega), zg_fr F5 113 10 (by omega), ← F4, zg_ue]
              have o11 : mc 113 11 = wc := by rw [zg_fr F23 113 11 (by omega), zg_fr F21 113 11 (by omega), T122 113 11 (by omega), zg_fr F17 113 11 (by omega), M16 113 11 (by omega), zg_fr F13 113 11 (by omega), ← C11, zg_ue]
              have e10 : g2 113 10 = m1 113 10 := M2 113 10 (by omega)
              have eb11 : m2b 113 11 = m1 113 11 := by rw [M2b 113 11 (by omega), zg_fr F5 113 11 (by omega), zg_fr F4 113 11 (by omega), M2 113 11 (by omega)]
              have ec11 : m2c 113 11 = wb := by rw [M2c 113 11 (by omega), zg_fr F9 113 11 (by omega), ← B11, zg_ue]
              have fz2 : (g2 113 19).toInt = 0 := by rw [← uT5 113 19 (by omega)]; exact r2.2.2.1
              have fzb : (m2b 113 19).toInt = 0 := by rw [← (uTb.trans uT9) 113 19 (by omega)]; exact s2.2.2.1
              have fzc : (m2c 113 19).toInt = 0 := by rw [← (uTc.trans uT13) 113 19 (by omega)]; exact t2.2.2.1
              have X1 := FX.le fz2
              have X2 := BX.le fzb
              have X3 := CX.le fzc
              rw [e10] at X1
              rw [eb11] at X2
              rw [ec11] at X3
              have ya := zi_add (x := c 30 2) (y := 1) (by omega) (by omega)
              obtain ⟨⟨⟨a1, a2, _, a4, a5, a6, a7⟩, a8, a9⟩, d2, d3, d4, d5, d6⟩ := hD1
              have X1i : (v1.toInt ≤ (m1 113 10).toInt ∧ s1.toInt = (m1 113 10).toInt) ∨ ((m1 113 10).toInt < v1.toInt ∧ s1.toInt = v1.toInt) := by
                rcases X1 with ⟨p1, p2⟩ | ⟨p1, p2⟩
                · exact Or.inl ⟨p1, by rw [p2]⟩
                · exact Or.inr ⟨p1, by rw [p2]⟩
              have X2i : (v7.toInt ≤ (m1 113 11).toInt ∧ wb.toInt = (m1 113 11).toInt) ∨ ((m1 113 11).toInt < v7.toInt ∧ wb.toInt = v7.toInt) := by
                rcases X2 with ⟨p1, p2⟩ | ⟨p1, p2⟩
                · exact Or.inl ⟨p1, by rw [p2]⟩
                · exact Or.inr ⟨p1, by rw [p2]⟩
              have X3i : (v11.toInt ≤ wb.toInt ∧ wc.toInt = wb.toInt) ∨ (wb.toInt < v11.toInt ∧ wc.toInt = v11.toInt) := by
                rcases X3 with ⟨p1, p2⟩ | ⟨p1, p2⟩
                · exact Or.inl ⟨p1, by rw [p2]⟩
                · exact Or.inr ⟨p1, by rw [p2]⟩
              refine ⟨⟨⟨?_, ?_, by rw [x2', o8, a3], ?_, ?_, ?_, ?_⟩, ?_, ?_⟩, d2.cg (by omega) (fun r k hr => u1 r k (by omega) (by omega) (by omega)) (fun k hr => w1 116 k (by omega) (by omega) (by omega) (by omega)), ?_, d4.cg (fun r k hr => u1 r k (by omega) (by omega) (by omega)) (fun d j _ _ => w1 116 _ (by omega) (by omega) (by omega) (by omega)), ?_, d6.cg (u1 28 6 (by omega) (by omega) (by omega)) (u1 28 7 (by omega) (by omega) (by omega)) (w1 113 12 (by omega) (by omega) (by omega) (by omega))⟩
              · rw [u1 30 0 (by omega) (by omega) (by omega), w1 113 5 (by omega) (by omega) (by omega) (by omega)]; exact a1
              · rw [u1 30 1 (by omega) (by omega) (by omega), w1 113 6 (by omega) (by omega) (by omega) (by omega)]; exact a2
              · rw [u1 28 5 (by omega) (by omega) (by omega), w1 113 7 (by omega) (by omega) (by omega) (by omega)]; exact a4
              · rw [u1 28 6 (by omega) (by omega) (by omega), w1 113 8 (by omega) (by omega) (by omega) (by omega)]; exact a5
              · rw [u1 28 7 (by omega) (by omega) (by omega), w1 113 9 (by omega) (by omega) (by omega) (by omega)]; exact a6
              · rw [u1 30 3 (by omega) (by omega) (by omega), w1 116 65 (by omega) (by omega) (by omega) (by omega)]; exact a7
              · rw [u1 30 0 (by omega) (by omega) (by omega), u1 30 1 (by omega) (by omega) (by omega), x2', u1 30 3 (by omega) (by omega) (by omega)]
                omega
              · rw [u1 28 5 (by omega) (by omega) (by omega)]; exact a9
              · intro d hd
                rw [x2'] at hd
                rw [o10, o11]
                by_cases hh : d = n
                · subst hh
                  rw [z0, z1, z2', z3', z4]
                  refine ⟨fun j hj => ?_, by omega⟩
                  match j, hj with
                  | 0, _ => rw [z0, o0]
                  | 1, _ => rw [z1, o1]
                  | 2, _ => rw [z2', o2]
                  | 3, _ => rw [z3', o3]
                  | 4, _ => rw [z4, o4, y3]
                  | j + 5, h => exact absurd h (by omega)
                · obtain ⟨p1, p2⟩ := d3 d (by omega)
                  rw [u1 (38 + d) 0 (by omega) (by omega) (by omega), u1 (38 + d) 1 (by omega) (by omega) (by omega), u1 (38 + d) 2 (by omega) (by omega) (by omega), u1 (38 + d) 3 (by omega) (by omega) (by omega), u1 (38 + d) 4 (by omega) (by omega) (by omega)]
                  refine ⟨fun j hj => ?_, by omega⟩
                  rw [u1 (38 + d) j (by omega) (by omega) (by omega), w1 116 (9 + 7 * d + j) (by omega) (by omega) (by omega) (by omega)]
                  exact p1 j hj
              · unfold D5
                rw [o10, o11, x2']
                constructor
                · rcases X1i with ⟨p1, p2⟩ | ⟨p1, p2⟩
                  · rw [p2]
                    refine d5.1.imp id fun ⟨d, r1, r2⟩ => ⟨d, by omega, ?_⟩
                    rw [u1 (38 + d) 0 (by omega) (by omega) (by omega)]
                    exact r2
                  · exact Or.inr ⟨n, by omega, by rw [z0]; omega⟩
                · rcases X3i with ⟨p1, p2⟩ | ⟨p1, p2⟩
                  · rcases X2i with ⟨p3, p4⟩ | ⟨p3, p4⟩
                    · rw [p2, p4]
                      refine d5.2.imp id fun ⟨d, r1, r2⟩ => ⟨d, by omega, ?_⟩
                      rw [u1 (38 + d) 1 (by omega) (by omega) (by omega), u1 (38 + d) 2 (by omega) (by omega) (by omega)]
                      exact r2
                    · exact Or.inr ⟨n, by omega, Or.inl (by rw [z1]; omega)⟩
                  · exact Or.inr ⟨n, by omega, Or.inr (by rw [z2']; omega)⟩
            · have p := y1.2.1
              obtain ⟨hb1, hb2⟩ := hb.1 (by omega)
              subst hb2
              right
              have y1m : FT c2 g20 := by
                unfold FT
                rw [z2, z3]
                exact y1
              exact ⟨hb1, fl_end y1m S5 ft⟩
            · obtain ⟨hb1, hb2⟩ := hb.1 (by omega)
              subst hb2
              right
              have r19 : (mc 113 19).toInt = 0 := by rw [S5 113 19 (by omega)]; exact y1
              have r17 : (mc 113 17).toInt ≠ 3 := by rw [S5 113 17 (by omega)]; exact y2
              refine ⟨hb1, ?_⟩
              rw [tail_n r19 r17 ft]
              unfold FT
              rw [zg_un (r := 113) (k := 19) (by omega), zg_ue, zg_ue, S5 113 16 (by omega), z3]
              exact ⟨Int32.toInt_inj.mp (by rw [z2]; exact y3.trans (by decide)), by omega, y4⟩
          · subst t1
            rw [cond_false] at e
            obtain ⟨e1, e2⟩ := zb_r2 e
            subst e2
            have p : 0 < (m1d 113 19).toInt := by rw [← t2.1]; exact t2.2.1
            have q := t_119s p D119
            subst q
            exact Or.inr ⟨e1.symm, fl_end t2 (uT17.trans (S4 (by rw [uT17 113 19 (by omega)]; exact p))) ft⟩
        · subst s1'
          rw [cond_false] at e
          obtain ⟨e1, e2⟩ := zb_r2 e
          subst e2
          have p : 0 < (m1c 113 19).toInt := by rw [← s2.1]; exact s2.2.1
          have q := t_119s p C119
          subst q
          exact Or.inr ⟨e1.symm, fl_end s2 (uTc.trans (S2' (by rw [uTc 113 19 (by omega)]; exact p))) ft⟩
      · subst r1
        rw [cond_false] at e
        obtain ⟨e1, e2⟩ := zb_r2 e
        subst e2
        have p : 0 < (m1b 113 19).toInt := by rw [← r2.1]; exact r2.2.1
        have q := t_119s p B119
        subst q
        exact Or.inr ⟨e1.symm, fl_end r2 (uTb.trans (S1' (by rw [uTb 113 19 (by omega)]; exact p))) ft⟩
    · subst q1
      rw [cond_false] at e
      obtain ⟨e1, e2⟩ := zb_r2 e
      subst e2
      have p : 0 < (m1 113 19).toInt := by rw [← q2.1]; exact q2.2.1
      have q := t_119s p A119
      subst q
      exact Or.inr ⟨e1.symm, fl_end q2 (S0 p) ft⟩
  · have := zc_ltF hc
    exfalso
    omega
end DE
