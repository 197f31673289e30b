/-! the text: odds -/
section OD
variable {c c1 c2 ma mb mc m5 m m' : G} {b b2 : Bool} {k x1 x2 v : Int32}
theorem t_121f (h : 0 < (m 113 19).toInt) (f : d_121 x1 x2 m = some (v, m')) : v = 0 ∧ m' = m := by
  obtain ⟨m1, h1, h2⟩ := t_121 f
  rcases t_120 h1 with ⟨_, r1, r2⟩ | ⟨r, _⟩ | ⟨r, _⟩ | ⟨r, _⟩
  · subst r2
    exact ⟨r1, t_119s h h2⟩
  · exfalso
    omega
  · exfalso
    omega
  · exfalso
    omega
theorem t_127o (f : d_127 5 m = some mc) : ∃ v28 g29 g30 v31 g32 kk, d_126 (m 113 9) m = some (v28, g29) ∧ zg_up g29 113 9 ((g29 113 9) ||| ((1 : Int32) <<< (v28 &&& 31))) = g30 ∧ d_121 0 10 g30 = some (v31, g32) ∧ zm_ix ((9 + (7 * v28)) + 6) 98 = some kk ∧ zg_up g32 116 kk v31 = mc := by
  unfold d_127 at f
  replace f := zb_if f
  rcases f with ⟨hf, f⟩ | ⟨_, f⟩
  · exact absurd hf (by decide)
  · replace f := zb_if f
    rcases f with ⟨hf, f⟩ | ⟨_, f⟩
    · exact absurd hf (by decide)
    · replace f := zb_if f
      rcases f with ⟨hf, f⟩ | ⟨_, f⟩
      · exact absurd hf (by decide)
      · replace f := zb_if f
        rcases f with ⟨hf, f⟩ | ⟨_, f⟩
        · exact absurd hf (by decide)
        · replace f := zb_if f
          rcases f with ⟨hf, f⟩ | ⟨_, f⟩
          · exact absurd hf (by decide)
          · replace f := zb_if f
            rcases f with ⟨_, f⟩ | ⟨hf, f⟩
            · replace f := zb_bpair f
              obtain ⟨v28, g29, h29, f⟩ := f
              replace f := zb_let f
              obtain ⟨g30, h30, f⟩ := f
              replace f := zb_bpair f
              obtain ⟨v31, g32, h32, f⟩ := f
              replace f := zb_bind f
              obtain ⟨k34, h34, f⟩ := f
              replace f := zb_let f
              obtain ⟨g33, h33, f⟩ := f
              have e1 := zb_r1 f
              subst e1
              exact ⟨v28, g29, g30, v31, g32, k34, h29, h30, h32, h34, h33⟩
            · exact absurd hf (by decide)
theorem UT.trans {m m1 m2 : G} (h : UT m m1) (h2 : UT m1 m2) : UT m m2 := fun r k hr => (h2 r k hr).trans (h r k hr)
theorem ln_odds (hP : PT c ma) (f0 : d_119 ma = some mb) (hD : DR c ma) (e : d_36 c = some (b2, c2)) (f : d_127 5 mb = some mc) (ft : zt_tail mc = some m5) : LnR c c2 b2 m5 := by
  unfold d_36 at e
  have L0 := zl_0
  have L7 := zl_7
  have L9 := zl_9
  have L10 := zl_10
  obtain ⟨v, g29, g30, v31, g32, kk, f126, f30, f121, fix, fmc⟩ := t_127o f
  have uT30 : UT g29 g30 := fun r k hr => zg_fr f30 r k (by omega)
  have uTm : UT g32 mc := fun r k hr => zg_fr fmc r k (by omega)
  obtain ⟨g2, h120, hcase⟩ := t_126 f126
  -- behind a FAULT
  have stuck : ∀ {c3 : G}, FT c3 g29 → FT c3 m5 := by
    intro c3 h3
    have h30 := h3.ut uT30
    have p30 : 0 < (g30 113 19).toInt := by rw [← h30.1]; exact h30.2.1
    have e32 := (t_121f p30 f121).2
    subst e32
    exact fl_end h30 uTm ft
  replace e := zb_bpair e
  obtain ⟨v1, c1, h38, e⟩ := e
  obtain ⟨F1, hn⟩ := hP.num f0 h38 h120
  rcases hn with ⟨q1, q2, q3, q4, q5, q6, q7⟩ | ⟨q1, q2⟩
  · subst q1
    subst q3
    rw [cond_true] at e
    have hD1 : DR c1 g2 := hD.tk F1 (f119u f0)
    have h79 : c1 28 7 = g2 113 9 := hD1.1.1.2.2.2.2.2.1
    replace e := zb_let e
    obtain ⟨v4, h4, e⟩ := e
    have b4 := b_90 (x0 := c1 28 7) (x1 := c1 28 11)
    rw [h4, ← q4, h79] at b4
    rcases hcase with ⟨r1, _⟩ | ⟨r1, r2, r3⟩ | ⟨r1, r2, ga, w, r3, r4, r5⟩
    · exact absurd q2.2.2.1 r1
    · -- told before
      have v4t := b4.mpr r2
      subst v4t
      rw [cond_true] at e
      replace e := zb_pair e
      obtain ⟨v14, g15, h15, e⟩ := e
      rw [t_44] at h15
      obtain ⟨e1, e2⟩ := zb_q2 h15
      obtain ⟨e3, e4⟩ := zb_r2 e
      subst e4
      refine Or.inr ⟨by rw [← e3, ← e1], stuck ?_⟩
      rw [r3, ← e2]
      exact FT.mk2 (by decide) q2.2.2.2.2.1
    · -- fresh
      have v4f : v4 = false := by
        cases hb : v4 with
        | false => rfl
        | true => exact absurd r2 (b4.mp hb)
      subst v4f
      rw [cond_false] at e
      obtain ⟨n, hn⟩ : ∃ n : Nat, v.toInt = n := ⟨v.toInt.toNat, by omega⟩
      have vn : v = Int32.ofNat n := zi_nat hn
      replace e := zb_let e
      obtain ⟨g6, h6, e⟩ := e
      replace e := zb_bind e
      obtain ⟨k7, h7, e⟩ := e
      have b7 := zm_ix_ko h7
      have g611 : g6 28 11 = v := by rw [zg_fr h6 28 11 (by omega), q4]
      rw [g611] at b7
      obtain rfl : k7 = n := by omega
      replace e := zb_bpair e
      obtain ⟨v8, g9, h38b, e⟩ := e
      obtain ⟨m1, h120b, h119b⟩ := t_121 f121
      have hP6 : PT g6 ga := (q2.pt.uc (fun r k hr => zg_fr h6 r k (by omega))).um (fun r k hr => zg_fr r3 r k (by omega))
      obtain ⟨F9, hn9⟩ := hP6.num2 r5 uT30 h38b h120b
      have c610 : g6 28 10 = c1 28 10 := zg_fr h6 28 10 (by omega)
      rcases hn9 with ⟨p1, p2, p3, p4, p5, p6, p7⟩ | ⟨p1, p2⟩
      · subst p1
        subst p3
        rw [cond_true] at e
        replace e := zb_let e
        obtain ⟨g11, h11, e⟩ := e
        replace e := zb_bpair e
        obtain ⟨v12, g13, h39, e⟩ := e
        obtain ⟨e1, e2⟩ := zb_r2 e
        subst e1
        subst e2
        have bk := zm_ix_ko fix
        have yi := zi_idx (x := v) (o := 6) (n := 6) hn (by omega) (by decide) (by omega)
        obtain rfl : kk = 9 + 7 * k7 + 6 := by omega
        have hP11 : PT g11 m1 := p2.pt.uc (fun r k hr => zg_fr h11 r k (by omega))
        obtain ⟨F2, hs⟩ := hP11.semi h119b uTm h39 ft
        have c1110 : g11 28 10 = g9 28 10 := zg_fr h11 28 10 (by omega)
        rcases hs with ⟨s1, s2, s3, s4⟩ | ⟨s1, s2⟩
        · refine Or.inl ⟨s1, ⟨mc, s2, s3, ?_⟩, by rw [c1110] at s4; rw [c610] at p7; omega⟩
          have u1 : ∀ r k, ¬ (r = 28 ∧ (k = 2 ∨ k = 3 ∨ (8 ≤ k ∧ k ≤ 11))) → ¬ (r = 28 ∧ k = 7) → ¬ (r = 38 + k7 ∧ k = 6) → g13 r k = c1 r k := fun r k h1 h2 h3 => (F2 r k h1).trans ((zg_fr h11 r k h3).trans ((F9 r k h1).trans (zg_fr h6 r k h2)))
          have u7 : g13 28 7 = c1 28 7 ||| ((1 : Int32) <<< (v &&& 31)) := by rw [F2 28 7 (by omega), zg_fr h11 28 7 (by omega), F9 28 7 (by omega), ← h6, zg_ue, q4]
          have um6 : g13 (38 + k7) 6 = v31 := by rw [F2 _ _ (by omega), ← h11, zg_ue, p4]
          have w1 : ∀ r k, ¬ (r = 113 ∧ 15 ≤ k ∧ k ≤ 20) → ¬ (r = 113 ∧ k = 12) → ¬ (r = 113 ∧ k = 9) → ¬ (r = 116 ∧ k = 9 + 7 * k7 + 6) → mc r k = g2 r k := fun r k h1 h2 h3 h4 => by rw [zg_fr fmc r k h4, f119u h119b r k h1, zg_fr f30 r k h3, f119u r5 r k h1, zg_fr r3 r k h2]
          have w9 : mc 113 9 = g2 113 9 ||| ((1 : Int32) <<< (v &&& 31)) := by rw [zg_fr fmc 113 9 (by omega), f119u h119b 113 9 (by omega), ← f30, zg_ue, f119u r5 113 9 (by omega), zg_fr r3 113 9 (by omega)]
          have w12 : mc 113 12 = w := by rw [zg_fr fmc 113 12 (by omega), f119u h119b 113 12 (by omega), zg_fr f30 113 12 (by omega), f119u r5 113 12 (by omega), ← r3, zg_ue]
          have wm6 : mc 116 (9 + 7 * k7 + 6) = v31 := by rw [← fmc]; exact zg_ue
          obtain ⟨⟨⟨a1, a2, a3, a4, a5, a6, a7⟩, a8, a9⟩, d2, d3, d4, d5, d6⟩ := hD1
          refine ⟨⟨⟨?_, ?_, ?_, ?_, ?_, by rw [u7, w9, a6], ?_⟩, ?_, ?_⟩, d2.cg (by omega) (fun r k hr => u1 r k (by omega) (by omega) (by omega)) (fun k hr => w1 116 k (by omega) (by omega) (by omega) (by omega)), d3.cg (fun r k hr => u1 r k (by omega) (by omega) (by omega)) (fun d j _ _ => w1 116 _ (by omega) (by omega) (by omega) (by omega)) (by rw [w1 113 10 (by omega) (by omega) (by omega) (by omega)]; omega) (by rw [w1 113 11 (by omega) (by omega) (by omega) (by omega)]; omega), ?_, d5.cg (fun r k hr => u1 r k (by omega) (by omega) (by omega)) (w1 113 10 (by omega) (by omega) (by omega) (by omega)) (w1 113 11 (by omega) (by omega) (by omega) (by omega)), d6.or (n := k7) (by omega) ?_ ?_⟩
          · rw [u1 30 0 (by omega) (by omega) (by omega), w1 113 5 (by omega) (by omega) (by omega) (by omega)]; exact a1
          · rw [u1 30 1 (by omega) (by omega) (by omega), w1 113 6 (by omega) (by omega) (by omega) (by omega)]; exact a2
          · rw [u1 30 2 (by omega) (by omega) (by omega), w1 116 8 (by omega) (by omega) (by omega) (by omega)]; exact a3
          · rw [u1 28 5 (by omega) (by omega) (by omega), w1 113 7 (by omega) (by omega) (by omega) (by omega)]; exact a4
          · rw [u1 28 6 (by omega) (by omega) (by omega), w1 113 8 (by omega) (by omega) (by omega) (by omega)]; exact a5
          · rw [u1 30 3 (by omega) (by omega) (by omega), w1 116 65 (by omega) (by omega) (by omega) (by omega)]; exact a7
          · rw [u1 30 0 (by omega) (by omega) (by omega), u1 30 1 (by omega) (by omega) (by omega), u1 30 2 (by omega) (by omega) (by omega), u1 30 3 (by omega) (by omega) (by omega)]
            exact a8
          · rw [u1 28 5 (by omega) (by omega) (by omega)]; exact a9
          · intro d hd
            have q := d4 d hd
            rw [u1 (38 + d) 5 (by omega) (by omega) (by omega), w1 116 (9 + 7 * d + 5) (by omega) (by omega) (by omega) (by omega)]
            by_cases hh : d = k7
            · subst hh
              rw [um6, wm6]
              exact ⟨q.1, q.2.1, q.2.2.1, rfl, by omega, by omega⟩
            · rw [u1 (38 + d) 6 (by omega) (by omega) (by omega), w1 116 (9 + 7 * d + 6) (by omega) (by omega) (by omega) (by omega)]
              exact q
          · rw [u7, u1 28 6 (by omega) (by omega) (by omega), vn]
            exact i32_or2 _ _ _
          · rw [w12]
            rcases r4 with ⟨r4, rfl⟩ | ⟨r4, rfl⟩
            · exact Or.inl ⟨by omega, rfl⟩
            · exact Or.inr ⟨by omega, by omega⟩
        · exact Or.inr ⟨s1, s2⟩
      · subst p1
        rw [cond_false] at e
        obtain ⟨e1, e2⟩ := zb_r2 e
        subst e2
        have g32e := t_119s (by rw [← p2.1]; exact p2.2.1) h119b
        subst g32e
        exact Or.inr ⟨e1.symm, fl_end p2 uTm ft⟩
  · subst q1
    rw [cond_false] at e
    obtain ⟨e1, e2⟩ := zb_r2 e
    subst e2
    have g19 : 0 < (g2 113 19).toInt := by rw [← q2.1]; exact q2.2.1
    rcases hcase with ⟨_, r2⟩ | ⟨r1, _⟩ | ⟨r1, _⟩
    · have ge := t_119s g19 r2
      subst ge
      exact Or.inr ⟨e1.symm, stuck q2⟩
    · exfalso
      omega
    · exfalso
      omega
end OD
