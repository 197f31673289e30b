/-! the text: one -/
section ON
variable {c c1 c2 ma mb mc m5 m m' g g3 : G} {b b2 : Bool} {k s0 x1 x2 v : Int32}
/-- what follows a ONE's WAY -/
def Q123 (s0 : Int32) (g3 mc : G) : Prop := ∃ g4 k6 g5 v7 g8 k10 g9, d_119 g3 = some g4 ∧ zm_ix (0 + (g4 113 6)) 98 = some k6 ∧ zg_up g4 116 k6 s0 = g5 ∧ d_122_2 300 0 g5 = some (v7, g8) ∧ zm_ix (4 + (g5 113 6)) 98 = some k10 ∧ zg_up g8 116 k10 v7 = g9 ∧ zg_up g9 113 6 ((g9 113 6) + 1) = mc
theorem t_123_24 (f : d_123_24 s0 g = some mc) : (s0.toInt = -4 ∧ Q123 s0 (d_113 0 2 g) mc) ∨ (s0.toInt ≠ -4 ∧ Q123 s0 g mc) := by
  unfold d_123_24 at f
  have Lm4 := zl_m4
  replace f := zb_if f
  rcases f with ⟨hf, f⟩ | ⟨hf, f⟩
  · have q := zc_eqT hf
    replace f := zb_let f
    obtain ⟨g3, h3, f⟩ := f
    replace f := zb_bind f
    obtain ⟨g4, h4, f⟩ := f
    replace f := zb_bind f
    obtain ⟨k6, h6, f⟩ := f
    replace f := zb_let f
    obtain ⟨g5, h5, f⟩ := f
    replace f := zb_bpair f
    obtain ⟨v7, g8, h8, f⟩ := f
    replace f := zb_bind f
    obtain ⟨k10, h10, f⟩ := f
    replace f := zb_let f
    obtain ⟨g9, h9, f⟩ := f
    replace f := zb_let f
    obtain ⟨g11, h11, f⟩ := f
    have e1 := zb_r1 f
    subst e1
    rw [h3]
    exact Or.inl ⟨by omega, g4, k6, g5, v7, g8, k10, g9, h4, h6, h5, h8, h10, h9, h11⟩
  · have q := zc_eqF hf
    replace f := zb_let f
    obtain ⟨g3, h3, f⟩ := f
    rw [t_113a (by decide)] at h3
    subst h3
    replace f := zb_bind f
    obtain ⟨g4, h4, f⟩ := f
    replace f := zb_bind f
    obtain ⟨k6, h6, f⟩ := f
    replace f := zb_let f
    obtain ⟨g5, h5, f⟩ := f
    replace f := zb_bpair f
    obtain ⟨v7, g8, h8, f⟩ := f
    replace f := zb_bind f
    obtain ⟨k10, h10, f⟩ := f
    replace f := zb_let f
    obtain ⟨g9, h9, f⟩ := f
    replace f := zb_let f
    obtain ⟨g11, h11, f⟩ := f
    have e1 := zb_r1 f
    subst e1
    exact Or.inr ⟨by omega, g4, k6, g5, v7, g8, k10, g9, h4, h6, h5, h8, h10, h9, h11⟩
theorem Q123.st (h : Q123 s0 g3 mc) (p : 0 < (g3 113 19).toInt) : UT g3 mc := by
  obtain ⟨g4, k6, g5, v7, g8, k10, g9, h4, h6, h5, h8, h10, h9, h11⟩ := h
  have e4 := t_119s p h4
  subst e4
  have u5 : g5 113 19 = g4 113 19 := zg_fr h5 113 19 (by omega)
  have e8 := t_122s (by rw [u5]; exact p) h8
  subst e8
  exact fun r k hr => by rw [zg_fr h11 r k (by omega), zg_fr h9 r k (by omega), zg_fr h5 r k (by omega)]
/-- the THINGS at his beginning, and the line's end -/
theorem ln_one2 {g5 g25 : G} {p : Nat} {w : Int32} (hAT : AT g5 mb) (hD1 : DR c1 mb) (hp : (c1 30 1).toInt = p) (h4 : p < 4) (u5 : ∀ r k, ¬ (r = 28 ∧ (k = 2 ∨ k = 3 ∨ (8 ≤ k ∧ k ≤ 11))) → ¬ (r = 30 ∧ k = 1) → g5 r k = c1 r k) (u51 : g5 30 1 = c1 30 1 + 1) (hg : zg_up g5 (34 + p) 0 w = g25) (hw : 0 ≤ w.toInt ∧ w.toInt ≤ 2) (f : Q123 w mb mc) {v26 : Int32} {g27 g28 : G} (e : d_37 g25 = some (v26, g27)) (hg28 : zg_up g27 (34 + p) 1 v26 = g28) (hb : ((g28 28 2).toInt ≠ 0 → b2 = false) ∧ ((g28 28 2).toInt = 0 → b2 = true)) (ft : zt_tail mc = some m5) (hle : (c 28 10).toInt ≤ (g5 28 10).toInt) : LnR c g28 b2 m5 := by
  obtain ⟨g4, k6, g14, v7, g8, k10, g9, f4, f6, f14, f8, f10, f9, f11⟩ := f
  have L0 := zl_0
  have L1 := zl_1
  have L4 := zl_4
  have n6 : mb 113 6 = c1 30 1 := hD1.1.1.2.1.symm
  have n6i := congrArg Int32.toInt n6
  have M4 := f119u f4
  have n46 : g4 113 6 = mb 113 6 := M4 113 6 (by omega)
  have b6 := zm_ix_ko f6
  have y0 := zi_add (x := 0) (y := g4 113 6) (by rw [n46]; omega) (by rw [n46]; omega)
  rw [n46] at y0 b6
  obtain rfl : k6 = p := by omega
  have n146 : g14 113 6 = mb 113 6 := (zg_fr f14 113 6 (by omega)).trans n46
  have b10 := zm_ix_ko f10
  have y4 := zi_add (x := 4) (y := g14 113 6) (by rw [n146]; omega) (by rw [n146]; omega)
  rw [n146] at y4 b10
  obtain rfl : k10 = 4 + k6 := by omega
  have hPg : PT g25 mb := hAT.pt.uc (fun r k hr => zg_fr hg r k (by omega))
  have uT14 : UT g4 g14 := fun r k hr => zg_fr f14 r k (by omega)
  have uTm : UT g8 mc := fun r k hr => by rw [zg_fr f11 r k (by omega), zg_fr f9 r k (by omega)]
  obtain ⟨th, thp⟩ := tk_things 300 0 0 v26 v7 g25 g27 mb g4 g14 g8 hPg f4 uT14 (by decide) (by decide) e f8
  have F37 : UC g25 g27 := fun r k hn => f_37_4 300 0 0 g25 (v26, g27) e r k (by omega)
  have F122 : UM g14 g8 := fun r k hn => f_122_2 300 0 g14 (v7, g8) f8 r k (by omega)
  have z2 : g28 28 2 = g27 28 2 := zg_fr hg28 28 2 (by omega)
  have z3 : g28 28 3 = g27 28 3 := zg_fr hg28 28 3 (by omega)
  have z2i := congrArg Int32.toInt z2
  have g2510 : g25 28 10 = g5 28 10 := zg_fr hg 28 10 (by omega)
  rcases th with ⟨t1, t2, t3, t4, t5⟩ | t1 | ⟨t1, t2, t3, t4⟩
  · left
    have k0 := t1.2.1
    have adv := thp (Or.inl ⟨t1, t2, t3, t4, t5⟩) k0
    have t1m : AT g27 mc := t1.ut uTm
    have h17 := congrArg Int32.toInt t1m.2.2.2.1
    have ATg : AT g28 mc := t1m.uc (fun r k hr => zg_fr hg28 r k (by omega))
    have z10 : g28 28 10 = g27 28 10 := zg_fr hg28 28 10 (by omega)
    refine ⟨hb.2 (by omega), ⟨mc, ATg.pt, tail_3 t1m.2.2.1 (by omega) ft, ?_⟩, by rw [z10]; rw [g2510] at adv; omega⟩
    have u1 : ∀ r k, ¬ (r = 28 ∧ (k = 2 ∨ k = 3 ∨ (8 ≤ k ∧ k ≤ 11))) → ¬ (r = 30 ∧ k = 1) → ¬ (r = 34 + k6 ∧ k < 2) → g28 r k = c1 r k := fun r k h1 h2 h3 => by rw [zg_fr hg28 r k (by omega), F37 r k (by omega), zg_fr hg r k (by omega), u5 r k h1 h2]
    have x1' : g28 30 1 = c1 30 1 + 1 := by rw [zg_fr hg28 30 1 (by omega), F37 30 1 (by omega), zg_fr hg 30 1 (by omega), u51]
    have xw : g28 (34 + k6) 0 = w := by rw [zg_fr hg28 _ _ (by omega), F37 _ _ (by omega), ← hg, zg_ue]
    have xt : g28 (34 + k6) 1 = v26 := by rw [← hg28]; exact zg_ue
    have w1 : ∀ r k, ¬ (r = 113 ∧ 15 ≤ k ∧ k ≤ 20) → ¬ (r = 113 ∧ k = 6) → ¬ (r = 116 ∧ (k = k6 ∨ k = 4 + k6)) → mc r k = mb r k := fun r k h1 h2 h3 => by rw [zg_fr f11 r k h2, zg_fr f9 r k (by omega), F122 r k (by omega), zg_fr f14 r k (by omega), M4 r k h1]
    have y6 : mc 113 6 = mb 113 6 + 1 := by rw [← f11, zg_ue, zg_fr f9 113 6 (by omega), F122 113 6 (by omega), n146]
    have yw : mc 116 k6 = w := by rw [zg_fr f11 _ _ (by omega), zg_fr f9 _ _ (by omega), F122 _ _ (by omega), ← f14, zg_ue]
    have yt : mc 116 (4 + k6) = v7 := by rw [zg_fr f11 _ _ (by omega), ← f9, zg_ue]
    have ya := zi_add (x := c1 30 1) (y := 1) (by omega) (by omega)
    obtain ⟨⟨⟨a1, a2, a3, a4, a5, a6, a7⟩, a8, a9⟩, d2, d3, d4, d5, d6⟩ := hD1
    refine ⟨⟨⟨?_, by rw [x1', y6, a2], ?_, ?_, ?_, ?_, ?_⟩, ?_, ?_⟩, ?_, d3.cg (fun r k hr => u1 r k (by omega) (by omega) (by omega)) (fun d j _ _ => w1 116 _ (by omega) (by omega) (by omega)) (by rw [w1 113 10 (by omega) (by omega) (by omega)]; omega) (by rw [w1 113 11 (by omega) (by omega) (by omega)]; omega), d4.cg (fun r k hr => u1 r k (by omega) (by omega) (by omega)) (fun d j _ _ => w1 116 _ (by omega) (by omega) (by omega)), d5.cg (fun r k hr => u1 r k (by omega) (by omega) (by omega)) (w1 113 10 (by omega) (by omega) (by omega)) (w1 113 11 (by omega) (by omega) (by omega)), d6.cg (u1 28 6 (by omega) (by omega) (by omega)) (u1 28 7 (by omega) (by omega) (by omega)) (w1 113 12 (by omega) (by omega) (by omega))⟩
    · rw [u1 30 0 (by omega) (by omega) (by omega), w1 113 5 (by omega) (by omega) (by omega)]; exact a1
    · rw [u1 30 2 (by omega) (by omega) (by omega), w1 116 8 (by omega) (by omega) (by omega)]; exact a3
    · rw [u1 28 5 (by omega) (by omega) (by omega), w1 113 7 (by omega) (by omega) (by omega)]; exact a4
    · rw [u1 28 6 (by omega) (by omega) (by omega), w1 113 8 (by omega) (by omega) (by omega)]; exact a5
    · rw [u1 28 7 (by omega) (by omega) (by omega), w1 113 9 (by omega) (by omega) (by omega)]; exact a6
    · rw [u1 30 3 (by omega) (by omega) (by omega), w1 116 65 (by omega) (by omega) (by omega)]; exact a7
    · rw [u1 30 0 (by omega) (by omega) (by omega), x1', u1 30 2 (by omega) (by omega) (by omega), u1 30 3 (by omega) (by omega) (by omega)]
      omega
    · rw [u1 28 5 (by omega) (by omega) (by omega)]; exact a9
    · intro q hq
      rw [x1'] at hq
      by_cases hh : q = k6
      · subst hh
        rw [xw, xt, yw, yt]
        exact ⟨rfl, t3, hw.1, hw.2, t4, t5⟩
      · rw [u1 (34 + q) 0 (by omega) (by omega) (by omega), u1 (34 + q) 1 (by omega) (by omega) (by omega), w1 116 q (by omega) (by omega) (by omega), w1 116 (4 + q) (by omega) (by omega) (by omega)]
        exact d2 q (by omega)
  · right
    have p := t1.2.1
    have t1m : FT g28 g8 := by
      unfold FT
      rw [z2, z3]
      exact t1
    exact ⟨hb.1 (by omega), fl_end t1m uTm ft⟩
  · right
    have r19 : (mc 113 19).toInt = 0 := by rw [uTm 113 19 (by omega)]; exact t1
    have r17 : (mc 113 17).toInt ≠ 3 := by rw [uTm 113 17 (by omega)]; exact t2
    refine ⟨hb.1 (by omega), ?_⟩
    rw [tail_n r19 r17 ft]
    unfold FT
    rw [zg_un (r := 113) (k := 19) (by omega), zg_ue, zg_ue, uTm 113 16 (by omega), z3]
    exact ⟨Int32.toInt_inj.mp (by rw [z2]; exact t3.trans (by decide)), by omega, t4⟩
theorem ln_one (hP : PT c ma) (f0 : d_119 ma = some mb) (hD : DR c ma) (hpe : (c 30 1).toInt < 4) (e : d_33 c = some (b2, c2)) (f : d_127 1 mb = some mc) (ft : zt_tail mc = some m5) : LnR c c2 b2 m5 := by
  have L0 := zl_0
  have L1 := zl_1
  have L2 := zl_2
  have L4 := zl_4
  have f : d_123 mb = some mc := by
    unfold d_127 at f
    replace f := zb_if f
    rcases f with ⟨hf, f⟩ | ⟨_, f⟩
    · exact absurd hf (by decide)
    · replace f := zb_if f
      rcases f with ⟨_, f⟩ | ⟨hf, f⟩
      · replace f := zb_bind f
        obtain ⟨g6, h6, f⟩ := f
        rw [h6]
        exact f
      · exact absurd hf (by decide)
  unfold d_123 at f
  unfold d_33 at e
  have hb1 := hD.1.2.1
  replace e := zb_if e
  rcases e with ⟨hc, e⟩ | ⟨hc, e⟩
  · replace e := zb_bind e
    obtain ⟨p, hp, e⟩ := e
    have bp := zm_ix_ko hp
    replace e := zb_let e
    obtain ⟨g3, h3, e⟩ := e
    replace e := zb_bpair e
    obtain ⟨v4, g5, h5, e⟩ := e
    have hP3 : PT g3 ma := hP.uc (fun r k hr => zg_fr h3 r k (by omega))
    have F5 := f42u h5
    have g310 : g3 28 10 = c 28 10 := zg_fr h3 28 10 (by omega)
    have hD1 : DR c mb := hD.tk UC.refl (f119u f0)
    rcases hP3.tok h5 f0 with ⟨hb, hT, ha, _⟩ | ⟨hb, hF⟩
    · subst hb
      rw [cond_true] at e
      have k17 := congrArg Int32.toInt hT.2.2.2.1
      have hs := congrArg Int32.toInt hT.2.2.2.2.1
      have hpp := congrArg Int32.toInt hT.2.2.2.2.2.1
      have hA := hT.1
      have ll := hA.2.2.1
      obtain ⟨_, _, h19, _, _, _, i0, i1, i2, _⟩ := hT
      have hT : AT g5 mb := by
        rcases hP3.tok h5 f0 with ⟨_, w, _⟩ | ⟨w, _⟩
        · exact w
        · cases w
      have le5 : (c 28 10).toInt ≤ (g5 28 10).toInt := by rw [← g310]; omega
      have u5 : ∀ r k, ¬ (r = 28 ∧ (k = 2 ∨ k = 3 ∨ (8 ≤ k ∧ k ≤ 11))) → ¬ (r = 30 ∧ k = 1) → g5 r k = c r k := fun r k h1 h2 => (F5 r k h1).trans (zg_fr h3 r k h2)
      have u51 : g5 30 1 = c 30 1 + 1 := by rw [F5 30 1 (by omega), ← h3]; exact zg_ue
      -- the FAULT of no WAY
      have bad : Q123 (-4) (d_113 0 2 mb) mc → (∀ v13 g14, d_44 2 (g5 28 9) g5 = (v13, g14) → FT g14 m5) := by
        intro hq v13 g14 h14
        rw [t_44] at h14
        obtain ⟨_, e2⟩ := zb_q2 h14
        rw [t_113c (by decide) h19] at hq
        have u19 : zg_up (zg_up mb 113 19 2) 113 20 (mb 113 16) 113 19 = 2 := by rw [zg_un (by omega)]; exact zg_ue
        refine fl_end (m := zg_up (zg_up mb 113 19 2) 113 20 (mb 113 16)) ?_ (hq.st (by rw [u19]; decide)) ft
        rw [← e2]
        exact FT.mk2 (by decide) hT.2.2.2.2.1
      have b6 : ∀ {w : Nat} {v7 : Bool}, w < 9 → d_41 w g5 = some v7 → (v7 = true ↔ (g5 28 8).toInt = 1 ∧ Wd g5 w) := fun hw h => t_41 hw i0 i1 i2 ll h
      -- what the reference finds
      have fm : ((g5 28 8).toInt ≠ 1 ∧ Q123 (-4) (d_113 0 2 mb) mc) ∨ ((g5 28 8).toInt = 1 ∧ ((Wd g5 6 ∧ Q123 0 mb mc) ∨ (¬ Wd g5 6 ∧ Wd g5 7 ∧ Q123 1 mb mc) ∨ (¬ Wd g5 6 ∧ ¬ Wd g5 7 ∧ Wd g5 8 ∧ Q123 2 mb mc) ∨ (¬ Wd g5 6 ∧ ¬ Wd g5 7 ∧ ¬ Wd g5 8 ∧ Q123 (-4) (d_113 0 2 mb) mc))) := by
        have Lm4 := zl_m4
        replace f := zb_if f
        rcases f with ⟨hf, f⟩ | ⟨hf, f⟩
        · have := zc_neT hf
          exfalso
          omega
        · replace f := zb_if f
          rcases f with ⟨hf2, f⟩ | ⟨hf2, f⟩
          · have := zc_neT hf2
            rcases t_123_24 f with ⟨_, q⟩ | ⟨q, _⟩
            · exact Or.inl ⟨by omega, q⟩
            · exact absurd (by decide) q
          · have := zc_neF hf2
            replace f := zb_bind f
            obtain ⟨v22, h22, f⟩ := f
            right
            refine ⟨by omega, ?_⟩
            have tw := t_118 hA (by omega) (by omega) (by omega) hs hpp h22
            rcases t_123_24 f with ⟨q1, q⟩ | ⟨q1, q⟩
            · have v22e : v22 = -4 := Int32.toInt_inj.mp (by omega)
              rw [v22e] at q
              rcases tw with ⟨_, t⟩ | ⟨_, _, t⟩ | ⟨_, _, _, t⟩ | ⟨a, b, c', _⟩
              · exfalso
                omega
              · exfalso
                omega
              · exfalso
                omega
              · exact Or.inr (Or.inr (Or.inr ⟨a, b, c', q⟩))
            · rcases tw with ⟨a, t⟩ | ⟨a, b, t⟩ | ⟨a, b, c', t⟩ | ⟨_, _, _, t⟩
              · have v22e : v22 = 0 := Int32.toInt_inj.mp (by omega)
                rw [v22e] at q
                exact Or.inl ⟨a, q⟩
              · have v22e : v22 = 1 := Int32.toInt_inj.mp (by omega)
                rw [v22e] at q
                exact Or.inr (Or.inl ⟨a, b, q⟩)
              · have v22e : v22 = 2 := Int32.toInt_inj.mp (by omega)
                rw [v22e] at q
                exact Or.inr (Or.inr (Or.inl ⟨a, b, c', q⟩))
              · exfalso
                omega
      replace e := zb_bind e
      obtain ⟨v7, h7, e⟩ := e
      have b7 := b6 (by omega) h7
      replace e := zb_if e
      rcases e with ⟨hc, e⟩ | ⟨hc, e⟩
      · have r := b7.mp hc
        replace e := zb_let e
        obtain ⟨g25, h25, e⟩ := e
        replace e := zb_bpair e
        obtain ⟨v26, g27, h27, e⟩ := e
        replace e := zb_let e
        obtain ⟨g28, h28, e⟩ := e
        have q : Q123 0 mb mc := by
          rcases fm with ⟨q, _⟩ | ⟨_, ⟨_, q⟩ | ⟨q, _⟩ | ⟨q, _⟩ | ⟨q, _⟩⟩
          · exact absurd r.1 q
          · exact q
          · exact absurd r.2 q
          · exact absurd r.2 q
          · exact absurd r.2 q
        replace e := zb_if e
        rcases e with ⟨hc, e⟩ | ⟨hc, e⟩
        · have z := zc_neT hc
          obtain ⟨e1, e2⟩ := zb_r2 e
          subst e2
          exact ln_one2 hT hD1 (by omega) (by omega) u5 u51 h25 (by decide) q h27 h28 ⟨fun _ => e1.symm, fun w => by omega⟩ ft le5
        · have z := zc_neF hc
          obtain ⟨e1, e2⟩ := zb_r2 e
          subst e2
          exact ln_one2 hT hD1 (by omega) (by omega) u5 u51 h25 (by decide) q h27 h28 ⟨fun w => by omega, fun _ => e1.symm⟩ ft le5
      · have n7 := zd_no b7 hc
        replace e := zb_bind e
        obtain ⟨v9, h9, e⟩ := e
        have b9 := b6 (by omega) h9
        replace e := zb_if e
        rcases e with ⟨hc, e⟩ | ⟨hc, e⟩
        · have r := b9.mp hc
          replace e := zb_let e
          obtain ⟨g25, h25, e⟩ := e
          replace e := zb_bpair e
          obtain ⟨v26, g27, h27, e⟩ := e
          replace e := zb_let e
          obtain ⟨g28, h28, e⟩ := e
          have q : Q123 1 mb mc := by
            rcases fm with ⟨q, _⟩ | ⟨_, ⟨q, _⟩ | ⟨_, _, q⟩ | ⟨_, q, _⟩ | ⟨_, q, _⟩⟩
            · exact absurd r.1 q
            · exact absurd ⟨r.1, q⟩ n7
            · exact q
            · exact absurd r.2 q
            · exact absurd r.2 q
          replace e := zb_if e
          rcases e with ⟨hc, e⟩ | ⟨hc, e⟩
          · have z := zc_neT hc
            obtain ⟨e1, e2⟩ := zb_r2 e
            subst e2
            exact ln_one2 hT hD1 (by omega) (by omega) u5 u51 h25 (by decide) q h27 h28 ⟨fun _ => e1.symm, fun w => by omega⟩ ft le5
          · have z := zc_neF hc
            obtain ⟨e1, e2⟩ := zb_r2 e
            subst e2
            exact ln_one2 hT hD1 (by omega) (by omega) u5 u51 h25 (by decide) q h27 h28 ⟨fun w => by omega, fun _ => e1.symm⟩ ft le5
        · have n9 := zd_no b9 hc
          replace e := zb_bind e
          obtain ⟨v11, h11, e⟩ := e
          have b11 := b6 (by omega) h11
          replace e := zb_if e
          rcases e with ⟨hc, e⟩ | ⟨hc, e⟩
          · have r := b11.mp hc
            replace e := zb_let e
            obtain ⟨g25, h25, e⟩ := e
            replace e := zb_bpair e
            obtain ⟨v26, g27, h27, e⟩ := e
            replace e := zb_let e
            obtain ⟨g28, h28, e⟩ := e
            have q : Q123 2 mb mc := by
              rcases fm with ⟨q, _⟩ | ⟨_, ⟨q, _⟩ | ⟨_, q, _⟩ | ⟨_, _, _, q⟩ | ⟨_, _, q, _⟩⟩
              · exact absurd r.1 q
              · exact absurd ⟨r.1, q⟩ n7
              · exact absurd ⟨r.1, q⟩ n9
              · exact q
              · exact absurd r.2 q
            replace e := zb_if e
            rcases e with ⟨hc, e⟩ | ⟨hc, e⟩
            · have z := zc_neT hc
              obtain ⟨e1, e2⟩ := zb_r2 e
              subst e2
              exact ln_one2 hT hD1 (by omega) (by omega) u5 u51 h25 (by decide) q h27 h28 ⟨fun _ => e1.symm, fun w => by omega⟩ ft le5
            · have z := zc_neF hc
              obtain ⟨e1, e2⟩ := zb_r2 e
              subst e2
              exact ln_one2 hT hD1 (by omega) (by omega) u5 u51 h25 (by decide) q h27 h28 ⟨fun w => by omega, fun _ => e1.symm⟩ ft le5
          · have n11 := zd_no b11 hc
            replace e := zb_pair e
            obtain ⟨v13, g14, h14, e⟩ := e
            obtain ⟨e1, e2⟩ := zb_r2 e
            subst e2
            have v13f : v13 = false := by
              rw [t_44] at h14
              exact (zb_q2 h14).1.symm
            have q : Q123 (-4) (d_113 0 2 mb) mc := by
              rcases fm with ⟨_, q⟩ | ⟨w, ⟨q, _⟩ | ⟨_, q, _⟩ | ⟨_, _, q, _⟩ | ⟨_, _, _, q⟩⟩
              · exact q
              · exact absurd ⟨w, q⟩ n7
              · exact absurd ⟨w, q⟩ n9
              · exact absurd ⟨w, q⟩ n11
              · exact q
            exact Or.inr ⟨by rw [← e1, v13f], bad q v13 g14 h14⟩
    · subst hb
      rw [cond_false] at e
      obtain ⟨e1, e2⟩ := zb_r2 e
      subst e2
      have p19 : 0 < (mb 113 19).toInt := by rw [← hF.1]; exact hF.2.1
      have fm : Q123 (-4) mb mc := by
        replace f := zb_if f
        rcases f with ⟨hf, f⟩ | ⟨hf, f⟩
        · rcases t_123_24 f with ⟨_, q⟩ | ⟨_, q⟩
          · rw [t_113b (by omega)] at q
            exact q
          · exact q
        · have := zc_neF hf
          exfalso
          omega
      exact Or.inr ⟨e1.symm, fl_end hF (fm.st p19) ft⟩
  · have := zc_ltF hc
    exfalso
    omega
end ON
