/-! the text: a line -/
section LN
variable {c c1 c2 ma mb mc m5 m m' g : G} {b b2 : Bool} {k x1 x2 v : Int32}
theorem nf_tok (h : PT c ma) (f0 : d_119 ma = some mb) (hf : 0 < (mb 113 19).toInt) (e : d_42 c = some (b, c1)) : b = false ∧ FT c1 mb := by
  rcases h.tok e f0 with ⟨_, hT, _⟩ | q
  · have := hT.2.2.1
    exfalso
    omega
  · exact q
theorem nf_38 (h : PT c ma) (f0 : d_119 ma = some mb) (hf : 0 < (mb 113 19).toInt) (e : d_38 x1 x2 c = some (b, c1)) : b = false ∧ FT c1 mb := by
  unfold d_38 at e
  replace e := zb_bpair e
  obtain ⟨v1, g2, h1, e⟩ := e
  obtain ⟨q1, q2⟩ := nf_tok h f0 hf h1
  subst q1
  rw [cond_false] at e
  obtain ⟨e1, e2⟩ := zb_r2 e
  subst e2
  exact ⟨e1.symm, q2⟩
theorem nf_35 (h : PT c ma) (f0 : d_119 ma = some mb) (hf : 0 < (mb 113 19).toInt) (e : d_35 x1 c = some (b, c1)) : b = false ∧ FT c1 mb := by
  unfold d_35 at e
  replace e := zb_bpair e
  obtain ⟨v1, g2, h1, e⟩ := e
  obtain ⟨q1, q2⟩ := nf_38 h f0 hf h1
  subst q1
  rw [cond_false] at e
  obtain ⟨e1, e2⟩ := zb_r2 e
  subst e2
  exact ⟨e1.symm, q2⟩
theorem nf_36 (h : PT c ma) (f0 : d_119 ma = some mb) (hf : 0 < (mb 113 19).toInt) (e : d_36 c = some (b, c1)) : b = false ∧ FT c1 mb := by
  unfold d_36 at e
  replace e := zb_bpair e
  obtain ⟨v1, g2, h1, e⟩ := e
  obtain ⟨q1, q2⟩ := nf_38 h f0 hf h1
  subst q1
  rw [cond_false] at e
  obtain ⟨e1, e2⟩ := zb_r2 e
  subst e2
  exact ⟨e1.symm, q2⟩
theorem nf_34 (h : PT c ma) (hd : (c 30 2).toInt < 8) (f0 : d_119 ma = some mb) (hf : 0 < (mb 113 19).toInt) (e : d_34 c = some (b, c1)) : b = false ∧ FT c1 mb := by
  unfold d_34 at e
  have L8 := zl_8
  replace e := zb_if e
  rcases e with ⟨hc, e⟩ | ⟨hc, e⟩
  · replace e := zb_bind e
    obtain ⟨k2, hk2, e⟩ := e
    replace e := zb_let e
    obtain ⟨g3, h3, e⟩ := e
    replace e := zb_bpair e
    obtain ⟨v1, g2, h1, e⟩ := e
    obtain ⟨q1, q2⟩ := nf_38 (h.uc (fun r k hr => zg_fr h3 r k (by omega))) f0 hf h1
    subst q1
    rw [cond_false] at e
    obtain ⟨e1, e2⟩ := zb_r2 e
    subst e2
    exact ⟨e1.symm, q2⟩
  · have := zc_ltF hc
    exfalso
    omega
theorem nf_33 (h : PT c ma) (hd : (c 30 1).toInt < 4) (f0 : d_119 ma = some mb) (hf : 0 < (mb 113 19).toInt) (e : d_33 c = some (b, c1)) : b = false ∧ FT c1 mb := by
  unfold d_33 at e
  have L4 := zl_4
  replace e := zb_if e
  rcases e with ⟨hc, e⟩ | ⟨hc, e⟩
  · replace e := zb_bind e
    obtain ⟨k2, hk2, e⟩ := e
    replace e := zb_let e
    obtain ⟨g3, h3, e⟩ := e
    replace e := zb_bpair e
    obtain ⟨v1, g2, h1, e⟩ := e
    obtain ⟨q1, q2⟩ := nf_tok (h.uc (fun r k hr => zg_fr h3 r k (by omega))) f0 hf h1
    subst q1
    rw [cond_false] at e
    obtain ⟨e1, e2⟩ := zb_r2 e
    subst e2
    exact ⟨e1.symm, q2⟩
  · have := zc_ltF hc
    exfalso
    omega
/-- a FAULT at the NAME -/
theorem ft_at {n : Int32} (hn : 0 < n.toInt) (h9 : c 28 9 = m 113 16) (e : d_44 n (c 28 9) c = (b, c1)) (f : (m5 113 19).toInt = n.toInt ∧ m5 113 20 = m 113 16) : b = false ∧ FT c1 m5 := by
  rw [t_44] at e
  obtain ⟨e1, e2⟩ := zb_q2 e
  subst e2
  refine ⟨e1.symm, ?_⟩
  unfold FT
  rw [zg_un (r := 28) (k := 2) (by omega), zg_ue, zg_ue, f.2]
  exact ⟨(Int32.toInt_inj.mp f.1).symm, hn, h9⟩
/-- what the reference's body begins with -/
theorem ln_pre (hT : AT c m) (hD : DR c m) (hk0 : 0 ≤ k.toInt) (hk : k.toInt ≠ 0) (h1 : k.toInt = 1 → (m 113 6).toInt < 4) (h2 : k.toInt = 2 → (m 116 8).toInt < 8) (f : d_128_17 k m = some m5) : ∃ ma mb, PT c ma ∧ d_119 ma = some mb ∧ DR c ma ∧ ((0 < (mb 113 19).toInt ∧ m5 = mb) ∨ ((mb 113 19).toInt ≤ 0 ∧ ∃ mc, d_127 k mb = some mc ∧ zt_tail mc = some m5)) := by
  have h7 : m 113 7 = 0 ∨ m 113 7 = 1 := by
    rw [← hD.1.1.2.2.2.1]
    exact hD.1.2.2
  obtain ⟨ma, mb, a1, a2, a3, a4, a5⟩ := rl_body hk0 h1 h2 (fun q => absurd q hk) h7 f
  have a3 := a3 hk
  have aa : ∀ r j, ma r j = m r j := fun r j => by
    by_cases h : r = 113 ∧ j = 7
    · obtain ⟨rfl, rfl⟩ := h
      exact a3
    · exact a1 r j h
  exact ⟨ma, mb, hT.pt.um (fun r j _ => aa r j), a4, hD.cg (fun _ _ _ => rfl) (fun r j _ => aa r j), a5⟩
theorem ln_all (hT : AT c m) (hD : DR c m) (e : d_31 c = some (b, c1)) (f : d_128 m = some m5) : LnR c c1 b m5 := by
  have L0 := zl_0
  have L1 := zl_1
  have L2 := zl_2
  have L4 := zl_4
  have L5 := zl_5
  have L8 := zl_8
  have h17 := congrArg Int32.toInt hT.2.2.2.1
  have hs := congrArg Int32.toInt hT.2.2.2.2.1
  have hpp := congrArg Int32.toInt hT.2.2.2.2.2.1
  have hA := hT.1
  have ll := hA.2.2.1
  have h19 := hT.2.2.1
  have h9 := hT.2.2.2.2.1
  have i0 := hT.2.2.2.2.2.2.1
  have i1 := hT.2.2.2.2.2.2.2.1
  have i2 := hT.2.2.2.2.2.2.2.2.1
  have bw : ∀ {w : Nat} {v7 : Bool}, w < 9 → d_41 w c = some v7 → (v7 = true ↔ (c 28 8).toInt = 1 ∧ Wd c w) := fun hw h => t_41 hw i0 i1 i2 ll h
  have n6 := congrArg Int32.toInt hD.1.1.2.1
  have n8 := congrArg Int32.toInt hD.1.1.2.2.1
  have n7 := congrArg Int32.toInt hD.1.1.2.2.2.1
  -- what the reference finds
  have fm : ∃ k : Int32, d_128_17 k m = some m5 ∧ (((c 28 8).toInt ≠ 1 ∧ k.toInt = -4) ∨ ((c 28 8).toInt = 1 ∧ ((Wd c 0 ∧ k.toInt = 0) ∨ (¬ Wd c 0 ∧ Wd c 1 ∧ k.toInt = 1) ∨ (¬ Wd c 0 ∧ ¬ Wd c 1 ∧ Wd c 2 ∧ k.toInt = 2) ∨ (¬ Wd c 0 ∧ ¬ Wd c 1 ∧ ¬ Wd c 2 ∧ Wd c 3 ∧ k.toInt = 3) ∨ (¬ Wd c 0 ∧ ¬ Wd c 1 ∧ ¬ Wd c 2 ∧ ¬ Wd c 3 ∧ Wd c 4 ∧ k.toInt = 4) ∨ (¬ Wd c 0 ∧ ¬ Wd c 1 ∧ ¬ Wd c 2 ∧ ¬ Wd c 3 ∧ ¬ Wd c 4 ∧ Wd c 5 ∧ k.toInt = 5) ∨ (¬ Wd c 0 ∧ ¬ Wd c 1 ∧ ¬ Wd c 2 ∧ ¬ Wd c 3 ∧ ¬ Wd c 4 ∧ ¬ Wd c 5 ∧ k.toInt = -4)))) := by
    unfold d_128 at f
    replace f := zb_if f
    rcases f with ⟨hf, f⟩ | ⟨hf, f⟩
    · have := zc_neT hf
      exact ⟨-4, f, Or.inl ⟨by omega, by decide⟩⟩
    · have := zc_neF hf
      replace f := zb_bind f
      obtain ⟨v62, h62, f⟩ := f
      exact ⟨v62, f, Or.inr ⟨by omega, t_117 hA (by omega) (by omega) (by omega) hs hpp h62⟩⟩
  clear f
  obtain ⟨k, f, fm⟩ := fm
  unfold d_31 at e
  -- hours
  replace e := zb_bind e
  obtain ⟨v1, e1', e⟩ := e
  have b1 := bw (by omega) e1'
  replace e := zb_if e
  rcases e with ⟨hc, e⟩ | ⟨hc, e⟩
  · have r := b1.mp hc
    have hk : k.toInt = 0 := by
      rcases fm with ⟨q, _⟩ | ⟨_, ⟨_, q⟩ | ⟨q, _⟩ | ⟨q, _⟩ | ⟨q, _⟩ | ⟨q, _⟩ | ⟨q, _⟩ | ⟨q, _⟩⟩
      · exact absurd r.1 q
      · exact q
      all_goals exact absurd r.2 q
    replace e := zb_bpair e
    obtain ⟨v25, g26, h26, e⟩ := e
    obtain ⟨ea, eb⟩ := zb_r2 e
    subst ea
    subst eb
    unfold d_32 at h26
    replace h26 := zb_if h26
    rcases h26 with ⟨hc5, h26⟩ | ⟨hc5, h26⟩
    · have q5 := zc_eqT hc5
      replace h26 := zb_let h26
      obtain ⟨g2, hg2, h26⟩ := h26
      replace h26 := zb_bpair h26
      obtain ⟨v3, g4, h4, h26⟩ := h26
      obtain ⟨ma, mb, a1, a2, _, a4, a5⟩ := rl_body (by omega) (fun q => by omega) (fun q => by omega) (fun _ => by omega) (by rw [← hD.1.1.2.2.2.1]; exact hD.1.2.2) f
      have a2 := a2 hk
      have hP : PT g2 ma := (hT.pt.uc (fun r k hr => zg_fr hg2 r k (by omega))).um (fun r k hr => a1 r k (by omega))
      have g210 : g2 28 10 = c 28 10 := zg_fr hg2 28 10 (by omega)
      have hD2 : DR g2 ma := by
        have u : ∀ r k, ¬ (r = 28 ∧ k = 5) → g2 r k = c r k := fun r k hn => zg_fr hg2 r k hn
        have u5 : g2 28 5 = 1 := by rw [← hg2]; exact zg_ue
        obtain ⟨⟨⟨x1, x2, x3, x4, x5, x6, x7⟩, x8, x9⟩, d2, d3, d4, d5, d6⟩ := hD
        refine ⟨⟨⟨?_, ?_, ?_, by rw [u5, a2], ?_, ?_, ?_⟩, ?_, Or.inr u5⟩, d2.cg (by omega) (fun r k hr => u r k (by omega)) (fun k hr => a1 116 k (by omega)), d3.cg (fun r k hr => u r k (by omega)) (fun d j _ _ => a1 116 _ (by omega)) (by rw [a1 113 10 (by omega)]; omega) (by rw [a1 113 11 (by omega)]; omega), d4.cg (fun r k hr => u r k (by omega)) (fun d j _ _ => a1 116 _ (by omega)), d5.cg (fun r k hr => u r k (by omega)) (a1 113 10 (by omega)) (a1 113 11 (by omega)), d6.cg (u 28 6 (by omega)) (u 28 7 (by omega)) (a1 113 12 (by omega))⟩
        · rw [u 30 0 (by omega), a1 113 5 (by omega)]; exact x1
        · rw [u 30 1 (by omega), a1 113 6 (by omega)]; exact x2
        · rw [u 30 2 (by omega), a1 116 8 (by omega)]; exact x3
        · rw [u 28 6 (by omega), a1 113 8 (by omega)]; exact x5
        · rw [u 28 7 (by omega), a1 113 9 (by omega)]; exact x6
        · rw [u 30 3 (by omega), a1 116 65 (by omega)]; exact x7
        · rw [u 30 0 (by omega), u 30 1 (by omega), u 30 2 (by omega), u 30 3 (by omega)]; exact x8
      have go : LnR g2 g26 v25 m5 := by
        rcases a5 with ⟨a5, a6⟩ | ⟨_, mc, a6, a7⟩
        · subst a6
          obtain ⟨q1, q2⟩ := nf_38 hP a4 a5 h4
          subst q1
          rw [cond_false] at h26
          obtain ⟨e1, e2⟩ := zb_r2 h26
          subst e2
          exact Or.inr ⟨e1.symm, q2⟩
        · refine ln_hours hP a4 hD2 h4 (fun q => ?_) (fun q => ?_) a6 (Int32.toInt_inj.mp (by omega)) a7
          · subst q
            rw [cond_true] at h26
            replace h26 := zb_let h26
            obtain ⟨g6, h6, h26⟩ := h26
            replace h26 := zb_bpair h26
            obtain ⟨v7, g8, h8, h26⟩ := h26
            obtain ⟨e1, e2⟩ := zb_r2 h26
            subst e1
            subst e2
            exact ⟨g6, h6, h8⟩
          · subst q
            rw [cond_false] at h26
            obtain ⟨e1, e2⟩ := zb_r2 h26
            exact ⟨e1.symm, e2.symm⟩
      unfold LnR at *
      rw [g210] at go
      exact go
    · have q5 := zc_eqF hc5
      replace h26 := zb_pair h26
      obtain ⟨v9, g10, h10, h26⟩ := h26
      obtain ⟨e1, e2⟩ := zb_r2 h26
      subst e1
      subst e2
      have r4 := rl_4 h19 hk (by omega) f
      exact Or.inr (ft_at (n := 4) (by decide) h9 h10 ⟨by rw [r4.1]; decide, r4.2⟩)
  · have nw0 := zd_no b1 hc
    -- one
    replace e := zb_bind e
    obtain ⟨v3, e3', e⟩ := e
    have b3 := bw (by omega) e3'
    replace e := zb_if e
    rcases e with ⟨hc, e⟩ | ⟨hc, e⟩
    · have r := b3.mp hc
      have hk : k.toInt = 1 := by
        rcases fm with ⟨q, _⟩ | ⟨_, ⟨q, _⟩ | ⟨_, _, q⟩ | ⟨_, q, _⟩ | ⟨_, q, _⟩ | ⟨_, q, _⟩ | ⟨_, q, _⟩ | ⟨_, q, _⟩⟩
        · exact absurd r.1 q
        · exact absurd ⟨r.1, q⟩ nw0
        · exact q
        all_goals exact absurd r.2 q
      have hk1 : k = 1 := Int32.toInt_inj.mp (by omega)
      replace e := zb_bpair e
      obtain ⟨v23, g24, h24, e⟩ := e
      obtain ⟨ea, eb⟩ := zb_r2 e
      subst ea
      subst eb
      by_cases hpe : (c 30 1).toInt < 4
      · obtain ⟨ma, mb, p1, p2, p3, p4⟩ := ln_pre hT hD (by omega) (by omega) (fun _ => by omega) (fun q => by omega) f
        rcases p4 with ⟨a5, a6⟩ | ⟨_, mc, a6, a7⟩
        · subst a6
          exact Or.inr (nf_33 p1 hpe p2 a5 h24)
        · rw [hk1] at a6
          exact ln_one p1 p2 p3 hpe h24 a6 a7
      · unfold d_33 at h24
        replace h24 := zb_if h24
        rcases h24 with ⟨hc5, _⟩ | ⟨_, h24⟩
        · have := zc_ltT hc5
          exfalso
          omega
        · replace h24 := zb_pair h24
          obtain ⟨v30, g31, h31, h24⟩ := h24
          obtain ⟨e1, e2⟩ := zb_r2 h24
          subst e1
          subst e2
          have r5 := rl_5 h19 (Or.inl ⟨hk, by omega⟩) f
          exact Or.inr (ft_at (n := 5) (by decide) h9 h31 ⟨by rw [r5.1]; decide, r5.2⟩)
    · have nw1 := zd_no b3 hc
      -- deed
      replace e := zb_bind e
      obtain ⟨v5, e5', e⟩ := e
      have b5 := bw (by omega) e5'
      replace e := zb_if e
      rcases e with ⟨hc, e⟩ | ⟨hc, e⟩
      · have r := b5.mp hc
        have hk : k.toInt = 2 := by
          rcases fm with ⟨q, _⟩ | ⟨_, ⟨q, _⟩ | ⟨_, q, _⟩ | ⟨_, _, _, q⟩ | ⟨_, _, q, _⟩ | ⟨_, _, q, _⟩ | ⟨_, _, q, _⟩ | ⟨_, _, q, _⟩⟩
          · exact absurd r.1 q
          · exact absurd ⟨r.1, q⟩ nw0
          · exact absurd ⟨r.1, q⟩ nw1
          · exact q
          all_goals exact absurd r.2 q
        have hk1 : k = 2 := Int32.toInt_inj.mp (by omega)
        replace e := zb_bpair e
        obtain ⟨v21, g22, h22, e⟩ := e
        obtain ⟨ea, eb⟩ := zb_r2 e
        subst ea
        subst eb
        by_cases hpe : (c 30 2).toInt < 8
        · obtain ⟨ma, mb, p1, p2, p3, p4⟩ := ln_pre hT hD (by omega) (by omega) (fun q => by omega) (fun _ => by omega) f
          rcases p4 with ⟨a5, a6⟩ | ⟨_, mc, a6, a7⟩
          · subst a6
            exact Or.inr (nf_34 p1 hpe p2 a5 h22)
          · rw [hk1] at a6
            exact ln_deed p1 p2 p3 hpe h22 a6 a7
        · unfold d_34 at h22
          replace h22 := zb_if h22
          rcases h22 with ⟨hc5, _⟩ | ⟨_, h22⟩
          · have := zc_ltT hc5
            exfalso
            omega
          · replace h22 := zb_pair h22
            obtain ⟨v24, g25, h25, h22⟩ := h22
            obtain ⟨e1, e2⟩ := zb_r2 h22
            subst e1
            subst e2
            have r5 := rl_5 h19 (Or.inr ⟨hk, by omega⟩) f
            exact Or.inr (ft_at (n := 5) (by decide) h9 h25 ⟨by rw [r5.1]; decide, r5.2⟩)
      · have nw2 := zd_no b5 hc
        -- must
        replace e := zb_bind e
        obtain ⟨v7, e7', e⟩ := e
        have b7 := bw (by omega) e7'
        replace e := zb_if e
        rcases e with ⟨hc, e⟩ | ⟨hc, e⟩
        · have r := b7.mp hc
          have hk : k.toInt = 3 := by
            rcases fm with ⟨q, _⟩ | ⟨_, ⟨q, _⟩ | ⟨_, q, _⟩ | ⟨_, _, q, _⟩ | ⟨_, _, _, _, q⟩ | ⟨_, _, _, q, _⟩ | ⟨_, _, _, q, _⟩ | ⟨_, _, _, q, _⟩⟩
            · exact absurd r.1 q
            · exact absurd ⟨r.1, q⟩ nw0
            · exact absurd ⟨r.1, q⟩ nw1
            · exact absurd ⟨r.1, q⟩ nw2
            · exact q
            all_goals exact absurd r.2 q
          have hk1 : k = 3 := Int32.toInt_inj.mp (hk.trans (by decide))
          replace e := zb_bpair e
          obtain ⟨v19, g20, h20, e⟩ := e
          obtain ⟨ea, eb⟩ := zb_r2 e
          subst ea
          subst eb
          obtain ⟨ma, mb, p1, p2, p3, p4⟩ := ln_pre hT hD (by omega) (by omega) (fun q => by omega) (fun q => by omega) f
          rcases p4 with ⟨a5, a6⟩ | ⟨_, mc, a6, a7⟩
          · subst a6
            exact Or.inr (nf_35 p1 p2 a5 h20)
          · exact ln_mark p1 p2 p3 (Or.inl ⟨rfl, hk1⟩) h20 a6 a7
        · have nw3 := zd_no b7 hc
          -- never
          replace e := zb_bind e
          obtain ⟨v9, e9', e⟩ := e
          have b9 := bw (by omega) e9'
          replace e := zb_if e
          rcases e with ⟨hc, e⟩ | ⟨hc, e⟩
          · have r := b9.mp hc
            have hk : k.toInt = 4 := by
              rcases fm with ⟨q, _⟩ | ⟨_, ⟨q, _⟩ | ⟨_, q, _⟩ | ⟨_, _, q, _⟩ | ⟨_, _, _, q, _⟩ | ⟨_, _, _, _, _, q⟩ | ⟨_, _, _, _, q, _⟩ | ⟨_, _, _, _, q, _⟩⟩
              · exact absurd r.1 q
              · exact absurd ⟨r.1, q⟩ nw0
              · exact absurd ⟨r.1, q⟩ nw1
              · exact absurd ⟨r.1, q⟩ nw2
              · exact absurd ⟨r.1, q⟩ nw3
              · exact q
              all_goals exact absurd r.2 q
            have hk1 : k = 4 := Int32.toInt_inj.mp (by omega)
            replace e := zb_bpair e
            obtain ⟨v19, g20, h20, e⟩ := e
            obtain ⟨ea, eb⟩ := zb_r2 e
            subst ea
            subst eb
            obtain ⟨ma, mb, p1, p2, p3, p4⟩ := ln_pre hT hD (by omega) (by omega) (fun q => by omega) (fun q => by omega) f
            rcases p4 with ⟨a5, a6⟩ | ⟨_, mc, a6, a7⟩
            · subst a6
              exact Or.inr (nf_35 p1 p2 a5 h20)
            · exact ln_mark p1 p2 p3 (Or.inr ⟨rfl, hk1⟩) h20 a6 a7
          · have nw4 := zd_no b9 hc
            -- odds
            replace e := zb_bind e
            obtain ⟨v11, e11', e⟩ := e
            have b11 := bw (by omega) e11'
            replace e := zb_if e
            rcases e with ⟨hc, e⟩ | ⟨hc, e⟩
            · have r := b11.mp hc
              have hk : k.toInt = 5 := by
                rcases fm with ⟨q, _⟩ | ⟨_, ⟨q, _⟩ | ⟨_, q, _⟩ | ⟨_, _, q, _⟩ | ⟨_, _, _, q, _⟩ | ⟨_, _, _, _, q, _⟩ | ⟨_, _, _, _, _, _, q⟩ | ⟨_, _, _, _, _, q, _⟩⟩
                · exact absurd r.1 q
                · exact absurd ⟨r.1, q⟩ nw0
                · exact absurd ⟨r.1, q⟩ nw1
                · exact absurd ⟨r.1, q⟩ nw2
                · exact absurd ⟨r.1, q⟩ nw3
                · exact absurd ⟨r.1, q⟩ nw4
                · exact q
                · exact absurd r.2 q
              have hk1 : k = 5 := Int32.toInt_inj.mp (by omega)
              replace e := zb_bpair e
              obtain ⟨v19, g20, h20, e⟩ := e
              obtain ⟨ea, eb⟩ := zb_r2 e
              subst ea
              subst eb
              obtain ⟨ma, mb, p1, p2, p3, p4⟩ := ln_pre hT hD (by omega) (by omega) (fun q => by omega) (fun q => by omega) f
              rcases p4 with ⟨a5, a6⟩ | ⟨_, mc, a6, a7⟩
              · subst a6
                exact Or.inr (nf_36 p1 p2 a5 h20)
              · rw [hk1] at a6
                exact ln_odds p1 p2 p3 h20 a6 a7
            · have nw5 := zd_no b11 hc
              replace e := zb_pair e
              obtain ⟨v13, g14, h14, e⟩ := e
              obtain ⟨ea, eb⟩ := zb_r2 e
              subst ea
              subst eb
              have hk : k.toInt = -4 := by
                rcases fm with ⟨_, q⟩ | ⟨w, ⟨q, _⟩ | ⟨_, q, _⟩ | ⟨_, _, q, _⟩ | ⟨_, _, _, q, _⟩ | ⟨_, _, _, _, q, _⟩ | ⟨_, _, _, _, _, q, _⟩ | ⟨_, _, _, _, _, _, q⟩⟩
                · exact q
                · exact absurd ⟨w, q⟩ nw0
                · exact absurd ⟨w, q⟩ nw1
                · exact absurd ⟨w, q⟩ nw2
                · exact absurd ⟨w, q⟩ nw3
                · exact absurd ⟨w, q⟩ nw4
                · exact absurd ⟨w, q⟩ nw5
                · exact q
              have r2 := rl_2 h19 hk f
              exact Or.inr (ft_at (n := 2) (by decide) h9 h14 ⟨by rw [r2.1]; decide, r2.2⟩)
end LN
