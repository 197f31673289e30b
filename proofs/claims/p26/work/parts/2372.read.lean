/-! read(), on both sides -/
section RD2
variable {c m g g' m0 m1 : G} {x1 x2 x3 x4 x5 x6 x7 v v' : Int32}
theorem e_87_130 {r5 s i : Nat} (hs : i = 0 ∨ x3.toInt = s) (hw : x7.toInt = i) (h5 : 105 ≤ r5) (hb : ∀ j, j < i → s + 2 * j + 1 < 40 ∧ 0 ≤ (g (r5 + 1) (s + 2 * j)).toInt ∧ (g (r5 + 1) (s + 2 * j)).toInt < 8) (e : d_87_130 x3 r5 x6 x7 300 0 g = some (v, g')) : v = x7 ∧ g' = zg_up (mkn r5 s i g) 0 7 x6 := by
  by_cases h0 : i = 0
  · subst h0
    have L0 := zl_0
    rw [d_87_130.eq_2] at e
    replace e := zb_if e
    rcases e with ⟨_, e⟩ | ⟨hc, _⟩
    · replace e := zb_let e
      obtain ⟨g11, h11, e⟩ := e
      obtain ⟨e1, e2⟩ := zb_r2 e
      exact ⟨e1.symm, by rw [← e2, ← h11]; rfl⟩
    · have := zc_geF hc
      exfalso
      omega
  · exact l_87_130 (hs.resolve_left h0) hw h5 hb 300 0 0 g' (by decide) (by omega) e
/-- a FAULT ends the class's loop -/
theorem g_87_50 {r5 : Nat} {f : Nat} {x8 : Int32} (h : x6.toInt ≠ 0) (e : d_87_50 x3 x4 r5 g f x6 x7 x8 = some (v, g')) : d_87_130 x3 r5 x6 x7 300 0 g = some (v, g') := by
  cases f with
  | zero =>
    rw [d_87_50.eq_1] at e
    cases e
  | succ f =>
    rw [d_87_50.eq_2] at e
    have L0 := zl_0
    replace e := zb_if e
    rcases e with ⟨_, e⟩ | ⟨_, e⟩
    · exact e
    · replace e := zb_if e
      rcases e with ⟨_, e⟩ | ⟨hc, _⟩
      · exact e
      · have := zc_neF hc
        exfalso
        omega
theorem g_186_62 {f : Nat} (h : x5.toInt ≠ 0) (e : d_186_62 x1 x2 x3 x4 f x5 x6 x7 m = some (v, m1)) : v = x6 ∧ m1 = zg_up m 113 26 x5 := by
  cases f with
  | zero =>
    rw [d_186_62.eq_1] at e
    cases e
  | succ f =>
    rw [d_186_62.eq_2] at e
    have L0 := zl_0
    replace e := zb_if e
    rcases e with ⟨_, e⟩ | ⟨_, e⟩
    · replace e := zb_let e
      obtain ⟨g7, h7, e⟩ := e
      obtain ⟨e1, e2⟩ := zb_r2 e
      exact ⟨e1.symm, by rw [← e2, ← h7]⟩
    · replace e := zb_if e
      rcases e with ⟨_, e⟩ | ⟨hc, _⟩
      · replace e := zb_let e
        obtain ⟨g7, h7, e⟩ := e
        obtain ⟨e1, e2⟩ := zb_r2 e
        exact ⟨e1.symm, by rw [← e2, ← h7]⟩
      · have := zc_neF hc
        exfalso
        omega
theorem Rel.torn {a b : Int32} (h : Rel c m) : Rel (zg_up c 0 7 a) (zg_up m 113 26 b) := h.cg (fun r k hr => zg_un (by omega)) (fun r k hr => zg_un (by omega))
theorem rd_loop {k s : Nat} (hk : x1.toInt = k) (hk4 : k < 4) (hs : s = x3.toInt.toNat) (h4 : x4.toInt ≤ 20) (hR0 : Rel g m0) (hl : (m0 119 k).toInt ≠ -4 ∧ (m0 119 k).toInt = x2.toInt) (hL : g (105 + 2 * k) 0 = m0 120 k) (hLb : 0 ≤ (m0 120 k).toInt ∧ (m0 120 k).toInt ≤ 40) (hce : ∀ i, i < 40 → g (106 + 2 * k) i = m0 121 (40 * k + i)) (hsv : ∀ d, d < 8 → m0 122 d = m0 114 (9 + 7 * d + 5)) :
    ∀ (f : Nat) (x8 v v' : Int32) (i : Nat) (m g' m1 : G), x8.toInt = i → i ≤ 20 → (i = 0 ∨ x3.toInt = s) → (∀ j, j < i → s + 2 * j + 1 < 40 ∧ 0 ≤ (g (106 + 2 * k) (s + 2 * j)).toInt ∧ (g (106 + 2 * k) (s + 2 * j)).toInt < 8) → (∀ r j, ¬ (r = 114 ∧ ∃ d, d < 8 ∧ j = 9 + 7 * d + 5) → m r j = m0 r j) → Rel (mkn (105 + 2 * k) s i g) m → d_87_50 x3 x4 (105 + 2 * k) g f 0 x8 x8 = some (v, g') → d_186_62 x1 x2 x3 x4 f 0 x8 x8 m = some (v', m1) → v = v' ∧ Rel g' m1 := by
  intro f
  induction f with
  | zero =>
    intro x8 v v' i m g' m1 _ _ _ _ _ _ e _
    rw [d_87_50.eq_1] at e
    cases e
  | succ f ih =>
    intro x8 v v' i m g' m1 hx hi20 hs0 hb hK hR e f'
    rw [d_87_50.eq_2] at e
    rw [d_186_62.eq_2] at f'
    have L0 := zl_0
    have L1 := zl_1
    have L2 := zl_2
    have r3 := zi_rng x3
    have hLi := congrArg Int32.toInt hL
    have hb' : ∀ j, j < i → s + 2 * j + 1 < 40 ∧ 0 ≤ (g (105 + 2 * k + 1) (s + 2 * j)).toInt ∧ (g (105 + 2 * k + 1) (s + 2 * j)).toInt < 8 := by
      intro j hj
      rw [show 105 + 2 * k + 1 = 106 + 2 * k by omega]
      exact hb j hj
    have hsm : i = 0 ∨ x3.toInt ≤ 40 := by
      rcases hs0 with h | h
      · exact Or.inl h
      · by_cases h0 : i = 0
        · exact Or.inl h0
        · have := (hb (i - 1) (by omega)).1
          right
          omega
    replace e := zb_if e
    rcases e with ⟨hc, e⟩ | ⟨hc, e⟩
    · have q := zc_geT hc
      replace f' := zb_if f'
      rcases f' with ⟨_, f'⟩ | ⟨hf, _⟩
      · replace f' := zb_let f'
        obtain ⟨g7, h7, f'⟩ := f'
        obtain ⟨f1, f2⟩ := zb_r2 f'
        obtain ⟨e1, e2⟩ := e_87_130 hs0 hx (by omega) hb' e
        rw [e1, e2, ← f1, ← f2, ← h7]
        exact ⟨rfl, hR.torn⟩
      · have := zc_geF hf
        exfalso
        omega
    · have q := zc_geF hc
      replace f' := zb_if f'
      rcases f' with ⟨hf, _⟩ | ⟨_, f'⟩
      · have := zc_geT hf
        exfalso
        omega
      · replace e := zb_if e
        rcases e with ⟨hc, _⟩ | ⟨_, e⟩
        · exact absurd rfl (zc_neT hc)
        · replace f' := zb_if f'
          rcases f' with ⟨hf, _⟩ | ⟨_, f'⟩
          · exact absurd rfl (zc_neT hf)
          · have y1 := zi_mul (x := 2) (y := x8) (n := 2) (by decide) (by omega) (by omega)
            have y2 : (x3 + 2 * x8).toInt = x3.toInt + 2 * x8.toInt := by
              rw [zi_add (by omega) (by omega), y1]
            have y3 := zi_add (x := x8) (y := 1) (by omega) (by omega)
            have mK : ∀ r j, r ≠ 114 → m r j = m0 r j := fun r j hr => hK r j (fun w => hr w.1)
            have l119 := congrArg Int32.toInt (mK 119 k (by omega))
            have l120 := congrArg Int32.toInt (mK 120 k (by omega))
            replace e := zb_let e
            obtain ⟨v17, h17, e⟩ := e
            have t17 := t_50 (by omega) h17
            rw [y2] at t17
            rcases in_77 hk hk4 (by omega) (by omega) f' with ⟨a, _⟩ | ⟨_, a, _⟩ | ⟨_, _, a, f'⟩ | ⟨_, _, a, p, hp, f'⟩
            · exfalso
              omega
            · exfalso
              omega
            · -- INDEX
              rcases t17 with ⟨w1, w2, _⟩ | ⟨_, w⟩
              · exfalso
                omega
              · replace e := zb_if e
                rcases e with ⟨_, e⟩ | ⟨hc, _⟩
                · obtain ⟨e1, e2⟩ := e_87_130 hs0 hx (by omega) hb' (g_87_50 (by omega) e)
                  obtain ⟨f1, f2⟩ := g_186_62 (by decide) f'
                  rw [e1, e2, f1, f2]
                  exact ⟨rfl, hR.torn⟩
                · have := zc_neF hc
                  exfalso
                  omega
            · -- whole
              rcases t17 with ⟨_, _, w⟩ | ⟨w, _⟩
              · subst w
                replace e := zb_if e
                rcases e with ⟨hc, _⟩ | ⟨_, e⟩
                · exact absurd rfl (zc_neT hc)
                · have hxs : x3.toInt = s := by omega
                  obtain rfl : p = s + 2 * i := by omega
                  have y4 := zi_add (x := x3 + 2 * x8) (y := 1) (by omega) (by omega)
                  replace e := zb_bind e
                  obtain ⟨k19, h19, e⟩ := e
                  replace e := zb_bind e
                  obtain ⟨k20, h20, e⟩ := e
                  have b19 := zm_ix_ko h19
                  have b20 := zm_ix_ko h20
                  obtain rfl : k19 = s + 2 * i := by omega
                  obtain rfl : k20 = s + 2 * i + 1 := by omega
                  have ea : m 121 (40 * k + (s + 2 * i)) = g (106 + 2 * k) (s + 2 * i) := by rw [mK 121 _ (by omega)]; exact (hce _ (by omega)).symm
                  have eb : m 121 (40 * k + (s + 2 * i) + 1) = g (106 + 2 * k) (s + 2 * i + 1) := by rw [mK 121 _ (by omega), show 40 * k + (s + 2 * i) + 1 = 40 * k + (s + 2 * i + 1) by omega]; exact (hce _ (by omega)).symm
                  rw [ea, eb] at f'
                  rw [show 105 + 2 * k + 1 = 106 + 2 * k by omega] at e
                  have cf : ∀ r j, r < 9 ∨ j ≠ 5 ∨ 105 ≤ r → mkn (105 + 2 * k) s i g r j = g r j := fun r j hr => mkn_fr i r j hr (fun j hj => (hb' j hj).2) (by omega)
                  have nR := hR.nums
                  have c12 := congrArg Int32.toInt (cf 1 2 (by omega))
                  generalize hA : g (106 + 2 * k) (s + 2 * i) = A at *
                  generalize hB : g (106 + 2 * k) (s + 2 * i + 1) = B at *
                  replace e := zb_let e
                  obtain ⟨v21, h21, e⟩ := e
                  have b21 := b_22 (r0 := 1) (x1 := A) (x2 := B) (g := g)
                  rw [h21] at b21
                  replace f' := zb_bpair f'
                  obtain ⟨v14, g15, h14, f'⟩ := f'
                  unfold d_148 at h14
                  replace h14 := zb_let h14
                  obtain ⟨w1, hw1, h14⟩ := h14
                  have bw1 := b_132 (x1 := A) (g := m) (by omega)
                  rw [hw1] at bw1
                  -- not taken
                  have bad : v21 = false → (v14 = -1 ∧ g15 = m) → v = v' ∧ Rel g' m1 := by
                    intro hv hm
                    subst hv
                    rw [cond_false] at e
                    obtain ⟨e1, e2⟩ := zb_r2 e
                    subst e2
                    rw [hm.1, hm.2] at f'
                    replace f' := zb_if f'
                    rcases f' with ⟨hf, _⟩ | ⟨_, f'⟩
                    · exact absurd (zc_geT hf) (by decide)
                    · obtain ⟨f1, f2, f3⟩ := l_186_208 300 0 0 m m1 (by decide) (by omega) f'
                      refine ⟨by rw [← e1, f1], hR0.cg (fun _ _ _ => rfl) (fun r j hr => ?_)⟩
                      by_cases hh : r = 114 ∧ ∃ d, 0 ≤ d ∧ d < 8 ∧ j = 9 + 7 * d + 5
                      · obtain ⟨rfl, d, _, hd, rfl⟩ := hh
                        rw [f3 d (by omega) hd, mK 122 d (by omega)]
                        exact hsv d hd
                      · rw [f2 r j hh]
                        exact hK r j (fun ⟨w1, d, w2, w3⟩ => hh ⟨w1, d, by omega, w2, w3⟩)
                  replace h14 := zb_if h14
                  rcases h14 with ⟨hw, h14⟩ | ⟨hw, h14⟩
                  · have a1 := bw1.mp hw
                    replace h14 := zb_let h14
                    obtain ⟨w3, hw3, h14⟩ := h14
                    have bw3 := zin_a (x1 := B) (show (0 : Int64).toInt = 0 from by decide) (show (2 : Int64).toInt = 2 from by decide)
                    rw [hw3] at bw3
                    replace h14 := zb_if h14
                    rcases h14 with ⟨hw, h14⟩ | ⟨hw, h14⟩
                    · have a3 := bw3.mp hw
                      have v21t := b21.mpr (by omega)
                      subst v21t
                      rw [cond_true] at e
                      obtain ⟨n, hn⟩ : ∃ n : Nat, A.toInt = n := ⟨A.toInt.toNat, by omega⟩
                      have yi := zi_idx (x := A) (o := 5) (n := 5) hn (by omega) (by decide) (by omega)
                      replace h14 := zb_bpair h14
                      obtain ⟨v5, g6, h6, h14⟩ := h14
                      obtain ⟨z1, z2⟩ := t_142 (n := 9 + 7 * n + 5) yi h6
                      obtain ⟨z3, z4⟩ := zb_r2 h14
                      subst z3
                      subst z4
                      have hd := hR.deeds (d := n) (j := 5) (by omega) (by omega)
                      have hwd := hR.wdeed (d := n) (by omega)
                      have v5p : 0 ≤ v5.toInt := by rw [z1, ← hd]; omega
                      replace f' := zb_if f'
                      rcases f' with ⟨_, f'⟩ | ⟨hf, _⟩
                      · have hR' : Rel (mkn (105 + 2 * k) s (i + 1) g) g6 := by
                          show Rel (mk1 (105 + 2 * k) (s + 2 * i) (mkn (105 + 2 * k) s i g)) g6
                          unfold mk1
                          rw [show 105 + 2 * k + 1 = 106 + 2 * k by omega, cf _ _ (by omega), cf _ _ (by omega), hA, hB, show A.toInt.toNat = n by omega, z2]
                          exact hR.up2 (d := n) (j := 5) (by omega) (by omega) rfl (by omega)
                        refine ih (x8 + 1) v v' (i + 1) g6 g' m1 (by omega) (by omega) (Or.inr hxs) (fun j hj => ?_) (fun r j hr => ?_) hR' e f'
                        · by_cases hh : j = i
                          · subst hh
                            rw [hA]
                            omega
                          · exact hb j (by omega)
                        · rw [z2, zg_un (fun ⟨w1, w2⟩ => hr ⟨w1, n, by omega, w2⟩)]
                          exact hK r j hr
                      · have := zc_geF hf
                        exfalso
                        omega
                    · have a3 := zd_no bw3 hw
                      obtain ⟨z3, z4⟩ := zb_r2 h14
                      refine bad ?_ ⟨z3.symm, z4.symm⟩
                      cases hv : v21 with
                      | false => rfl
                      | true =>
                        have := b21.mp hv
                        exfalso
                        omega
                  · have a1 := zd_no bw1 hw
                    obtain ⟨z3, z4⟩ := zb_r2 h14
                    refine bad ?_ ⟨z3.symm, z4.symm⟩
                    cases hv : v21 with
                    | false => rfl
                    | true =>
                      have := b21.mp hv
                      exfalso
                      omega
              · exfalso
                omega
/-- where nothing is read, both answer 0 -/
theorem c_87_0 {r5 : Nat} (h5 : 105 ≤ r5) (h : x6.toInt ≠ 0 ∨ (g r5 0).toInt = -1) (e : d_87_50 x3 x4 r5 g 300 x6 0 0 = some (v, g')) : v = 0 ∧ ∃ a, g' = zg_up g 0 7 a := by
  have fin : ∀ {y6 : Int32}, d_87_130 x3 r5 y6 0 300 0 g = some (v, g') → v = 0 ∧ ∃ a, g' = zg_up g 0 7 a := fun e => by
    obtain ⟨e1, e2⟩ := e_87_130 (s := 0) (i := 0) (Or.inl rfl) (by decide) h5 (fun j hj => by omega) e
    exact ⟨e1, _, e2⟩
  by_cases h0 : x6.toInt = 0
  · have L0 := zl_0
    rw [d_87_50.eq_2] at e
    replace e := zb_if e
    rcases e with ⟨_, e⟩ | ⟨_, e⟩
    · exact fin e
    · replace e := zb_if e
      rcases e with ⟨_, e⟩ | ⟨_, e⟩
      · exact fin e
      · replace e := zb_let e
        obtain ⟨v17, h17, e⟩ := e
        have t := t_50n (h.resolve_left (by omega)) h17
        replace e := zb_if e
        rcases e with ⟨_, e⟩ | ⟨hc, _⟩
        · exact fin (g_87_50 (by omega) e)
        · have := zc_neF hc
          exfalso
          omega
  · exact fin (g_87_50 h0 e)
theorem m_186_0 {k : Nat} (hk : x1.toInt = k) (hk4 : k < 4) (h4 : 0 ≤ x4.toInt ∧ x4.toInt ≤ 20) (hL : 0 ≤ (m 120 k).toInt ∧ (m 120 k).toInt ≤ 40) (h : (m 119 k).toInt = -4 ∨ (m 119 k).toInt ≠ x2.toInt) (e : d_186_62 x1 x2 x3 x4 300 0 0 0 m = some (v, m1)) : v = 0 ∧ ∃ a, m1 = zg_up m 113 26 a := by
  have L0 := zl_0
  rw [d_186_62.eq_2] at e
  replace e := zb_if e
  rcases e with ⟨_, e⟩ | ⟨_, e⟩
  · replace e := zb_let e
    obtain ⟨g7, h7, e⟩ := e
    obtain ⟨e1, e2⟩ := zb_r2 e
    exact ⟨e1.symm, _, by rw [← e2, ← h7]⟩
  · replace e := zb_if e
    rcases e with ⟨hc, _⟩ | ⟨_, e⟩
    · exact absurd rfl (zc_neT hc)
    · rcases in_77 hk hk4 (by decide) hL e with ⟨_, f'⟩ | ⟨_, _, f'⟩ | ⟨a, b, _⟩ | ⟨a, b, _⟩
      · obtain ⟨f1, f2⟩ := g_186_62 (by decide) f'
        exact ⟨f1, _, f2⟩
      · obtain ⟨f1, f2⟩ := g_186_62 (by decide) f'
        exact ⟨f1, _, f2⟩
      · exfalso
        omega
      · exfalso
        omega
/-- EveningFirst.read -/
theorem r_87 {g1000 g1' : G} (hI : Inv g) (hM : Inv g1000) (hR : Rel g g1000) (e : d_87 x1 x2 x3 x4 g = some (v, g')) (f : d_186 x1 x2 x3 x4 g1000 = some (v', g1')) : v = v' ∧ Rel g' g1' := by
  unfold d_87 at e
  unfold d_186 at f
  have L0 := zl_0
  have L20 := zl_20
  have Lm1 := zl_m1
  replace e := zb_let e
  obtain ⟨v1, h1, e⟩ := e
  have b1 := b_93 (x0 := x1)
  rw [h1] at b1
  replace f := zb_let f
  obtain ⟨w1, hw1, f⟩ := f
  have bw1 := b_183 (x0 := x1) (x1 := x2)
  rw [hw1] at bw1
  -- BAD
  have mbad : ¬ ((0 ≤ x1.toInt ∧ x1.toInt ≤ 3) ∧ (0 ≤ x2.toInt ∧ x2.toInt ≤ 2) ∧ 0 ≤ x4.toInt ∧ x4.toInt ≤ 20) → v' = -1 ∧ g1' = g1000 := by
    intro hn
    replace f := zb_if f
    rcases f with ⟨hf, f⟩ | ⟨hf, f⟩
    · have q := bw1.mp hf
      replace f := zb_let f
      obtain ⟨w3, hw3, f⟩ := f
      have bw3 := zin_a (x1 := x4) (show (0 : Int64).toInt = 0 from by decide) (show (20 : Int64).toInt = 20 from by decide)
      rw [hw3] at bw3
      replace f := zb_if f
      rcases f with ⟨hf, f⟩ | ⟨hf, f⟩
      · have q2 := bw3.mp hf
        exfalso
        omega
      · obtain ⟨f1, f2⟩ := zb_r2 f
        exact ⟨f1.symm, f2.symm⟩
    · obtain ⟨f1, f2⟩ := zb_r2 f
      exact ⟨f1.symm, f2.symm⟩
  have cbad : ∀ {a : Int32} {gg : G}, some (a, gg) = some (v, g') → a = -1 → gg = g → ¬ ((0 ≤ x1.toInt ∧ x1.toInt ≤ 3) ∧ (0 ≤ x2.toInt ∧ x2.toInt ≤ 2) ∧ 0 ≤ x4.toInt ∧ x4.toInt ≤ 20) → v = v' ∧ Rel g' g1' := by
    intro a gg e ha hg hn
    obtain ⟨e1, e2⟩ := zb_r2 e
    obtain ⟨f1, f2⟩ := mbad hn
    rw [← e1, ← e2, ha, hg, f1, f2]
    exact ⟨rfl, hR⟩
  replace e := zb_if e
  rcases e with ⟨hc, e⟩ | ⟨hc, e⟩
  · have q := b1.mp hc
    exact cbad e rfl rfl (by omega)
  · have q1 := zd_no b1 hc
    replace e := zb_let e
    obtain ⟨v3, h3, e⟩ := e
    have b3 := b_94 (x0 := x2)
    rw [h3] at b3
    replace e := zb_if e
    rcases e with ⟨hc, e⟩ | ⟨hc, e⟩
    · have q := b3.mp hc
      exact cbad e rfl rfl (by omega)
    · have q3 := zd_no b3 hc
      replace e := zb_if e
      rcases e with ⟨hc, e⟩ | ⟨hc, e⟩
      · have q := zc_ltT hc
        exact cbad e rfl rfl (by omega)
      · have q4 := zc_ltF hc
        replace e := zb_if e
        rcases e with ⟨hc, e⟩ | ⟨hc, e⟩
        · have q5 := zc_leT hc
          -- the reference goes on, too
          have f2 : ∃ gs, d_186_62 x1 x2 x3 x4 300 0 0 0 gs = some (v', g1') ∧ (∀ r k, ¬ (r = 122 ∧ k < 8) → gs r k = g1000 r k) ∧ ∀ d, d < 8 → gs 122 d = g1000 114 (9 + 7 * d + 5) := by
            replace f := zb_if f
            rcases f with ⟨hf, f⟩ | ⟨hf, f⟩
            · replace f := zb_let f
              obtain ⟨w3, hw3, f⟩ := f
              have bw3 := zin_a (x1 := x4) (show (0 : Int64).toInt = 0 from by decide) (show (20 : Int64).toInt = 20 from by decide)
              rw [hw3] at bw3
              replace f := zb_if f
              rcases f with ⟨hf, f⟩ | ⟨hf, f⟩
              · obtain ⟨gs, i0, i1, i2⟩ := l_186_26 300 0 0 g1000 g1' (by decide) (by omega) f
                exact ⟨gs, i0, fun r k hr => i1 r k (by omega), fun d hd => i2 d (by omega) hd⟩
              · have := zd_no bw3 hf
                exfalso
                omega
            · have := zd_no bw1 hf
              exfalso
              omega
          obtain ⟨gs, f62, us, sv⟩ := f2
          replace e := zb_bind e
          obtain ⟨k7, h7, e⟩ := e
          have b7 := zm_ix_ko h7
          replace e := zb_let e
          obtain ⟨v8, h8, e⟩ := e
          have hRs : Rel g gs := hR.cg (fun _ _ _ => rfl) (fun r k hr => us r k (by omega))
          have yL : 0 ≤ (g1000 120 k7).toInt ∧ (g1000 120 k7).toInt ≤ 40 := Inv.rd (r := 120) (c := 9) hM k7 rfl
          have u0 := us 120 k7 (by omega)
          have u9 := us 119 k7 (by omega)
          have u0i := congrArg Int32.toInt u0
          have u9i := congrArg Int32.toInt u9
          -- both answer 0
          have zero : (v8.toInt ≠ 0 ∨ (g (105 + 2 * k7) 0).toInt = -1) → ((g1000 119 k7).toInt = -4 ∨ (g1000 119 k7).toInt ≠ x2.toInt) → v = v' ∧ Rel g' g1' := by
            intro z1 z2
            obtain ⟨e1, a, e2⟩ := c_87_0 (by omega) z1 e
            obtain ⟨f1, b, f2⟩ := m_186_0 b7.1.symm b7.2 ⟨by omega, by omega⟩ (by omega) (by omega) f62
            rw [e1, e2, f1, f2]
            exact ⟨rfl, hRs.torn⟩
          unfold d_48 at h8
          replace h8 := zb_let h8
          obtain ⟨v46, h46, h8⟩ := h8
          have b46 := b_46 (r0 := 105 + 2 * k7) (g := g)
          rw [h46] at b46
          rcases hRs.2.2.2.2 k7 b7.2 with ⟨s1, s2⟩ | ⟨s1, s2, s3, s4, s5, s6, s7⟩
          · exact zero (Or.inr s1) (Or.inl (by omega))
          · have s1i := congrArg Int32.toInt s1
            have s4i := congrArg Int32.toInt s4
            replace h8 := zb_if h8
            rcases h8 with ⟨hc8, _⟩ | ⟨_, h8⟩
            · have := b46.mp hc8
              exfalso
              omega
            · replace h8 := zb_if h8
              rcases h8 with ⟨hc8, h8⟩ | ⟨hc8, h8⟩
              · have q8 := zc_neT hc8
                refine zero (Or.inl (by rw [← h8]; decide)) (Or.inr ?_)
                omega
              · have q8 := zc_neF hc8
                subst h8
                exact rd_loop b7.1.symm b7.2 rfl q5 hRs ⟨by omega, by omega⟩ s1 (by omega) s7 (fun d hd => by rw [sv d hd, us 114 _ (by omega)]) 300 0 v v' 0 gs g' g1' (by decide) (by omega) (Or.inl rfl) (fun j hj => by omega) (fun _ _ _ => rfl) hRs e f62
        · have q5 := zc_leF hc
          exact cbad e rfl rfl (by omega)
end RD2
