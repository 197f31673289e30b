/-! ways() answers alike -/
theorem RCb.up1 {b p : Nat} {c m : G} {v : Int32} (h : RCb b c m) (hp : (p : Int) < (c b 1).toInt) (hv : 0 ≤ v.toInt ∧ v.toInt ≤ 2) : RCb b (zg_up c (b + 4 + p) 0 v) (zg_up m 114 p v) := by
  obtain ⟨h1, h2, w, r⟩ := h
  have wn := w.1
  unfold Wn at wn
  have uc : ∀ r k, ¬ (r = b + 4 + p ∧ k = 0) → zg_up c (b + 4 + p) 0 v r k = c r k := fun r k hn => zg_un hn
  have um : ∀ r k, ¬ (r = 114 ∧ k = p) → zg_up m 114 p v r k = m r k := fun r k hn => zg_un hn
  have ec : zg_up c (b + 4 + p) 0 v (b + 4 + p) 0 = v := zg_ue
  have em : zg_up m 114 p v 114 p = v := zg_ue
  generalize zg_up c (b + 4 + p) 0 v = c' at *
  generalize zg_up m 114 p v = m' at *
  refine ⟨?_, ?_, w.up1 (p := p) (by omega) (fun r k hr => uc r k (by omega)) ?_, r.up1 (p := p) (j := 0) w.1 (by omega) (by omega) (fun r k hr => uc r k (by omega)) (fun k hk => um 114 k (by omega)) ?_⟩
  · rw [uc b 0 (by omega), um 113 2 (by omega)]
    exact h1
  · rw [uc b 1 (by omega), um 113 3 (by omega)]
    exact h2
  · have := w.2.1 p hp
    unfold Wone at *
    rw [ec, uc (b + 4 + p) 1 (by omega)]
    omega
  · rw [show 0 + 4 * 0 + p = p by omega, em]
    exact ec
theorem zi_div3 {x : Int32} (h : 0 ≤ x.toInt) : 0 ≤ (x / 3).toInt := by
  have r := zi_rng x
  have L3 : (3 : Int32).toInt = 3 := by decide
  rw [Int32.toInt_div, L3, Int.tdiv_eq_ediv_of_nonneg h, Int.bmod_def]
  omega
theorem l_177_f {x1 : Int32} {m : G} : ∀ (f : Nat) (x3 : Int32) (r : Bool), d_177_9 x1 m f false x3 = some r → r = false := by
  intro f
  induction f with
  | zero =>
    intro x3 r e
    rw [d_177_9.eq_1] at e
    cases e
  | succ f ih =>
    intro x3 r e
    rw [d_177_9.eq_2] at e
    replace e := zb_if e
    rcases e with ⟨_, e⟩ | ⟨_, e⟩
    · exact (zb_r1 e).symm
    · exact ih _ _ e
theorem l_101 {g m : G} {x2 : Int32} (hR : RCb 30 g m) : ∀ (f : Nat) (x3 : Int32) (k : Nat) (v w : Bool) (g1 : G), x3.toInt = k → d_101_25 30 x2 g f x3 = some (v, g1) → d_177_9 x2 m f true x3 = some w → v = w ∧ g1 = g := by
  intro n
  induction n with
  | zero =>
    intro x3 k v w g1 _ e
    rw [d_101_25.eq_1] at e
    cases e
  | succ n ih =>
    intro x3 k v w g1 hx e f
    rw [d_101_25.eq_2] at e
    rw [d_177_9.eq_2, ← hR.2.2.2.2.1] at f
    have nn := hR.nums
    have L0 := zl_0
    have L1 := zl_1
    have L2 := zl_2
    have L3 : (3 : Int32).toInt = 3 := by decide
    have L4 := zl_4
    have L66 : (66 : Int32).toInt = 66 := by decide
    rcases zb_if2 Iff.rfl e f with ⟨h1, _, e, f⟩ | ⟨h1, _, e, f⟩
    · obtain ⟨e1, e2⟩ := zb_r2 e
      exact ⟨e1.symm.trans (zb_r1 f), e2.symm⟩
    · have q := zc_geF h1
      have ya := zi_add (x := x3) (y := 1) (by omega) (by omega)
      have ym := zi_mul (x := 4) (y := x3) (n := 4) (by decide) (by omega) (by omega)
      have y0 := zi_add (x := 66) (y := 4 * x3) (by omega) (by omega)
      have y1 := zi_add (x := 66 + 4 * x3) (y := 1) (by omega) (by omega)
      have y2 := zi_add (x := 66 + 4 * x3) (y := 2) (by omega) (by omega)
      have y3 := zi_add (x := 66 + 4 * x3) (y := 3) (by omega) (by omega)
      replace e := zb_bind e
      obtain ⟨k4, h4, e⟩ := e
      have b4 := zm_ix_ko h4
      obtain rfl : k4 = k := by omega
      have ws := hR.2.2.1.2.2.2 k4 (by omega)
      unfold Wseen at ws
      have s0 := hR.seens (i := k4) (j := 0) (by omega) (by omega)
      have s1 := hR.seens (i := k4) (j := 1) (by omega) (by omega)
      have s2 := hR.seens (i := k4) (j := 2) (by omega) (by omega)
      have s3 := hR.seens (i := k4) (j := 3) (by omega) (by omega)
      have f : (Option.bind (zm_ix (66 + (4 * x3)) 294) fun k4 => Option.bind (zm_ix ((66 + (4 * x3)) + 2) 294) fun k5 => Option.bind (d_150 (m 114 k4) (m 114 k5) x2 m) fun v6 => Option.bind (zm_ix ((66 + (4 * x3)) + 1) 294) fun k7 => Option.bind (zm_ix ((66 + (4 * x3)) + 3) 294) fun k8 => bif zm_cmp .ne ((v6 >>> ((m 114 k7) &&& 31)) &&& 1) (m 114 k8) then (d_177_9 x2 m n false (x3 + 1)) else d_177_9 x2 m n true (x3 + 1)) = some w := f
      replace f := zb_bind f
      obtain ⟨i0, j0, f⟩ := f
      have c0 := zm_ix_ko j0
      obtain rfl : i0 = 66 + 4 * k4 + 0 := by omega
      replace f := zb_bind f
      obtain ⟨i2, j2, f⟩ := f
      have c2 := zm_ix_ko j2
      obtain rfl : i2 = 66 + 4 * k4 + 2 := by omega
      replace f := zb_bind f
      obtain ⟨w6, j6, f⟩ := f
      replace f := zb_bind f
      obtain ⟨i1, j1, f⟩ := f
      have c1 := zm_ix_ko j1
      obtain rfl : i1 = 66 + 4 * k4 + 1 := by omega
      replace f := zb_bind f
      obtain ⟨i3, j3, f⟩ := f
      have c3 := zm_ix_ko j3
      obtain rfl : i3 = 66 + 4 * k4 + 3 := by omega
      rw [← s0, ← s2] at j6
      rw [← s1, ← s3] at f
      replace e := zb_bind e
      obtain ⟨v5, h5, e⟩ := e
      have hq := has_eq (p := (g (30 + 16 + k4) 0).toInt.toNat) hR (by omega) (by omega) (by omega) h5 j6
      subst hq
      replace e := zb_let e
      obtain ⟨v6, h6, e⟩ := e
      obtain ⟨t, ht⟩ : ∃ t : Nat, (g (30 + 16 + k4) 1).toInt = t := ⟨(g (30 + 16 + k4) 1).toInt.toNat, by omega⟩
      have b6 := b_90n (x0 := v5) ht (by omega)
      rw [h6] at b6
      have zi : (zb_i v6).toInt = ((v5 >>> ((g (30 + 16 + k4) 1) &&& 31)) &&& 1).toInt := by
        rcases zbt (x := v5) ht (by omega) with z | z
        · rw [z.2, b6.mpr z.1]
          decide
        · rw [z.2]
          cases hv : v6 with
          | true => exact absurd (b6.mp hv) z.1
          | false => decide
      replace e := zb_if e
      replace f := zb_if f
      rcases e with ⟨hc, e⟩ | ⟨hc, e⟩
      · have r := zc_eqT hc
        rcases f with ⟨kc, f⟩ | ⟨kc, f⟩
        · have := zc_neT kc
          exfalso
          omega
        · exact ih (x3 + 1) (k4 + 1) v w g1 (by omega) e f
      · have r := zc_eqF hc
        rcases f with ⟨kc, f⟩ | ⟨kc, f⟩
        · obtain ⟨e1, e2⟩ := zb_r2 e
          rw [l_177_f _ _ _ f]
          exact ⟨e1.symm, e2.symm⟩
        · have := zc_neF kc
          exfalso
          omega
theorem t_101 {g g1 m : G} {v w : Bool} (hR : RCb 30 g m) (e : d_101 30 g = some (v, g1)) (f : d_177 m = some w) : v = w ∧ ∀ r j, r ≠ 25 → r ≠ 26 → r ≠ 27 → g1 r j = g r j := by
  unfold d_101 at e
  unfold d_177 at f
  replace e := zb_bind e
  obtain ⟨g3, h3, e⟩ := e
  obtain ⟨hL, hF⟩ := t_2 (Or.inr rfl) hR.2.2.1 h3
  replace e := zb_bind e
  obtain ⟨v4, h4, e⟩ := e
  replace f := zb_bind f
  obtain ⟨w4, k4, f⟩ := f
  have ge := great_eq hR hL h4 k4
  subst ge
  obtain ⟨r1, r2⟩ := l_101 (hR.cl (Or.inr rfl) hF) 300 0 0 v w g1 (by decide) e f
  rw [r2]
  exact ⟨r1, hF⟩
theorem l_178_178 {x1 x3 x4 x5 : Int32} : ∀ (f : Nat) (x6 v : Int32) (g g' : G), d_178_178 x1 x3 x4 x5 f x6 g = some (v, g') → v = (bif zm_cmp .ne x1 0 then (bif zm_cmp .ne x1 1 then x5 else x4) else x3) := by
  intro f
  induction f with
  | zero =>
    intro x6 v g g' e
    rw [d_178_178.eq_1] at e
    cases e
  | succ f ih =>
    intro x6 v g g' e
    rw [d_178_178.eq_2] at e
    replace e := zb_if e
    rcases e with ⟨_, e⟩ | ⟨_, e⟩
    · cases h0 : zm_cmp .ne x1 0 with
      | true =>
        rw [h0] at e
        cases h1 : zm_cmp .ne x1 1 with
        | true =>
          rw [h1] at e
          exact (zb_r2 e).1.symm
        | false =>
          rw [h1] at e
          exact (zb_r2 e).1.symm
      | false =>
        rw [h0] at e
        exact (zb_r2 e).1.symm
    · replace e := zb_bind e
      obtain ⟨k8, h8, e⟩ := e
      replace e := zb_bind e
      obtain ⟨k10, h10, e⟩ := e
      replace e := zb_let e
      obtain ⟨g9, h9, e⟩ := e
      exact ih _ _ _ _ e
theorem l_84 {x1 x2 x3 x4 x5 x6 v : Int32} {k71 : Int32 → Int32 → Int32 → Int32 → G → Option (Int32 × G)} {m' : G} : ∀ (f : Nat) (y z : Int32) (k : Nat) (gg g8 mm : G), z.toInt = k → 0 ≤ y.toInt → RCb 30 gg mm → d_26_4 30 f y z gg = some g8 → d_178_84 x1 x2 x3 x4 x5 x6 k71 f y z mm = some (v, m') → ∃ mm8 f' y' z', RCb 30 g8 mm8 ∧ zm_cmp .ge z' (mm8 113 3) = true ∧ d_178_84 x1 x2 x3 x4 x5 x6 k71 (f' + 1) y' z' mm8 = some (v, m') := by
  intro n
  induction n with
  | zero =>
    intro y z k gg g8 mm _ _ _ e
    rw [d_26_4.eq_1] at e
    cases e
  | succ n ih =>
    intro y z k gg g8 mm hz hy hR e f
    have f0 := f
    rw [d_26_4.eq_2] at e
    rw [d_178_84.eq_2] at f
    rw [hR.2.1] at e
    have nn := hR.nums
    have L0 := zl_0
    have L1 := zl_1
    have L3 : (3 : Int32).toInt = 3 := by decide
    replace e := zb_if e
    replace f := zb_if f
    rcases e with ⟨hc, e⟩ | ⟨hc, e⟩
    · have e1 := zb_r1 e
      subst e1
      exact ⟨mm, n, y, z, hR, hc, f0⟩
    · have q := zc_geF hc
      rcases f with ⟨kc, f⟩ | ⟨kc, f⟩
      · rw [hc] at kc
        cases kc
      · have ya := zi_add (x := z) (y := 1) (by omega) (by omega)
        have y0 := zi_add (x := 0) (y := z) (by omega) (by omega)
        have yr := zi_rem (x := y) (y := 3) hy (by omega)
        replace e := zb_bind e
        obtain ⟨k2, h2, e⟩ := e
        have b2 := zm_ix_ko h2
        obtain rfl : k2 = k := by omega
        replace e := zb_let e
        obtain ⟨g3, h3, e⟩ := e
        replace f := zb_bind f
        obtain ⟨k20, h20, f⟩ := f
        have b20 := zm_ix_ko h20
        obtain rfl : k20 = k2 := by omega
        replace f := zb_let f
        obtain ⟨m19, h19, f⟩ := f
        have hU : RCb 30 g3 m19 := by
          rw [← h3, ← h19]
          exact hR.up1 (by omega) (by omega)
        exact ih (y / 3) (z + 1) (k20 + 1) g3 g8 m19 (by omega) (zi_div3 hy) hU e f
theorem l_81 {x1 s0 x6 : Int32} (h1 : 0 ≤ x1.toInt) (hs : (s0 = 0 ∧ x1.toInt < 10) ∨ (s0 = 1 ∧ 10 ≤ x1.toInt)) (h6 : x6.toInt ≤ 1000) : ∀ (f : Nat) (x3 x4 x5 x7 v v' : Int32) (gg g1 mm m' : G), 0 ≤ x7.toInt → (s0 = 1 → x1.toInt < 10 + (gg 30 1).toInt) → RCb 30 gg mm → d_81_73 x1 s0 x6 f x3 x4 x5 x7 gg = some (v, g1) → d_178_71 x1 x6 f x3 x4 x5 x7 mm = some (v', m') → v = v' := by
  intro n
  induction n with
  | zero =>
    intro x3 x4 x5 x7 v v' gg g1 mm m' _ _ _ e
    rw [d_81_73.eq_1] at e
    cases e
  | succ n ih =>
    intro x3 x4 x5 x7 v v' gg g1 mm m' h7 hp hR e f
    rw [d_81_73.eq_2] at e
    rw [d_178_71.eq_2] at f
    have L0 := zl_0
    have L1 := zl_1
    have L10 := zl_10
    have nn := hR.nums
    rcases zb_if2 Iff.rfl e f with ⟨_, _, e, f⟩ | ⟨hc, _, e, f⟩
    · rw [l_178_178 _ _ _ _ _ f]
      cases a0 : zm_cmp .ne x1 0 with
      | true =>
        rw [a0] at e
        cases a1 : zm_cmp .ne x1 1 with
        | true =>
          rw [a1] at e
          exact (zb_r2 e).1.symm
        | false =>
          rw [a1] at e
          exact (zb_r2 e).1.symm
      | false =>
        rw [a0] at e
        exact (zb_r2 e).1.symm
    · have q := zc_geF hc
      have ya := zi_add (x := x7) (y := 1) (by omega) (by omega)
      replace e := zb_bind e
      obtain ⟨g8, h8, e⟩ := e
      replace e := zb_bpair e
      obtain ⟨v9, g10, h9, e⟩ := e
      unfold d_26 at h8
      have F8 := f_26_4 30 300 x7 0 gg g8 h8
      obtain ⟨mm8, f', y', z', hR8, hz, f⟩ := l_84 300 x7 0 0 gg g8 mm (by decide) h7 hR h8 f
      rw [d_178_84.eq_2, hz] at f
      have f : (Option.bind (d_177 mm8) _) = some (v', m') := f
      replace f := zb_bind f
      obtain ⟨w12, k12, f⟩ := f
      obtain ⟨vw, hF⟩ := t_101 hR8 h9 k12
      subst vw
      have hR10 := hR8.cl (Or.inr rfl) hF
      have n8 : g8 30 1 = gg 30 1 := F8 30 1 (by omega)
      have n10 : g10 30 1 = gg 30 1 := (hF 30 1 (by omega) (by omega) (by omega)).trans n8
      have go : ∀ y3 y4 y5, d_81_73 x1 s0 x6 n y3 y4 y5 (x7 + 1) g10 = some (v, g1) → d_178_71 x1 x6 n y3 y4 y5 (x7 + 1) mm8 = some (v', m') → v = v' := fun y3 y4 y5 e f => ih y3 y4 y5 (x7 + 1) v v' g10 g1 mm8 m' (by omega) (by rw [n10]; exact hp) hR10 e f
      have hcond : zm_cmp .eq s0 0 = true ↔ zm_cmp .lt x1 10 = true := by
        rcases hs with ⟨rfl, hl⟩ | ⟨rfl, hl⟩
        · refine ⟨fun _ => ?_, fun _ => rfl⟩
          cases hz : zm_cmp .lt x1 10 with
          | true => rfl
          | false =>
            have := zc_ltF hz
            omega
        · refine ⟨fun w => absurd w (by decide), fun w => ?_⟩
          have := zc_ltT w
          omega
      have fin : ∀ y4, (bif zm_cmp .eq s0 0 then (d_81_73 x1 s0 x6 n (x3 + 1) y4 x5 (x7 + 1) g10) else Option.bind (zm_ix (x1 - 10) 4) fun k14 => d_81_73 x1 s0 x6 n (x3 + 1) y4 (x5 ||| ((1 : Int32) <<< ((g10 (34 + k14) 0) &&& 31))) (x7 + 1) g10) = some (v, g1) → (bif zm_cmp .lt x1 10 then (d_178_71 x1 x6 n (x3 + 1) y4 (x5 ||| 0) (x7 + 1) mm8) else Option.bind (zm_ix ((0 + x1) - 10) 294) fun k16 => d_178_71 x1 x6 n (x3 + 1) y4 (x5 ||| ((1 : Int32) <<< ((mm8 114 k16) &&& 31))) (x7 + 1) mm8) = some (v', m') → v = v' := by
        intro y4 e f
        rcases zb_if2 hcond e f with ⟨_, _, e, f⟩ | ⟨kc, _, e, f⟩
        · have or0 : x5 ||| 0 = x5 := by
            apply zbit_ext
            intro i _
            rw [zbit_or, zbit_0, Bool.or_false]
          rw [or0] at f
          exact go _ _ _ e f
        · have hs : s0 = 1 ∧ 10 ≤ x1.toInt := by
            rcases hs with ⟨rfl, hl⟩ | hs
            · exact absurd kc (by decide)
            · exact hs
          have hp := hp hs.1
          have y1 := zi_sub (x := x1) (y := 10) (by omega) (by omega)
          have z0 := zi_add (x := 0) (y := x1) (by omega) (by omega)
          have y2 := zi_sub (x := 0 + x1) (y := 10) (by omega) (by omega)
          replace e := zb_bind e
          obtain ⟨k14, h14, e⟩ := e
          have b14 := zm_ix_ko h14
          replace f := zb_bind f
          obtain ⟨k16, h16, f⟩ := f
          have b16 := zm_ix_ko h16
          obtain rfl : k16 = k14 := by omega
          have o : g10 (34 + k16) 0 = mm8 114 k16 := (hR10.ones (p := k16) (by rw [n10]; omega)).1
          rw [o] at e
          exact go _ _ _ e f
      rcases zb_if2 Iff.rfl e f with ⟨_, _, e, f⟩ | ⟨_, _, e, f⟩
      · rcases zb_if2 Iff.rfl e f with ⟨_, _, e, f⟩ | ⟨_, _, e, f⟩
        · exact fin _ e f
        · exact fin _ e f
      · exact go _ _ _ e f
theorem l_27 {x1 : Int32} {gg : G} : ∀ (f : Nat) (y z v4 v' : Int32) (k : Nat) (mm m' : G), z.toInt = k → gg 30 1 = mm 113 3 → (mm 113 3).toInt ≤ 4 → d_25_4 30 gg f y z = some v4 → d_178_27 x1 f y z mm = some (v', m') → ∃ mm', (∀ r j, r ≠ 118 → mm' r j = mm r j) ∧ d_178_71 x1 v4 300 0 (-4) 0 0 mm' = some (v', m') := by
  intro n
  induction n with
  | zero =>
    intro y z v4 v' k mm m' _ _ _ e
    rw [d_25_4.eq_1] at e
    cases e
  | succ n ih =>
    intro y z v4 v' k mm m' hz h1 h4 e f
    rw [d_25_4.eq_2, h1] at e
    rw [d_178_27.eq_2] at f
    have L1 := zl_1
    rcases zb_if2 Iff.rfl e f with ⟨_, _, e, f⟩ | ⟨hc, _, e, f⟩
    · have e1 := zb_r1 e
      subst e1
      exact ⟨mm, fun _ _ _ => rfl, f⟩
    · have q := zc_geF hc
      have ya := zi_add (x := z) (y := 1) (by omega) (by omega)
      replace f := zb_bind f
      obtain ⟨k21, h21, f⟩ := f
      replace f := zb_bind f
      obtain ⟨k23, h23, f⟩ := f
      replace f := zb_let f
      obtain ⟨g22, h22, f⟩ := f
      have u3 : g22 113 3 = mm 113 3 := zg_fr h22 113 3 (by omega)
      obtain ⟨mm', a1, a2⟩ := ih (y * 3) (z + 1) v4 v' (k + 1) g22 m' (by omega) (h1.trans u3.symm) (by rw [u3]; exact h4) e f
      exact ⟨mm', fun r j hr => (a1 r j hr).trans (zg_fr h22 r j (by omega)), a2⟩
theorem l_25 {gg : G} (h4 : (gg 30 1).toInt ≤ 4) : ∀ (f : Nat) (y z v4 : Int32) (k : Nat), z.toInt = k → 0 ≤ y.toInt → (k ≤ 4 → y.toInt ≤ 3 ^ k) → y.toInt ≤ 81 → d_25_4 30 gg f y z = some v4 → v4.toInt ≤ 1000 := by
  intro n
  induction n with
  | zero =>
    intro y z v4 k _ _ _ _ e
    rw [d_25_4.eq_1] at e
    cases e
  | succ n ih =>
    intro y z v4 k hz h0 h1 h2 e
    rw [d_25_4.eq_2] at e
    have L1 := zl_1
    have L3 : (3 : Int32).toInt = 3 := by decide
    replace e := zb_if e
    rcases e with ⟨_, e⟩ | ⟨hc, e⟩
    · have e1 := zb_r1 e
      subst e1
      omega
    · have q := zc_geF hc
      have ya := zi_add (x := z) (y := 1) (by omega) (by omega)
      have ym := zi_mulr (x := y) (y := 3) (n := 3) L3 (by omega) (by omega)
      have h1 := h1 (by omega)
      have hk : k = 0 ∨ k = 1 ∨ k = 2 ∨ k = 3 := by omega
      refine ih (y * 3) (z + 1) v4 (k + 1) (by omega) (by omega) (fun _ => ?_) ?_ e
      · rw [Int.pow_succ]
        omega
      · rcases hk with rfl | rfl | rfl | rfl
        · have : y.toInt ≤ 1 := h1
          omega
        · have : y.toInt ≤ 3 := h1
          omega
        · have : y.toInt ≤ 9 := h1
          omega
        · have : y.toInt ≤ 27 := h1
          omega
theorem a_81_25 {x1 s0 v v' : Int32} {g g1 m g2 : G} (hR : Rel g m) (h1 : 0 ≤ x1.toInt) (hs : (s0 = 0 ∧ x1.toInt < 10) ∨ (s0 = 1 ∧ 10 ≤ x1.toInt)) (hp : s0 = 1 → x1.toInt < 10 + (g 1 1).toInt) (e : (Option.bind (d_17 30 1 g) fun g3 => Option.bind (d_25 30 g3) fun v4 => d_81_73 x1 s0 v4 300 0 (-4) 0 0 g3) = some (v, g1)) (f : d_178_27 x1 300 1 0 m = some (v', g2)) : v = v' := by
  have nn := hR.rcb.nums
  replace e := zb_bind e
  obtain ⟨g3, h3, e⟩ := e
  obtain ⟨hc1, hc2⟩ := t_17 (r0 := 30) (r1 := 1) (by omega) h3
  have hT := hR.rcb.trial hc2
  replace e := zb_bind e
  obtain ⟨v4, h4, e⟩ := e
  unfold d_25 at h4
  have n1 : g3 30 1 = g 1 1 := hc2.1 1 (by omega)
  obtain ⟨mm', a1, a2⟩ := l_27 300 1 0 v4 v' 0 m g2 (by decide) hT.2.1 (by omega) h4 f
  have l6 := l_25 (by rw [n1]; omega) 300 1 0 v4 0 (by decide) (by decide) (fun _ => by decide) (by decide) h4
  exact l_81 h1 hs l6 300 0 (-4) 0 0 v v' g3 g1 mm' g2 (by decide) (by rw [n1]; exact hp) (hT.mo (fun r j hr => a1 r j (by omega))) e a2
theorem a_81 {x1 v v' : Int32} {g g1 m g2 : G} (_ : Inv g) (_ : Inv m) (hR : Rel g m) (e : d_81 x1 g = some (v, g1)) (f : d_178 x1 m = some (v', g2)) : v = v' := by
  unfold d_81 at e
  unfold d_178 at f
  have nn := hR.rcb.nums
  have L0 := zl_0
  have L1 := zl_1
  have L10 := zl_10
  have J0 : (0 : Int64).toInt = 0 := by decide
  have J1 : (1 : Int64).toInt = 1 := by decide
  have i := zin_a (x1 := x1) J0 J1
  have z := zi_s10 x1
  have b5 := b_131 (x1 := x1 - 10) (g := m) (by omega)
  have y10 := zi_add (x := 10) (y := g 1 1) (by omega) (by omega)
  -- the reference's two ways in
  have ref : (0 ≤ x1.toInt ∧ x1.toInt ≤ 1) ∨ (10 ≤ x1.toInt ∧ x1.toInt < 10 + (g 1 1).toInt) → d_178_27 x1 300 1 0 m = some (v', g2) := by
    intro h
    replace f := zb_let f
    obtain ⟨w1, k1, f⟩ := f
    rw [k1] at i
    replace f := zb_if f
    rcases f with ⟨kc, f⟩ | ⟨kc, f⟩
    · exact f
    · have i := zd_no i kc
      replace f := zb_let f
      obtain ⟨w2, k2, f⟩ := f
      rw [k2] at b5
      replace f := zb_if f
      rcases f with ⟨kc, f⟩ | ⟨kc, f⟩
      · exact f
      · have := zd_no b5 kc
        exfalso
        omega
  have no : ¬ ((0 ≤ x1.toInt ∧ x1.toInt ≤ 1) ∨ (10 ≤ x1.toInt ∧ x1.toInt < 10 + (g 1 1).toInt)) → v' = -1 := by
    intro h
    replace f := zb_let f
    obtain ⟨w1, k1, f⟩ := f
    rw [k1] at i
    replace f := zb_if f
    rcases f with ⟨kc, f⟩ | ⟨kc, f⟩
    · exact absurd (Or.inl (i.mp kc)) h
    · replace f := zb_let f
      obtain ⟨w2, k2, f⟩ := f
      rw [k2] at b5
      replace f := zb_if f
      rcases f with ⟨kc, f⟩ | ⟨kc, f⟩
      · have := b5.mp kc
        exfalso
        omega
      · exact (zb_r2 f).1.symm
  have cls : ∀ s0 : Int32, (s0 = 0 ∧ ¬ (10 ≤ x1.toInt ∧ x1.toInt < 10 + (g 1 1).toInt)) ∨ (s0 = 1 ∧ 10 ≤ x1.toInt ∧ x1.toInt < 10 + (g 1 1).toInt) → d_81_25 x1 s0 g = some (v, g1) → v = v' := by
    intro s0 hs e
    unfold d_81_25 at e
    replace e := zb_if e
    rcases e with ⟨hc, e⟩ | ⟨hc, e⟩
    · have q := zc_eqT hc
      exact a_81_25 hR (by omega) (hs.elim (fun w => Or.inl ⟨w.1, by omega⟩) (fun w => Or.inr ⟨w.1, w.2.1⟩)) (fun w => hs.elim (fun w2 => by rw [w2.1] at w; exact absurd w (by decide)) (fun w2 => w2.2.2)) e (ref (by omega))
    · have q := zc_eqF hc
      replace e := zb_if e
      rcases e with ⟨hc, e⟩ | ⟨hc, e⟩
      · have q := zc_eqT hc
        exact a_81_25 hR (by omega) (hs.elim (fun w => Or.inl ⟨w.1, by omega⟩) (fun w => Or.inr ⟨w.1, w.2.1⟩)) (fun w => hs.elim (fun w2 => by rw [w2.1] at w; exact absurd w (by decide)) (fun w2 => w2.2.2)) e (ref (by omega))
      · have q2 := zc_eqF hc
        replace e := zb_if e
        rcases e with ⟨hc, e⟩ | ⟨hc, e⟩
        · have q3 := zc_neT hc
          rcases hs with ⟨rfl, _⟩ | ⟨rfl, hs⟩
          · exact absurd rfl q3
          · exact a_81_25 hR (by omega) (Or.inr ⟨rfl, hs.1⟩) (fun _ => hs.2) e (ref (Or.inr hs))
        · have q3 := zc_neF hc
          rcases hs with ⟨rfl, hs⟩ | ⟨rfl, hs⟩
          · rw [no (fun w => w.elim (fun w => by omega) hs)]
            exact (zb_r2 e).1.symm
          · exact absurd q3 (by decide)
  replace e := zb_if e
  rcases e with ⟨hc, e⟩ | ⟨hc, e⟩
  · have q := zc_ltT hc
    exact cls 0 (Or.inl ⟨rfl, by omega⟩) e
  · have q := zc_ltF hc
    replace e := zb_if e
    rcases e with ⟨hc, e⟩ | ⟨hc, e⟩
    · have q := zc_geT hc
      exact cls 0 (Or.inl ⟨rfl, by omega⟩) e
    · have q2 := zc_geF hc
      exact cls 1 (Or.inr ⟨rfl, by omega, by omega⟩) e
