/-! the text: must, never, odds -/
section MK
variable {c c1 c2 ma mb mc m5 m m' : G} {b b2 : Bool} {k x1 v : Int32}
theorem t_126 (f : d_126 x1 m = some (v, m')) : ∃ g2, d_120 0 7 m = (v, g2) ∧ (((g2 113 19).toInt ≠ 0 ∧ d_119 g2 = some m') ∨ ((g2 113 19).toInt = 0 ∧ ((x1 >>> (v &&& 31)) &&& 1).toInt ≠ 0 ∧ m' = zg_up (zg_up g2 113 19 4) 113 20 (g2 113 16)) ∨ ((g2 113 19).toInt = 0 ∧ ((x1 >>> (v &&& 31)) &&& 1).toInt = 0 ∧ ∃ ga w, zg_up g2 113 12 w = ga ∧ ((v.toInt ≤ (g2 113 12).toInt ∧ w = g2 113 12) ∨ ((g2 113 12).toInt < v.toInt ∧ w = v)) ∧ d_119 ga = some m')) := by
  unfold d_126 at f
  have L0 := zl_0
  replace f := zb_pair f
  obtain ⟨v1, g2, h2, f⟩ := f
  have fin : ∀ {a : Option G}, (Option.bind a fun g5 => some (v1, g5)) = some (v, m') → v1 = v ∧ a = some m' := by
    intro a h
    replace h := zb_bind h
    obtain ⟨g5, h5, h⟩ := h
    obtain ⟨e1, e2⟩ := zb_r2 h
    subst e2
    exact ⟨e1, h5⟩
  replace f := zb_if f
  rcases f with ⟨hf, f⟩ | ⟨hf, f⟩
  · have q := zc_neT hf
    rw [hf, cond_true] at f
    obtain ⟨e1, e2⟩ := fin f
    subst e1
    exact ⟨g2, h2, Or.inl ⟨by omega, e2⟩⟩
  · have q := zc_neF hf
    have z19 : (g2 113 19).toInt = 0 := by omega
    replace f := zb_if f
    rcases f with ⟨hf2, f⟩ | ⟨hf2, f⟩
    · have q2 := zc_neT hf2
      replace f := zb_let f
      obtain ⟨g12, h12, f⟩ := f
      rw [t_113c (by decide) z19] at h12
      have u19 : (g12 113 19).toInt = 4 := by rw [← h12, zg_un (by omega), zg_ue]; decide
      replace f := zb_if f
      rcases f with ⟨hf3, f⟩ | ⟨hf3, f⟩
      · obtain ⟨e1, e2⟩ := fin f
        subst e1
        refine ⟨g2, h2, Or.inr (Or.inl ⟨z19, by omega, ?_⟩)⟩
        rw [t_119s (by omega) e2, ← h12]
      · have := zc_neF hf3
        exfalso
        omega
    · have q2 := zc_neF hf2
      replace f := zb_let f
      obtain ⟨g20, h20, f⟩ := f
      rw [t_113a (by decide)] at h20
      subst h20
      rw [hf, cond_false] at f
      replace f := zb_if f
      rcases f with ⟨hf3, f⟩ | ⟨hf3, f⟩
      · have q3 := zc_leT hf3
        replace f := zb_let f
        obtain ⟨g24, h24, f⟩ := f
        obtain ⟨e1, e2⟩ := fin f
        subst e1
        exact ⟨_, h2, Or.inr (Or.inr ⟨z19, by omega, g24, _, h24, Or.inl ⟨q3, rfl⟩, e2⟩)⟩
      · have q3 := zc_leF hf3
        replace f := zb_let f
        obtain ⟨g26, h26, f⟩ := f
        obtain ⟨e1, e2⟩ := fin f
        subst e1
        exact ⟨_, h2, Or.inr (Or.inr ⟨z19, by omega, g26, _, h26, Or.inr ⟨q3, rfl⟩, e2⟩)⟩
theorem t_127m (hk : k = 3 ∨ k = 4) (f : d_127 k m = some mc) : ∃ v g11 kk x, d_126 (m 113 8) m = some (v, g11) ∧ zm_ix ((9 + (7 * v)) + 5) 98 = some kk ∧ zg_up (zg_up g11 113 8 ((g11 113 8) ||| ((1 : Int32) <<< (v &&& 31)))) 116 kk x = mc ∧ (k = 3 → x = 1) ∧ (k = 4 → x = 2) := by
  unfold d_127 at f
  rcases hk with rfl | rfl
  · replace f := zb_if f
    rcases f with ⟨hf, f⟩ | ⟨_, f⟩
    · exact absurd hf (by decide)
    · replace f := zb_if f
      rcases f with ⟨hf, f⟩ | ⟨_, f⟩
      · exact absurd hf (by decide)
      · replace f := zb_if f
        rcases f with ⟨hf, f⟩ | ⟨_, f⟩
        · exact absurd hf (by decide)
        · replace f := zb_if f
          rcases f with ⟨_, f⟩ | ⟨hf, f⟩
          · replace f := zb_bpair f
            obtain ⟨v10, g11, h11, f⟩ := f
            replace f := zb_let f
            obtain ⟨g12, h12, f⟩ := f
            replace f := zb_if f
            rcases f with ⟨hf, f⟩ | ⟨_, f⟩
            · exact absurd hf (by decide)
            · replace f := zb_bind f
              obtain ⟨k17, h17, f⟩ := f
              replace f := zb_let f
              obtain ⟨g16, h16, f⟩ := f
              have e1 := zb_r1 f
              subst e1
              subst h12
              exact ⟨v10, g11, k17, 1, h11, h17, h16, fun _ => rfl, fun q => absurd q (by decide)⟩
          · exact absurd hf (by decide)
  · replace f := zb_if f
    rcases f with ⟨hf, f⟩ | ⟨_, f⟩
    · exact absurd hf (by decide)
    · replace f := zb_if f
      rcases f with ⟨hf, f⟩ | ⟨_, f⟩
      · exact absurd hf (by decide)
      · replace f := zb_if f
        rcases f with ⟨hf, f⟩ | ⟨_, f⟩
        · exact absurd hf (by decide)
        · replace f := zb_if f
          rcases f with ⟨hf, f⟩ | ⟨_, f⟩
          · exact absurd hf (by decide)
          · replace f := zb_if f
            rcases f with ⟨_, f⟩ | ⟨hf, f⟩
            · replace f := zb_bpair f
              obtain ⟨v10, g11, h11, f⟩ := f
              replace f := zb_let f
              obtain ⟨g12, h12, f⟩ := f
              replace f := zb_if f
              rcases f with ⟨_, f⟩ | ⟨hf, f⟩
              · replace f := zb_bind f
                obtain ⟨k17, h17, f⟩ := f
                replace f := zb_let f
                obtain ⟨g16, h16, f⟩ := f
                have e1 := zb_r1 f
                subst e1
                subst h12
                exact ⟨v10, g11, k17, 2, h11, h17, h16, fun q => absurd q (by decide), fun _ => rfl⟩
              · exact absurd hf (by decide)
            · exact absurd hf (by decide)
theorem i32_or (x y z : Int32) : (x ||| z) ||| y = (x ||| y) ||| z := by
  apply zbit_ext
  intro i _
  rw [zbit_or, zbit_or, zbit_or, zbit_or]
  cases zbit x i <;> cases zbit y i <;> cases zbit z i <;> rfl
theorem i32_or2 (x y z : Int32) : x ||| (y ||| z) = (x ||| y) ||| z := by
  apply zbit_ext
  intro i _
  rw [zbit_or, zbit_or, zbit_or, zbit_or]
  cases zbit x i <;> cases zbit y i <;> cases zbit z i <;> rfl
/-- must, never -/
theorem ln_mark (hP : PT c ma) (f0 : d_119 ma = some mb) (hD : DR c ma) (hx : (x1 = 1 ∧ k = 3) ∨ (x1 = 2 ∧ k = 4)) (e : d_35 x1 c = some (b2, c2)) (f : d_127 k mb = some mc) (ft : zt_tail mc = some m5) : LnR c c2 b2 m5 := by
  unfold d_35 at e
  have L0 := zl_0
  have L5 := zl_5
  have L7 := zl_7
  have L9 := zl_9
  obtain ⟨v, g11, kk, xx, f126, fix, fmc, fx1, fx2⟩ := t_127m (hx.imp And.right And.right) f
  have xe : xx = x1 := by
    rcases hx with ⟨r1, r2⟩ | ⟨r1, r2⟩
    · rw [r1]
      exact fx1 r2
    · rw [r1]
      exact fx2 r2
  subst xe
  have xb : 0 ≤ xx.toInt ∧ xx.toInt ≤ 2 := by rcases hx with ⟨rfl, _⟩ | ⟨rfl, _⟩ <;> decide
  have uT : UT g11 mc := fun r k hr => by
    rw [← fmc, zg_un (by omega), zg_un (by omega)]
  obtain ⟨g2, h120, hcase⟩ := t_126 f126
  replace e := zb_bpair e
  obtain ⟨v1, c1, h38, e⟩ := e
  obtain ⟨F1, hn⟩ := hP.num f0 h38 h120
  rcases hn with ⟨q1, q2, q3, q4, q5, q6, q7⟩ | ⟨q1, q2⟩
  · subst q1
    subst q3
    rw [cond_true] at e
    have hD1 : DR c1 g2 := hD.tk F1 (f119u f0)
    have h68 : c1 28 6 = g2 113 8 := hD1.1.1.2.2.2.2.1
    replace e := zb_let e
    obtain ⟨v4, h4, e⟩ := e
    have b4 := b_90 (x0 := c1 28 6) (x1 := c1 28 11)
    rw [h4, ← q4, h68] at b4
    rcases hcase with ⟨r1, _⟩ | ⟨r1, r2, r3⟩ | ⟨r1, r2, ga, w, r3, r4, r5⟩
    · exact absurd q2.2.2.1 r1
    · -- told before
      have v4t := b4.mpr r2
      subst v4t
      rw [cond_true] at e
      replace e := zb_pair e
      obtain ⟨v11, g12, h12, e⟩ := e
      rw [t_44] at h12
      obtain ⟨e1, e2⟩ := zb_q2 h12
      obtain ⟨e3, e4⟩ := zb_r2 e
      subst e4
      refine Or.inr ⟨by rw [← e3, ← e1], fl_end (m := g11) ?_ uT ft⟩
      rw [r3, ← e2]
      exact FT.mk2 (by decide) q2.2.2.2.2.1
    · -- fresh
      have v4f : v4 = false := by
        cases hb : v4 with
        | false => rfl
        | true => exact absurd r2 (b4.mp hb)
      subst v4f
      rw [cond_false] at e
      obtain ⟨n, hn⟩ : ∃ n : Nat, v.toInt = n := ⟨v.toInt.toNat, by omega⟩
      have vn : v = Int32.ofNat n := zi_nat hn
      replace e := zb_let e
      obtain ⟨g6, h6, e⟩ := e
      replace e := zb_bind e
      obtain ⟨k7, h7, e⟩ := e
      have b7 := zm_ix_ko h7
      have g611 : g6 28 11 = v := by rw [zg_fr h6 28 11 (by omega), q4]
      rw [g611] at b7
      obtain rfl : k7 = n := by omega
      replace e := zb_let e
      obtain ⟨g8, h8, e⟩ := e
      replace e := zb_bpair e
      obtain ⟨v9, g10, h39, e⟩ := e
      obtain ⟨e1, e2⟩ := zb_r2 e
      subst e1
      subst e2
      have bk := zm_ix_ko fix
      have yi := zi_idx (x := v) (o := 5) (n := 5) hn (by omega) (by decide) (by omega)
      obtain rfl : kk = 9 + 7 * k7 + 5 := by omega
      have u8 : ∀ r k, ¬ (r = 28 ∧ k = 6) → ¬ (r = 38 + k7 ∧ k = 5) → g8 r k = c1 r k := fun r k h1 h2 => (zg_fr h8 r k h2).trans (zg_fr h6 r k h1)
      have hP3 : PT g8 ga := (q2.pt.uc (fun r k hr => u8 r k (by omega) (by omega))).um (fun r k hr => zg_fr r3 r k (by omega))
      obtain ⟨F2, hs⟩ := hP3.semi r5 uT h39 ft
      have c310 : g8 28 10 = c1 28 10 := u8 28 10 (by omega) (by omega)
      rcases hs with ⟨s1, s2, s3, s4⟩ | ⟨s1, s2⟩
      · refine Or.inl ⟨s1, ⟨mc, s2, s3, ?_⟩, by rw [c310] at s4; omega⟩
        have u1 : ∀ r k, ¬ (r = 28 ∧ (k = 2 ∨ k = 3 ∨ (8 ≤ k ∧ k ≤ 11))) → ¬ (r = 28 ∧ k = 6) → ¬ (r = 38 + k7 ∧ k = 5) → g10 r k = c1 r k := fun r k h1 h2 h3 => (F2 r k h1).trans (u8 r k h2 h3)
        have u6 : g10 28 6 = c1 28 6 ||| ((1 : Int32) <<< (v &&& 31)) := by rw [F2 28 6 (by omega), zg_fr h8 28 6 (by omega), ← h6, zg_ue, q4]
        have um5 : g10 (38 + k7) 5 = xx := by rw [F2 _ _ (by omega), ← h8]; exact zg_ue
        have w1 : ∀ r k, ¬ (r = 113 ∧ 15 ≤ k ∧ k ≤ 20) → ¬ (r = 113 ∧ k = 12) → ¬ (r = 113 ∧ k = 8) → ¬ (r = 116 ∧ k = 9 + 7 * k7 + 5) → mc r k = g2 r k := fun r k h1 h2 h3 h4 => by rw [← fmc, zg_un h4, zg_un h3, f119u r5 r k h1, zg_fr r3 r k h2]
        have w8 : mc 113 8 = g2 113 8 ||| ((1 : Int32) <<< (v &&& 31)) := by rw [← fmc, zg_un (by omega), zg_ue, f119u r5 113 8 (by omega), zg_fr r3 113 8 (by omega)]
        have w12 : mc 113 12 = w := by rw [← fmc, zg_un (by omega), zg_un (by omega), f119u r5 113 12 (by omega), ← r3, zg_ue]
        have wm5 : mc 116 (9 + 7 * k7 + 5) = xx := by rw [← fmc]; exact zg_ue
        obtain ⟨⟨⟨a1, a2, a3, a4, a5, a6, a7⟩, a8, a9⟩, d2, d3, d4, d5, d6⟩ := hD1
        refine ⟨⟨⟨?_, ?_, ?_, ?_, by rw [u6, w8, a5], ?_, ?_⟩, ?_, ?_⟩, d2.cg (by omega) (fun r k hr => u1 r k (by omega) (by omega) (by omega)) (fun k hr => w1 116 k (by omega) (by omega) (by omega) (by omega)), d3.cg (fun r k hr => u1 r k (by omega) (by omega) (by omega)) (fun d j _ _ => w1 116 _ (by omega) (by omega) (by omega) (by omega)) (by rw [w1 113 10 (by omega) (by omega) (by omega) (by omega)]; omega) (by rw [w1 113 11 (by omega) (by omega) (by omega) (by omega)]; omega), ?_, d5.cg (fun r k hr => u1 r k (by omega) (by omega) (by omega)) (w1 113 10 (by omega) (by omega) (by omega) (by omega)) (w1 113 11 (by omega) (by omega) (by omega) (by omega)), d6.or (n := k7) (by omega) ?_ ?_⟩
        · rw [u1 30 0 (by omega) (by omega) (by omega), w1 113 5 (by omega) (by omega) (by omega) (by omega)]; exact a1
        · rw [u1 30 1 (by omega) (by omega) (by omega), w1 113 6 (by omega) (by omega) (by omega) (by omega)]; exact a2
        · rw [u1 30 2 (by omega) (by omega) (by omega), w1 116 8 (by omega) (by omega) (by omega) (by omega)]; exact a3
        · rw [u1 28 5 (by omega) (by omega) (by omega), w1 113 7 (by omega) (by omega) (by omega) (by omega)]; exact a4
        · rw [u1 28 7 (by omega) (by omega) (by omega), w1 113 9 (by omega) (by omega) (by omega) (by omega)]; exact a6
        · rw [u1 30 3 (by omega) (by omega) (by omega), w1 116 65 (by omega) (by omega) (by omega) (by omega)]; exact a7
        · rw [u1 30 0 (by omega) (by omega) (by omega), u1 30 1 (by omega) (by omega) (by omega), u1 30 2 (by omega) (by omega) (by omega), u1 30 3 (by omega) (by omega) (by omega)]
          exact a8
        · rw [u1 28 5 (by omega) (by omega) (by omega)]; exact a9
        · intro d hd
          have q := d4 d hd
          rw [u1 (38 + d) 6 (by omega) (by omega) (by omega), w1 116 (9 + 7 * d + 6) (by omega) (by omega) (by omega) (by omega)]
          by_cases hh : d = k7
          · subst hh
            rw [um5, wm5]
            exact ⟨rfl, xb.1, xb.2, q.2.2.2⟩
          · rw [u1 (38 + d) 5 (by omega) (by omega) (by omega), w1 116 (9 + 7 * d + 5) (by omega) (by omega) (by omega) (by omega)]
            exact q
        · rw [u6, u1 28 7 (by omega) (by omega) (by omega), vn]
          exact i32_or _ _ _
        · rw [w12]
          rcases r4 with ⟨r4, rfl⟩ | ⟨r4, rfl⟩
          · exact Or.inl ⟨by omega, rfl⟩
          · exact Or.inr ⟨by omega, by omega⟩
      · exact Or.inr ⟨s1, s2⟩
  · subst q1
    rw [cond_false] at e
    obtain ⟨e1, e2⟩ := zb_r2 e
    subst e2
    have g19 : 0 < (g2 113 19).toInt := by rw [← q2.1]; exact q2.2.1
    rcases hcase with ⟨_, r2⟩ | ⟨r1, _⟩ | ⟨r1, _⟩
    · have ge := t_119s g19 r2
      subst ge
      exact Or.inr ⟨e1.symm, fl_end q2 uT ft⟩
    · exfalso
      omega
    · exfalso
      omega
end MK
