/-! reach(), better(), count() answer alike -/
theorem l_74 {c g m : G} {x1 x2 x3 x4 : Int32} {p t : Nat} (hR : RCb 1 c m) (hG : RCb 1 g m) (hL : Looked 1 c g) (hp : x1.toInt = p) (hl : (p : Int) < (g 1 1).toInt) (h2 : x2.toInt = t) (ht : t < 6) (hh : 0 ≤ x3.toInt ∧ x3.toInt < (g 1 0).toInt) : ∀ (f : Nat) (a5 a6 b5 b6 x7 v v' : Int32) (g1 : G), 0 ≤ x7.toInt → (a5 = -4 ∧ a6 = 9 ∧ b5 = -4 ∧ b6 = -4) ∨ (0 ≤ a5.toInt ∧ a6 = b5 ∧ a5 = b6 ∧ 0 ≤ a6.toInt ∧ a6.toInt ≤ 8) → d_74_42 x1 x2 x3 x4 g f a5 a6 x7 = some (v, g1) → d_168_47 x1 x2 x3 x4 m f b5 b6 x7 = some v' → v = v' := by
  have hall := all_eq hR hL
  have ai := all_int hR hL
  intro n
  induction n with
  | zero =>
    intro a5 a6 b5 b6 x7 v v' g1 _ _ e
    rw [d_74_42.eq_1] at e
    cases e
  | succ n ih =>
    intro a5 a6 b5 b6 x7 v v' g1 h0 hs e f
    rw [d_74_42.eq_2] at e
    rw [d_168_47.eq_2] at f
    have L1 := zl_1
    have L9 := zl_9
    have Lm4 : (-4 : Int32).toInt = -4 := by decide
    replace f := zb_let f
    obtain ⟨w4, k4, f⟩ := f
    rw [← hall] at k4
    subst k4
    rcases zb_if2 Iff.rfl e f with ⟨h1, _, e, f⟩ | ⟨h1, _, e, f⟩
    · rcases hs with ⟨rfl, rfl, rfl, rfl⟩ | ⟨q1, rfl, rfl, q2, q3⟩
      · have e : some ((-4), g) = some (v, g1) := e
        replace f := zb_if f
        rcases f with ⟨_, f⟩ | ⟨_, f⟩
        · exact (zb_r2 e).1.symm.trans (zb_r1 f)
        · exact (zb_r2 e).1.symm.trans (zb_r1 f)
      · replace e := zb_if e
        rcases e with ⟨_, e⟩ | ⟨hc, e⟩
        · rcases zb_if2 Iff.rfl e f with ⟨_, _, e, f⟩ | ⟨_, _, e, f⟩
          · exact (zb_r2 e).1.symm.trans (zb_r1 f)
          · exact (zb_r2 e).1.symm.trans (zb_r1 f)
        · have := zc_neF hc
          exfalso
          omega
    · have q := zc_gtF h1
      have yi := zi_add (x := x7) (y := 1) (by omega) (by omega)
      have hD := day_le hR hL h0 (show x7.toInt ≤ (g 25 0).toInt by omega)
      -- the count
      obtain ⟨cn, hcn⟩ : ∃ cn, d_164 x7 m = some cn := by
        have k := List.all_eq_true.mp cnt_k x7.toInt.toNat (List.mem_range.mpr (by omega))
        rw [Bool.and_eq_true] at k
        have k1 := of_decide_eq_true k.1
        rw [← zi_nat (n := x7.toInt.toNat) (x := x7) (by omega)] at k1
        exact ⟨_, (show d_164 x7 m = d_164 x7 (gh 0) from d_164_cg 300 0 0).trans k1⟩
      have cc := cnt_eq (show 0 ≤ x7.toInt ∧ x7.toInt ≤ 255 by omega) hcn
      replace e := zb_let e
      obtain ⟨v9, h9, e⟩ := e
      rw [cc.1] at h9
      subst h9
      replace f := zb_bind f
      obtain ⟨w12, k12, f⟩ := f
      have f102 : ∀ {y5 y6 : Int32}, d_168_102 x1 x2 x3 x4 y5 y6 x7 m (d_168_47 x1 x2 x3 x4 m n) = d_168_47 x1 x2 x3 x4 m n y5 y6 (x7 + 1) := rfl
      -- the reference goes on, where the DAY is not the better one
      have keep : (w12 = true → ∀ v14, d_150 x1 x3 x7 m = some v14 → zbit v14 t = true → b5.toInt ≠ -4 ∧ b5.toInt ≤ cn.toInt) → d_168_47 x1 x2 x3 x4 m n b5 b6 (x7 + 1) = some v' := by
        intro hk
        replace f := zb_if f
        rcases f with ⟨hc, f⟩ | ⟨hc, f⟩
        · replace f := zb_bind f
          obtain ⟨v14, k14, f⟩ := f
          replace f := zb_if f
          rcases f with ⟨kc, f⟩ | ⟨kc, f⟩
          · rw [f102] at f
            exact f
          · have z := zc_neF kc
            rcases zbt (x := v14) h2 (by omega) with zz | zz
            · have hk := hk hc v14 k14 zz.1
              replace f := zb_if f
              rcases f with ⟨kc, f⟩ | ⟨kc, f⟩
              · have := zc_eqT kc
                omega
              · rw [hcn] at f
                have f : (bif zm_cmp .ge cn b5 then d_168_102 x1 x2 x3 x4 b5 b6 x7 m (d_168_47 x1 x2 x3 x4 m n) else _) = some v' := f
                replace f := zb_if f
                rcases f with ⟨kc, f⟩ | ⟨kc, f⟩
                · rw [f102] at f
                  exact f
                · have := zc_geF kc
                  omega
            · omega
        · rw [f102] at f
          exact f
      replace e := zb_if e
      rcases e with ⟨hc, e⟩ | ⟨hc, e⟩
      · have q9 := zc_geT hc
        refine ih a5 a6 b5 b6 (x7 + 1) v v' g1 (by omega) hs e (keep fun _ _ _ _ => ?_)
        rcases hs with ⟨_, hs, _⟩ | ⟨_, hs, _, q2, q3⟩
        · rw [hs] at q9
          omega
        · rw [hs] at q9 q2
          omega
      · have q9 := zc_geF hc
        replace e := zb_bind e
        obtain ⟨v11, h11, e⟩ := e
        have al := allow_eq hR hL hD h11 k12
        subst al
        replace e := zb_if e
        rcases e with ⟨hc, e⟩ | ⟨hc, e⟩
        · replace e := zb_bind e
          obtain ⟨v13, h13, e⟩ := e
          replace e := zb_let e
          obtain ⟨v14, h14, e⟩ := e
          have b14 := b_90n (x0 := v13) h2 (by omega)
          rw [h14] at b14
          replace e := zb_if e
          rcases e with ⟨hc2, e⟩ | ⟨hc2, e⟩
          · have z := b14.mp hc2
            have f' : d_168_47 x1 x2 x3 x4 m n cn x7 (x7 + 1) = some v' := by
              subst hc
              have f : (Option.bind (d_150 x1 x3 x7 m) _) = some v' := f
              replace f := zb_bind f
              obtain ⟨w14, k14, f⟩ := f
              have hq := has_eq hG hp hl hh h13 k14
              subst hq
              replace f := zb_if f
              rcases f with ⟨kc, f⟩ | ⟨kc, f⟩
              · have z2 := zc_neT kc
                rcases zbt (x := v13) h2 (by omega) with zz | zz
                · omega
                · exact absurd z zz.1
              · rw [hcn] at f
                replace f := zb_if f
                rcases f with ⟨kc, f⟩ | ⟨kc, f⟩
                · exact f
                · have f : (bif zm_cmp .ge cn b5 then d_168_102 x1 x2 x3 x4 b5 b6 x7 m (d_168_47 x1 x2 x3 x4 m n) else d_168_47 x1 x2 x3 x4 m n cn x7 (x7 + 1)) = some v' := f
                  replace f := zb_if f
                  rcases f with ⟨kc2, f⟩ | ⟨kc2, f⟩
                  · have := zc_geT kc2
                    have := zc_eqF kc
                    rcases hs with ⟨_, _, hs, _⟩ | ⟨_, hs, _⟩
                    · rw [hs] at this
                      exact absurd rfl this
                    · rw [hs] at q9
                      omega
                  · exact f
            exact ih x7 cn cn x7 (x7 + 1) v v' g1 (by omega) (Or.inr ⟨h0, rfl, rfl, cc.2⟩) e f'
          · have z := zd_no b14 hc2
            refine ih a5 a6 b5 b6 (x7 + 1) v v' g1 (by omega) hs e (keep fun _ w14 k14 zz => ?_)
            have hq := has_eq hG hp hl hh h13 k14
            subst hq
            exact absurd zz z
        · refine ih a5 a6 b5 b6 (x7 + 1) v v' g1 (by omega) hs e (keep fun w => ?_)
          rw [hc] at w
          cases w
theorem a_74 {x1 x2 x3 x4 v v' : Int32} {g g1 m : G} (_ : Inv g) (_ : Inv m) (hR : Rel g m) (e : d_74 x1 x2 x3 x4 g = some (v, g1)) (f : d_168 x1 x2 x3 x4 m = some v') : v = v' := by
  unfold d_74 at e
  unfold d_168 at f
  have nn := hR.rcb.nums
  have L0 := zl_0
  replace e := zb_let e
  obtain ⟨v1, h1, e⟩ := e
  have b1 := b_96 (x1 := x1) (x2 := x2) (x3 := x3) (g := g)
  rw [h1] at b1
  have n1 := (one_eq (x := x1) hR.rcb).symm.trans b_18
  have n3 := (hour_eq (x := x3) hR.rcb).symm.trans b_19
  replace e := zb_if e
  rcases e with ⟨hc, e⟩ | ⟨hc, e⟩
  · have q := b1.mp hc
    have e1 := (zb_r2 e).1
    replace f := zb_if f
    rcases f with ⟨k1, f⟩ | ⟨_, f⟩
    · replace f := zb_if f
      rcases f with ⟨k2, f⟩ | ⟨_, f⟩
      · replace f := zb_if f
        rcases f with ⟨k3, f⟩ | ⟨_, f⟩
        · exact absurd ⟨n1.mp k1, b_134.mp k2, n3.mp k3⟩ q
        · exact e1.symm.trans (zb_r1 f)
      · exact e1.symm.trans (zb_r1 f)
    · exact e1.symm.trans (zb_r1 f)
  · have q := zd_no b1 hc
    have q := Classical.not_not.mp q
    replace f := zb_if f
    rcases f with ⟨k1, f⟩ | ⟨k1, f⟩
    · replace f := zb_if f
      rcases f with ⟨k2, f⟩ | ⟨k2, f⟩
      · replace f := zb_if f
        rcases f with ⟨k3, f⟩ | ⟨k3, f⟩
        · replace e := zb_let e
          obtain ⟨v3, h3, e⟩ := e
          replace f := zb_let f
          obtain ⟨w3, k3, f⟩ := f
          have i := in01 (x := x4)
          rw [h3, k3] at i
          replace e := zb_if e
          replace f := zb_if f
          rcases e with ⟨hc, e⟩ | ⟨hc, e⟩
          · rcases f with ⟨kc, f⟩ | ⟨kc, f⟩
            · exact absurd hc (i.mp kc)
            · exact (zb_r2 e).1.symm.trans (zb_r1 f)
          · rcases f with ⟨kc, f⟩ | ⟨kc, f⟩
            · replace e := zb_bind e
              obtain ⟨g5, h5, e⟩ := e
              obtain ⟨hL, hF⟩ := t_2 (Or.inl rfl) hR.rcb.2.2.1 h5
              have f1 := hF 1 1 (by omega) (by omega) (by omega)
              have f0 := hF 1 0 (by omega) (by omega) (by omega)
              exact l_74 (p := x1.toInt.toNat) (t := x2.toInt.toNat) hR.rcb (hR.rcb.cl (Or.inl rfl) hF) hL (by omega) (by rw [f1]; omega) (by omega) (by omega) (by rw [f0]; omega) 300 (-4) 9 (-4) (-4) 0 v v' g1 (by decide) (Or.inl ⟨rfl, rfl, rfl, rfl⟩) e f
            · exact absurd (i.mpr (by rw [hc]; decide)) (by rw [kc]; decide)
        · exact absurd (n3.mpr q.2.2) (by rw [k3]; decide)
      · exact absurd (b_134.mpr q.2.1) (by rw [k2]; decide)
    · exact absurd (n1.mpr q.1) (by rw [k1]; decide)
/-- how many can be done -/
theorem t_100 {b : Nat} {g g1 m m' : G} {v w w' : Int32} (hb : b = 1 ∨ b = 30) (hR : RCb b g m) (e : d_100 b g = some (v, g1)) (f : d_161 m = some w) (f' : d_164 w m' = some w') : v = w' ∧ ∀ r j, r ≠ 25 → r ≠ 26 → r ≠ 27 → g1 r j = g r j := by
  unfold d_100 at e
  have nn := hR.nums
  replace e := zb_bind e
  obtain ⟨g3, h3, e⟩ := e
  obtain ⟨hL, hF⟩ := t_2 hb hR.2.2.1 h3
  replace e := zb_bind e
  obtain ⟨v4, h4, e⟩ := e
  have ge := great_eq hR hL h4 f
  subst ge
  have gv := t_8 hR hL h4
  have ai := all_int hR hL
  have bb := zbit_b8 (x := v4) (fun i w => by
    have w := gv.1.1 i w
    rw [zbit_and, Bool.and_eq_true] at w
    have := day_le hR hL ai.2.1 (Int.le_refl _) i w.1
    omega)
  have cc := cnt_eq bb f'
  have e : some (d_190 v4, g3) = some (v, g1) := e
  obtain ⟨e1, e2⟩ := zb_r2 e
  subst e2
  exact ⟨e1.symm.trans cc.1, hF⟩
theorem l_75 {x1 x2 x6 : Int32} {d : Nat} (hd : x1.toInt = d) : ∀ (f : Nat) (x3 x4 x5 v v' : Int32) (k : Nat) (gg g1 mm m' : G), x5.toInt = k → RCb 30 gg mm → gg 1 0 = mm 113 2 → (d : Int) < (gg 30 2).toInt → d_75_47 x1 x2 f x3 x4 x5 gg = some (v, g1) → d_169_55 x2 ((9 + (7 * x1)) + 0) x6 f x3 x4 x5 mm = some (v', m') → v = v' := by
  intro n
  induction n with
  | zero =>
    intro x3 x4 x5 v v' k gg g1 mm m' _ _ _ _ e
    rw [d_75_47.eq_1] at e
    cases e
  | succ n ih =>
    intro x3 x4 x5 v v' k gg g1 mm m' hx hR h0 hn e f
    rw [d_75_47.eq_2, h0] at e
    rw [d_169_55.eq_2] at f
    have L1 := zl_1
    have nn := hR.nums
    have yi := zi_idx (x := x1) (o := 0) (n := 0) hd (by omega) (by decide) (by omega)
    rcases zb_if2 Iff.rfl e f with ⟨h1, _, e, f⟩ | ⟨h1, _, e, f⟩
    · replace f := zb_bind f
      obtain ⟨k10, h10, f⟩ := f
      replace f := zb_let f
      obtain ⟨g9, h9, f⟩ := f
      rcases zb_if2 Iff.rfl e f with ⟨h1, _, e, f⟩ | ⟨h1, _, e, f⟩
      · rcases zb_if2 Iff.rfl e f with ⟨h1, _, e, f⟩ | ⟨h1, _, e, f⟩
        · exact (zb_r2 e).1.symm.trans (zb_r2 f).1
        · exact (zb_r2 e).1.symm.trans (zb_r2 f).1
      · exact (zb_r2 e).1.symm.trans (zb_r2 f).1
    · have q := zc_geF h1
      have ya := zi_add (x := x5) (y := 1) (by omega) (by omega)
      replace e := zb_bind e
      obtain ⟨k11, h11, e⟩ := e
      have b11 := zm_ix_ko h11
      obtain rfl : k11 = d := by omega
      replace e := zb_let e
      obtain ⟨g12, h12, e⟩ := e
      replace e := zb_bpair e
      obtain ⟨v13, g14, h14, e⟩ := e
      replace f := zb_bind f
      obtain ⟨k14, j14, f⟩ := f
      have b14 := zm_ix_ko j14
      obtain rfl : k14 = 9 + 7 * k11 + 0 := by omega
      replace f := zb_let f
      obtain ⟨m13, j13, f⟩ := f
      replace f := zb_bind f
      obtain ⟨w15, j15, f⟩ := f
      replace f := zb_bind f
      obtain ⟨w16, j16, f⟩ := f
      have hU : RCb 30 g12 m13 := by
        rw [← h12, ← j13]
        exact hR.up2 (j := 0) (by omega) hn rfl (by omega)
      obtain ⟨vw, hF⟩ := t_100 (Or.inr rfl) hU h14 j15 j16
      subst vw
      have hU' := hU.cl (Or.inr rfl) hF
      have a0 : g14 1 0 = m13 113 2 := by
        rw [hF 1 0 (by omega) (by omega) (by omega), zg_fr h12 1 0 (by omega), zg_fr j13 113 2 (by omega)]
        exact h0
      have a2 : g14 30 2 = gg 30 2 := by
        rw [hF 30 2 (by omega) (by omega) (by omega), zg_fr h12 30 2 (by omega)]
      have go : ∀ y3 y4, d_75_47 x1 x2 n y3 y4 (x5 + 1) g14 = some (v, g1) → d_169_55 x2 ((9 + (7 * x1)) + 0) x6 n y3 y4 (x5 + 1) m13 = some (v', m') → v = v' := fun y3 y4 e f => ih y3 y4 (x5 + 1) v v' (k + 1) g14 g1 m13 m' (by omega) hU' a0 (by rw [a2]; exact hn) e f
      replace e := zb_if e
      replace f := zb_if f
      rcases e with ⟨hc, e⟩ | ⟨hc, e⟩
      · rcases f with ⟨kc, f⟩ | ⟨kc, f⟩
        · rw [kc] at f
          exact go _ _ e f
        · rw [hc] at kc
          cases kc
      · rcases f with ⟨kc, f⟩ | ⟨kc, f⟩
        · rw [hc] at kc
          cases kc
        · rw [kc] at f
          exact go _ _ e f
/-- the copy that is tried -/
theorem RCb.trial {g g' m : G} (hR : RCb 1 g m) (hc : Cp 30 1 g g') : RCb 30 g' m := by
  obtain ⟨h1, h2, h3, h4⟩ := hR
  exact ⟨(hc.1 0 (by omega)).trans h1, (hc.1 1 (by omega)).trans h2, h3.cp hc, Rfam.cp h3.1 h4 hc (fun k _ => rfl)⟩
theorem a_75 {x1 x2 v v' : Int32} {g g1 m g2 : G} (_ : Inv g) (_ : Inv m) (hR : Rel g m) (e : d_75 x1 x2 g = some (v, g1)) (f : d_169 x1 x2 m = some (v', g2)) : v = v' := by
  unfold d_75 at e
  unfold d_169 at f
  have nn := hR.rcb.nums
  rcases zb_if2 (deed_eq hR.rcb) e f with ⟨h1, _, e, f⟩ | ⟨_, _, e, f⟩
  · have q1 := b_20.mp h1
    replace e := zb_let e
    obtain ⟨v3, h3, e⟩ := e
    replace f := zb_let f
    obtain ⟨w3, k3, f⟩ := f
    have i := in01 (x := x2)
    rw [h3, k3] at i
    replace e := zb_if e
    replace f := zb_if f
    rcases e with ⟨hc, e⟩ | ⟨hc, e⟩
    · rcases f with ⟨kc, f⟩ | ⟨kc, f⟩
      · exact absurd hc (i.mp kc)
      · exact (zb_r2 e).1.symm.trans (zb_r2 f).1
    · rcases f with ⟨kc, f⟩ | ⟨kc, f⟩
      · replace e := zb_bpair e
        obtain ⟨v5, g6, h6, e⟩ := e
        replace e := zb_bind e
        obtain ⟨g7, h7, e⟩ := e
        replace f := zb_bind f
        obtain ⟨w5, j5, f⟩ := f
        replace f := zb_bind f
        obtain ⟨w6, j6, f⟩ := f
        replace f := zb_bind f
        obtain ⟨k7, j7, f⟩ := f
        obtain ⟨vw, hF⟩ := t_100 (Or.inl rfl) hR.rcb h6 j5 j6
        subst vw
        obtain ⟨hc1, hc2⟩ := t_17 (r0 := 30) (r1 := 1) (by omega) h7
        have hG := hR.rcb.cl (Or.inl rfl) hF
        have hT := hG.trial hc2
        have a2 : g7 30 2 = g 1 2 := (hc2.1 2 (by omega)).trans (hF 1 2 (by omega) (by omega) (by omega))
        have a0 : g7 1 0 = m 113 2 := (hc1 1 0 (by omega) (by omega)).trans ((hF 1 0 (by omega) (by omega) (by omega)).trans hR.rcb.1)
        exact l_75 (d := x1.toInt.toNat) (by omega) 300 v5 (-4) 0 v v' 0 g7 g1 m g2 (by decide) hT a0 (by rw [a2]; omega) e f
      · exact absurd (i.mpr (by rw [hc]; decide)) (by rw [kc]; decide)
  · exact (zb_r2 e).1.symm.trans (zb_r2 f).1
/-! count() -/
def pb (x : Int32) : Nat → Nat
  | 0 => 0
  | k + 1 => pb x k + (zbit x k).toNat
theorem pb_le {x : Int32} : ∀ k, pb x k ≤ k := by
  intro k
  induction k with
  | zero => exact Nat.le_refl _
  | succ k ih =>
    have a : ∀ b : Bool, b.toNat ≤ 1 := by decide
    have := a (zbit x k)
    rw [pb]
    omega
theorem pb_stay {x : Int32} {n : Nat} (h : ∀ i, n ≤ i → ¬ zbit x i = true) : ∀ j, pb x (n + j) = pb x n := by
  intro j
  induction j with
  | zero => rfl
  | succ j ih =>
    have : zbit x (n + j) = false := by
      have := h (n + j) (by omega)
      cases hz : zbit x (n + j) with
      | false => rfl
      | true => exact absurd hz this
    rw [show n + (j + 1) = n + j + 1 by omega, pb, ih, this]
    rfl
set_option maxRecDepth 100000 in
theorem pb_k : ((List.range 256).all fun n => decide ((d_190 (Int32.ofNat n)).toInt = (pb (Int32.ofNat n) 8 : Nat))) = true := by decide +kernel
theorem pb_eq {x : Int32} (h : 0 ≤ x.toInt ∧ x.toInt ≤ 255) : (d_190 x).toInt = (pb x 8 : Nat) := by
  have k := of_decide_eq_true (List.all_eq_true.mp pb_k x.toInt.toNat (List.mem_range.mpr (by omega)))
  rw [← zi_nat (n := x.toInt.toNat) (x := x) (by omega)] at k
  exact k
theorem l_99_4 {c : G} {x1 w : Int32} (W : Wfam 1 c) (hw : ∀ i, i < 32 → (zbit w i = true ↔ (i : Int) < (c 1 2).toInt ∧ (c (1 + 8 + i) 5).toInt = x1.toInt)) : ∀ (f : Nat) (x2 x3 v : Int32) (k : Nat), x3.toInt = k → (k : Int) ≤ (c 1 2).toInt → x2.toInt = (pb w k : Nat) → d_99_4 x1 c f x2 x3 = some v → v.toInt = (pb w (c 1 2).toInt.toNat : Nat) := by
  have wn := W.1
  unfold Wn at wn
  intro f
  induction f with
  | zero =>
    intro x2 x3 v k _ _ _ e
    rw [d_99_4.eq_1] at e
    cases e
  | succ f ih =>
    intro x2 x3 v k hx hk h2 e
    rw [d_99_4.eq_2] at e
    have L1 := zl_1
    replace e := zb_if e
    rcases e with ⟨hc, e⟩ | ⟨hc, e⟩
    · have q := zc_geT hc
      have e1 := zb_r1 e
      subst e1
      rw [show (c 1 2).toInt.toNat = k by omega]
      exact h2
    · have q := zc_geF hc
      have ya := zi_add (x := x3) (y := 1) (by omega) (by omega)
      have pl := pb_le (x := w) k
      have yb := zi_add (x := x2) (y := 1) (by omega) (by omega)
      replace e := zb_bind e
      obtain ⟨k2, j2, e⟩ := e
      have b2 := zm_ix_ko j2
      obtain rfl : k2 = k := by omega
      have z := hw k2 (by omega)
      replace e := zb_if e
      rcases e with ⟨hc, e⟩ | ⟨hc, e⟩
      · have q2 : (c (1 + 8 + k2) 5).toInt ≠ x1.toInt := zc_neT hc
        refine ih x2 (x3 + 1) v (k2 + 1) (by omega) (by omega) ?_ e
        rw [pb]
        cases hz : zbit w k2 with
        | true => exact absurd (z.mp hz).2 q2
        | false =>
          show _ = ((pb w k2 + 0 : Nat) : Int)
          omega
      · have q2 : (c (1 + 8 + k2) 5).toInt = x1.toInt := zc_neF hc
        refine ih (x2 + 1) (x3 + 1) v (k2 + 1) (by omega) (by omega) ?_ e
        rw [pb, z.mpr ⟨by omega, q2⟩]
        show _ = ((pb w k2 + 1 : Nat) : Int)
        omega
theorem t_99 {c m m' : G} {x1 v w w' : Int32} (hR : RCb 1 c m) (e : d_99 x1 c = some v) (f : d_157 x1 m = some w) (f' : d_164 w m' = some w') : v = w' := by
  have nn := hR.nums
  have t := t_157 hR f
  unfold d_99 at e
  have h := l_99_4 hR.2.2.1 t 300 0 0 v 0 (by decide) (by omega) (show (0 : Int32).toInt = ((0 : Nat) : Int) from by decide) e
  have hb : ∀ i, (c 1 2).toInt.toNat ≤ i → ¬ zbit w i = true := by
    intro i hi z
    rcases Nat.lt_or_ge i 32 with r | r
    · have := ((t i r).mp z).1
      omega
    · rw [zbit_ge _ r] at z
      cases z
  have bb := zbit_b8 (x := w) (fun i z => by
    rcases Nat.lt_or_ge i 8 with r | r
    · exact r
    · exact absurd z (hb i (by omega)))
  have s := pb_stay hb (8 - (c 1 2).toInt.toNat)
  rw [show (c 1 2).toInt.toNat + (8 - (c 1 2).toInt.toNat) = 8 by omega] at s
  have p := pb_eq bb
  rw [(cnt_eq bb f').1, s] at p
  exact Int32.toInt_inj.mp (h.trans p.symm)
theorem a_89 {x1 v v' : Int32} {g g1 m : G} (_ : Inv g) (_ : Inv m) (hR : Rel g m) (e : d_89 x1 g = some (v, g1)) (f : d_188 x1 m = some v') : v = v' := by
  unfold d_89 at e
  unfold d_188 at f
  have L0 := zl_0
  rcases zb_if2 Iff.rfl e f with ⟨_, _, e, f⟩ | ⟨_, _, e, f⟩
  · replace e := zb_bind e
    obtain ⟨v2, h2, e⟩ := e
    replace f := zb_bind f
    obtain ⟨w2, k2, f⟩ := f
    replace f := zb_bind f
    obtain ⟨w3, k3, f⟩ := f
    exact (zb_r2 e).1.symm.trans ((t_99 hR.rcb h2 k2 k3).trans (zb_r1 f))
  rcases zb_if2 Iff.rfl e f with ⟨_, _, e, f⟩ | ⟨_, _, e, f⟩
  · replace e := zb_bind e
    obtain ⟨v2, h2, e⟩ := e
    replace f := zb_bind f
    obtain ⟨w2, k2, f⟩ := f
    replace f := zb_bind f
    obtain ⟨w3, k3, f⟩ := f
    exact (zb_r2 e).1.symm.trans ((t_99 hR.rcb h2 k2 k3).trans (zb_r1 f))
  rcases zb_if2 Iff.rfl e f with ⟨_, _, e, f⟩ | ⟨_, _, e, f⟩
  · exact (zb_r2 e).1.symm.trans (hR.rcb.2.2.2.2.1.trans (zb_r1 f))
  rcases zb_if2 Iff.rfl e f with ⟨_, _, e, f⟩ | ⟨_, _, e, f⟩
  · have r0 := hR.2.2.2.1 0 (by omega)
    have r1 := hR.2.2.2.1 1 (by omega)
    unfold RD1 at r0 r1
    have f : some (d_108 (m 115 0) + d_108 (m 115 1)) = some v' := f
    rw [← r0.1, ← r1.1] at f
    have z0 : g 55 0 = 0 ∨ g 55 0 = 1 := r0.2.elim Or.inl fun w => Or.inr w.1
    have z1 : g 55 1 = 0 ∨ g 55 1 = 1 := r1.2.elim Or.inl fun w => Or.inr w.1
    rcases z0 with z0 | z0 <;> rcases z1 with z1 | z1 <;> rw [z0, z1] at e f <;> exact (zb_r2 e).1.symm.trans (zb_r1 f)
  rcases zb_if2 Iff.rfl e f with ⟨_, _, e, f⟩ | ⟨_, _, e, f⟩
  · exact (zb_r2 e).1.symm.trans (hR.1.1.trans (zb_r1 f))
  rcases zb_if2 Iff.rfl e f with ⟨_, _, e, f⟩ | ⟨_, _, e, f⟩
  · have r := hR.2.2.2.2 0 (by omega)
    unfold RE1 at r
    have Lm4 : (-4 : Int32).toInt = -4 := by decide
    replace e := zb_let e
    obtain ⟨v12, h12, e⟩ := e
    have b := b_46 (r0 := 105 + 2 * 0) (g := g)
    rw [h12] at b
    replace e := zb_if e
    replace f := zb_if f
    rcases r with ⟨r1, r2⟩ | ⟨r1, r2, r3, r4, r5, r6, r7⟩
    · rcases e with ⟨hc, e⟩ | ⟨hc, e⟩
      · rcases f with ⟨kc, f⟩ | ⟨kc, f⟩
        · have := zc_neT kc
          exfalso
          omega
        · exact (zb_r2 e).1.symm.trans (zb_r1 f)
      · exact absurd r1 (zd_no b hc)
    · rcases e with ⟨hc, e⟩ | ⟨hc, e⟩
      · have := b.mp hc
        exfalso
        omega
      · rcases f with ⟨kc, f⟩ | ⟨kc, f⟩
        · exact (zb_r2 e).1.symm.trans (r1.trans (zb_r1 f))
        · have := zc_neF kc
          exfalso
          omega
  rcases zb_if2 Iff.rfl e f with ⟨_, _, e, f⟩ | ⟨_, _, e, f⟩
  · replace e := zb_bpair e
    obtain ⟨v15, g16, h15, e⟩ := e
    replace f := zb_bind f
    obtain ⟨w15, k15, f⟩ := f
    replace f := zb_bind f
    obtain ⟨w16, k16, f⟩ := f
    exact (zb_r2 e).1.symm.trans ((t_100 (Or.inl rfl) hR.rcb h15 k15 k16).1.trans (zb_r1 f))
  · exact (zb_r2 e).1.symm.trans (zb_r1 f)
