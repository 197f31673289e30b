/-! calls that leave all as it was -/
theorem Rel.cg {c m c' m' : G} (h : Rel c m) (hc : ∀ r k, (r = 28 ∧ (k = 1 ∨ k = 2)) ∨ r = 29 ∨ r = 1 ∨ (5 ≤ r ∧ r < 25) ∨ (55 ≤ r ∧ r < 104) ∨ (105 ≤ r ∧ r < 113) → c' r k = c r k) (hm : ∀ r k, (r = 113 ∧ (k = 2 ∨ k = 3 ∨ k = 14 ∨ k = 19)) ∨ r = 114 ∨ r = 115 ∨ r = 117 ∨ r = 119 ∨ r = 120 ∨ r = 121 → m' r k = m r k) : Rel c' m' := by
  obtain ⟨hA, hB, hC, hD, hE⟩ := h
  exact ⟨hA.congr (fun r k hr => hc r k (by omega)) (fun r k hr => hm r k (by omega)), hB.congr (fun r k hr => hc r k (by omega)) (fun r k hr => hm r k (by omega)), hC.congr (fun r k hr => hc r k (by omega)) (fun r k hr => hm r k (by omega)), hD.congr (fun r k hr => hc r k (by omega)) (fun r k hr => hm r k (by omega)), hE.congr (fun r k hr => hc r k (by omega)) (fun r k hr => hm r k (by omega))⟩
theorem Rel.mo {c m m' : G} (h : Rel c m) (hm : ∀ r k, 113 ≤ r → m' r k = m r k) : Rel c m' := h.cg (fun _ _ _ => rfl) (fun r k hr => hm r k (by omega))
theorem Rel.cl {c m c' : G} (h : Rel c m) (hc : ∀ r k, r < 113 → c' r k = c r k) : Rel c' m := h.cg (fun r k hr => hc r k (by omega)) (fun _ _ _ => rfl)
/-- stop -/
theorem k_167_23 {x1 : Int32} : ∀ (f : Nat) (x2 x3 x4 v : Int32) (n : Nat) (g g' : G), x4.toInt = n → (g 114 8).toInt ≤ 8 → d_167_23 x1 f x2 x3 x4 g = some (v, g') → ∀ r k, ¬ (r = 113 ∧ k = 21) → g' r k = g r k := by
  intro f
  induction f with
  | zero =>
    intro x2 x3 x4 v n g g' _ _ e
    rw [d_167_23.eq_1] at e
    cases e
  | succ f ih =>
    intro x2 x3 x4 v n g g' hx h8 e
    rw [d_167_23.eq_2] at e
    have L1 := zl_1
    replace e := zb_if e
    rcases e with ⟨hc, e⟩ | ⟨hc, e⟩
    · intro r k _
      replace e := zb_if e
      rcases e with ⟨hc, e⟩ | ⟨hc, e⟩
      · replace e := zb_if e
        rcases e with ⟨hc, e⟩ | ⟨hc, e⟩
        · obtain ⟨_, e2⟩ := zb_r2 e
          rw [e2]
        · obtain ⟨_, e2⟩ := zb_r2 e
          rw [e2]
      · obtain ⟨_, e2⟩ := zb_r2 e
        rw [e2]
    · have q := zc_geF hc
      have yi := zi_idx (x := x4) (o := 5) (n := 5) hx (by omega) (by decide) (by omega)
      have ya := zi_add (x := x4) (y := 1) (by omega) (by omega)
      replace e := zb_bpair e
      obtain ⟨v8, g9, h9, e⟩ := e
      obtain ⟨m1, m2⟩ := t_142 (n := 9 + 7 * n + 5) yi h9
      replace e := zb_bpair e
      obtain ⟨v10, g11, h11, e⟩ := e
      have F11 := f_166 g9 (v10, g11) h11
      replace e := zb_bind e
      obtain ⟨k13, h13, e⟩ := e
      have b13 := zm_ix_ko h13
      obtain rfl : k13 = 9 + 7 * n + 5 := by omega
      replace e := zb_let e
      obtain ⟨g12, h12, e⟩ := e
      have same : ∀ r k, ¬ (r = 113 ∧ k = 21) → g12 r k = g r k := by
        intro r k hn
        by_cases hh : r = 114 ∧ k = 9 + 7 * n + 5
        · obtain ⟨rfl, rfl⟩ := hh
          rw [← h12, zg_ue, m1]
        · rw [zg_fr h12 r k hh]
          refine (F11 r k hn).trans ?_
          rw [m2, zg_un hh]
      have h8' : (g12 114 8).toInt ≤ 8 := by rw [same 114 8 (by omega)]; exact h8
      have go : ∀ y2 y3, d_167_23 x1 f y2 y3 (x4 + 1) g12 = some (v, g') → ∀ r k, ¬ (r = 113 ∧ k = 21) → g' r k = g r k := fun y2 y3 e r k hn => (ih y2 y3 (x4 + 1) v (n + 1) g12 g' (by omega) h8' e r k hn).trans (same r k hn)
      replace e := zb_if e
      rcases e with ⟨_, e⟩ | ⟨_, e⟩
      · replace e := zb_if e
        rcases e with ⟨_, e⟩ | ⟨_, e⟩
        · exact go _ _ e
        · exact go _ _ e
      · replace e := zb_if e
        rcases e with ⟨_, e⟩ | ⟨_, e⟩
        · exact go _ _ e
        · exact go _ _ e
theorem k_167 {x1 v : Int32} {g g' : G} (h8 : (g 114 8).toInt ≤ 8) (e : d_167 x1 g = some (v, g')) : ∀ r k, ¬ (r = 113 ∧ k = 21) → g' r k = g r k := by
  unfold d_167 at e
  replace e := zb_let e
  obtain ⟨v1, h1, e⟩ := e
  replace e := zb_if e
  rcases e with ⟨_, e⟩ | ⟨_, e⟩
  · replace e := zb_bpair e
    obtain ⟨v3, g4, h4, e⟩ := e
    have F4 : ∀ r k, ¬ (r = 113 ∧ k = 21) → g4 r k = g r k := fun r k hn => f_166 g (v3, g4) h4 r k hn
    exact fun r k hn => (k_167_23 300 _ _ 0 v 0 g4 g' (by decide) (by rw [F4 114 8 (by omega)]; exact h8) e r k hn).trans (F4 r k hn)
  · obtain ⟨_, e2⟩ := zb_r2 e
    subst e2
    exact fun _ _ _ => rfl
/-- better -/
theorem k_169_55 {x2 x5 x6 : Int32} {n : Nat} (hn : x5.toInt = n) : ∀ (f : Nat) (x3 x4 x7 v : Int32) (g g' : G), d_169_55 x2 x5 x6 f x3 x4 x7 g = some (v, g') → (∀ r k, ¬ (r = 114 ∧ k = n) → g' r k = g r k) ∧ g' 114 n = x6 := by
  intro f
  induction f with
  | zero =>
    intro x3 x4 x7 v g g' e
    rw [d_169_55.eq_1] at e
    cases e
  | succ f ih =>
    intro x3 x4 x7 v g g' e
    rw [d_169_55.eq_2] at e
    replace e := zb_if e
    rcases e with ⟨_, e⟩ | ⟨_, e⟩
    · replace e := zb_bind e
      obtain ⟨k10, h10, e⟩ := e
      have b10 := zm_ix_ko h10
      obtain rfl : k10 = n := by omega
      replace e := zb_let e
      obtain ⟨g9, h9, e⟩ := e
      have fin : g9 = g' → (∀ r k, ¬ (r = 114 ∧ k = k10) → g' r k = g r k) ∧ g' 114 k10 = x6 := fun q => by
        subst q
        exact ⟨fun r k hn => zg_fr h9 r k hn, by rw [← h9]; exact zg_ue⟩
      replace e := zb_if e
      rcases e with ⟨_, e⟩ | ⟨_, e⟩
      · replace e := zb_if e
        rcases e with ⟨_, e⟩ | ⟨_, e⟩
        · exact fin (zb_r2 e).2
        · exact fin (zb_r2 e).2
      · exact fin (zb_r2 e).2
    · replace e := zb_bind e
      obtain ⟨k14, h14, e⟩ := e
      have b14 := zm_ix_ko h14
      obtain rfl : k14 = n := by omega
      replace e := zb_let e
      obtain ⟨g13, h13, e⟩ := e
      replace e := zb_bind e
      obtain ⟨v15, h15, e⟩ := e
      replace e := zb_bind e
      obtain ⟨v16, h16, e⟩ := e
      have go : ∀ y3 y4 y7, d_169_55 x2 x5 x6 f y3 y4 y7 g13 = some (v, g') → (∀ r k, ¬ (r = 114 ∧ k = k14) → g' r k = g r k) ∧ g' 114 k14 = x6 := fun y3 y4 y7 e => by
        obtain ⟨i1, i2⟩ := ih y3 y4 y7 v g13 g' e
        exact ⟨fun r k hn => (i1 r k hn).trans (zg_fr h13 r k hn), i2⟩
      replace e := zb_if e
      rcases e with ⟨_, e⟩ | ⟨_, e⟩
      · replace e := zb_if e
        rcases e with ⟨_, e⟩ | ⟨_, e⟩
        · exact go _ _ _ e
        · exact go _ _ _ e
      · replace e := zb_if e
        rcases e with ⟨_, e⟩ | ⟨_, e⟩
        · exact go _ _ _ e
        · exact go _ _ _ e
theorem k_169 {x1 x2 v : Int32} {g g' : G} (e : d_169 x1 x2 g = some (v, g')) : ∀ r k, g' r k = g r k := by
  unfold d_169 at e
  replace e := zb_let e
  obtain ⟨v1, h1, e⟩ := e
  replace e := zb_if e
  rcases e with ⟨_, e⟩ | ⟨_, e⟩
  · replace e := zb_let e
    obtain ⟨v3, h3, e⟩ := e
    replace e := zb_if e
    rcases e with ⟨_, e⟩ | ⟨_, e⟩
    · replace e := zb_bind e
      obtain ⟨v5, h5, e⟩ := e
      replace e := zb_bind e
      obtain ⟨v6, h6, e⟩ := e
      replace e := zb_bind e
      obtain ⟨k7, h7, e⟩ := e
      have b7 := zm_ix_ko h7
      obtain ⟨i1, i2⟩ := k_169_55 (n := k7) b7.1.symm 300 _ _ _ v g g' e
      intro r k
      by_cases hh : r = 114 ∧ k = k7
      · obtain ⟨rfl, rfl⟩ := hh
        exact i2
      · exact i1 r k hh
    · obtain ⟨_, e2⟩ := zb_r2 e
      subst e2
      exact fun _ _ => rfl
  · obtain ⟨_, e2⟩ := zb_r2 e
    subst e2
    exact fun _ _ => rfl
/-- ways -/
theorem k_178_178 {x1 x3 x4 x5 : Int32} : ∀ (f : Nat) (x6 v : Int32) (n : Nat) (g g' : G), x6.toInt = n → (g 113 3).toInt ≤ 4 → d_178_178 x1 x3 x4 x5 f x6 g = some (v, g') → (∀ r k : Nat, ¬ (r = 114 ∧ n ≤ k ∧ (k : Int) < (g 113 3).toInt) → g' r k = g r k) ∧ ∀ k : Nat, n ≤ k → (k : Int) < (g 113 3).toInt → g' 114 k = g 118 k := by
  intro f
  induction f with
  | zero =>
    intro x6 v n g g' _ _ e
    rw [d_178_178.eq_1] at e
    cases e
  | succ f ih =>
    intro x6 v n g g' hx h4 e
    rw [d_178_178.eq_2] at e
    have L0 := zl_0
    have L1 := zl_1
    replace e := zb_if e
    rcases e with ⟨hc, e⟩ | ⟨hc, e⟩
    · have q := zc_geT hc
      have fin : g = g' → (∀ r k : Nat, ¬ (r = 114 ∧ n ≤ k ∧ (k : Int) < (g 113 3).toInt) → g' r k = g r k) ∧ ∀ k : Nat, n ≤ k → (k : Int) < (g 113 3).toInt → g' 114 k = g 118 k := fun w => by
        subst w
        exact ⟨fun _ _ _ => rfl, fun k h1 h2 => by omega⟩
      replace e := zb_if e
      rcases e with ⟨_, e⟩ | ⟨_, e⟩
      · replace e := zb_if e
        rcases e with ⟨_, e⟩ | ⟨_, e⟩
        · exact fin (zb_r2 e).2
        · exact fin (zb_r2 e).2
      · exact fin (zb_r2 e).2
    · have q := zc_geF hc
      have y0 := zi_add (x := 0) (y := x6) (by omega) (by omega)
      have y1 := zi_add (x := x6) (y := 1) (by omega) (by omega)
      replace e := zb_bind e
      obtain ⟨k8, h8, e⟩ := e
      have b8 := zm_ix_ko h8
      replace e := zb_bind e
      obtain ⟨k10, h10, e⟩ := e
      have b10 := zm_ix_ko h10
      obtain rfl : k8 = n := by omega
      obtain rfl : k10 = k8 := by omega
      replace e := zb_let e
      obtain ⟨g9, h9, e⟩ := e
      have u3 : g9 113 3 = g 113 3 := zg_fr h9 113 3 (by omega)
      obtain ⟨i1, i2⟩ := ih (x6 + 1) v (k10 + 1) g9 g' (by omega) (by rw [u3]; exact h4) e
      rw [u3] at i1 i2
      refine ⟨fun r k hn => (i1 r k (by omega)).trans (zg_fr h9 r k (by omega)), fun k h1 h2 => ?_⟩
      by_cases hh : k = k10
      · subst hh
        rw [i1 _ _ (by omega), ← h9]
        exact zg_ue
      · exact (i2 k (by omega) h2).trans (zg_fr h9 _ _ (by omega))
/-- at the end all WAYS are put back -/
def KW (g g' : G) : Prop := (∀ r k : Nat, ¬ (r = 114 ∧ (k : Int) < (g 113 3).toInt) → g' r k = g r k) ∧ ∀ k : Nat, (k : Int) < (g 113 3).toInt → g' 114 k = g 118 k
theorem KW.pre {g g1 g' : G} (h : KW g1 g') (h3 : g1 113 3 = g 113 3) (hu : ∀ r k : Nat, ¬ (r = 114 ∧ (k : Int) < (g 113 3).toInt) → g1 r k = g r k) : KW g g' := by
  unfold KW at *
  rw [h3] at h
  exact ⟨fun r k hn => (h.1 r k hn).trans (hu r k hn), fun k hk => (h.2 k hk).trans (hu 118 k (by omega))⟩
theorem k_178_84 {x1 x2 x3 x4 x5 x6 : Int32} {k71 : Int32 → Int32 → Int32 → Int32 → G → Option (Int32 × G)} (hk : ∀ y3 y4 y5 y6 v g g', (g 113 3).toInt ≤ 4 → k71 y3 y4 y5 y6 g = some (v, g') → KW g g') : ∀ (f : Nat) (x7 x8 v : Int32) (n : Nat) (g g' : G), x8.toInt = n → (g 113 3).toInt ≤ 4 → d_178_84 x1 x2 x3 x4 x5 x6 k71 f x7 x8 g = some (v, g') → KW g g' := by
  intro f
  induction f with
  | zero =>
    intro x7 x8 v n g g' _ _ e
    rw [d_178_84.eq_1] at e
    cases e
  | succ f ih =>
    intro x7 x8 v n g g' hx h4 e
    rw [d_178_84.eq_2] at e
    have L0 := zl_0
    have L1 := zl_1
    replace e := zb_if e
    rcases e with ⟨hc, e⟩ | ⟨hc, e⟩
    · replace e := zb_bind e
      obtain ⟨v12, h12, e⟩ := e
      replace e := zb_if e
      rcases e with ⟨_, e⟩ | ⟨_, e⟩
      · replace e := zb_if e
        rcases e with ⟨_, e⟩ | ⟨_, e⟩
        · replace e := zb_if e
          rcases e with ⟨_, e⟩ | ⟨_, e⟩
          · exact hk _ _ _ _ _ _ _ h4 e
          · replace e := zb_bind e
            obtain ⟨k16, h16, e⟩ := e
            exact hk _ _ _ _ _ _ _ h4 e
        · replace e := zb_if e
          rcases e with ⟨_, e⟩ | ⟨_, e⟩
          · exact hk _ _ _ _ _ _ _ h4 e
          · replace e := zb_bind e
            obtain ⟨k16, h16, e⟩ := e
            exact hk _ _ _ _ _ _ _ h4 e
      · exact hk _ _ _ _ _ _ _ h4 e
    · have q := zc_geF hc
      have y0 := zi_add (x := 0) (y := x8) (by omega) (by omega)
      have y1 := zi_add (x := x8) (y := 1) (by omega) (by omega)
      replace e := zb_bind e
      obtain ⟨k20, h20, e⟩ := e
      have b20 := zm_ix_ko h20
      replace e := zb_let e
      obtain ⟨g19, h19, e⟩ := e
      have u3 : g19 113 3 = g 113 3 := zg_fr h19 113 3 (by omega)
      have i := ih (x7 / 3) (x8 + 1) v (n + 1) g19 g' (by omega) (by rw [u3]; exact h4) e
      exact i.pre u3 (fun r k hn => zg_fr h19 r k (by omega))
theorem k_178_71 {x1 x2 : Int32} : ∀ (f : Nat) (x3 x4 x5 x6 v : Int32) (g g' : G), (g 113 3).toInt ≤ 4 → d_178_71 x1 x2 f x3 x4 x5 x6 g = some (v, g') → KW g g' := by
  intro f
  induction f with
  | zero =>
    intro x3 x4 x5 x6 v g g' _ e
    rw [d_178_71.eq_1] at e
    cases e
  | succ f ih =>
    intro x3 x4 x5 x6 v g g' h4 e
    rw [d_178_71.eq_2] at e
    replace e := zb_if e
    rcases e with ⟨_, e⟩ | ⟨_, e⟩
    · obtain ⟨i1, i2⟩ := k_178_178 300 0 v 0 g g' (by decide) h4 e
      exact ⟨fun r k hn => i1 r k (by omega), fun k hk => i2 k (by omega) hk⟩
    · exact k_178_84 (fun y3 y4 y5 y6 v g g' h4 e => ih y3 y4 y5 y6 v g g' h4 e) 300 x6 0 v 0 g g' (by decide) h4 e
theorem k_178_27 {x1 : Int32} : ∀ (f : Nat) (x2 x3 v : Int32) (n : Nat) (g g' : G), x3.toInt = n → 0 ≤ (g 113 3).toInt → (g 113 3).toInt ≤ 4 → (∀ k : Nat, k < n → (k : Int) < (g 113 3).toInt → g 118 k = g 114 k) → d_178_27 x1 f x2 x3 g = some (v, g') → ∀ r k, r ≠ 118 → g' r k = g r k := by
  intro f
  induction f with
  | zero =>
    intro x2 x3 v n g g' _ _ _ _ e
    rw [d_178_27.eq_1] at e
    cases e
  | succ f ih =>
    intro x2 x3 v n g g' hx h0 h4 hs e
    rw [d_178_27.eq_2] at e
    have L0 := zl_0
    have L1 := zl_1
    replace e := zb_if e
    rcases e with ⟨hc, e⟩ | ⟨hc, e⟩
    · have q := zc_geT hc
      obtain ⟨i1, i2⟩ := k_178_71 300 _ _ _ _ v g g' h4 e
      intro r k hr
      by_cases hh : r = 114 ∧ (k : Int) < (g 113 3).toInt
      · obtain ⟨rfl, hh⟩ := hh
        rw [i2 k hh, hs k (by omega) hh]
      · exact i1 r k hh
    · have q := zc_geF hc
      have y0 := zi_add (x := 0) (y := x3) (by omega) (by omega)
      have y1 := zi_add (x := x3) (y := 1) (by omega) (by omega)
      replace e := zb_bind e
      obtain ⟨k21, h21, e⟩ := e
      have b21 := zm_ix_ko h21
      replace e := zb_bind e
      obtain ⟨k23, h23, e⟩ := e
      have b23 := zm_ix_ko h23
      obtain rfl : k21 = n := by omega
      obtain rfl : k23 = k21 := by omega
      replace e := zb_let e
      obtain ⟨g22, h22, e⟩ := e
      have u3 : g22 113 3 = g 113 3 := zg_fr h22 113 3 (by omega)
      intro r k hr
      rw [ih (x2 * 3) (x3 + 1) v (k23 + 1) g22 g' (by omega) (by rw [u3]; exact h0) (by rw [u3]; exact h4) (fun k h1 h2 => ?_) e r k hr, zg_fr h22 r k (by omega)]
      rw [u3] at h2
      rw [zg_fr h22 114 k (by omega)]
      by_cases hh : k = k23
      · subst hh
        rw [← h22]
        exact zg_ue
      · rw [zg_fr h22 118 k (by omega)]
        exact hs k (by omega) h2
theorem k_178 {x1 v : Int32} {g g' : G} (h0 : 0 ≤ (g 113 3).toInt) (h4 : (g 113 3).toInt ≤ 4) (e : d_178 x1 g = some (v, g')) : ∀ r k, r ≠ 118 → g' r k = g r k := by
  unfold d_178 at e
  replace e := zb_let e
  obtain ⟨v1, h1, e⟩ := e
  replace e := zb_if e
  rcases e with ⟨_, e⟩ | ⟨_, e⟩
  · exact k_178_27 300 1 0 v 0 g g' (by decide) h0 h4 (fun k h _ => by omega) e
  · replace e := zb_let e
    obtain ⟨v24, h24, e⟩ := e
    replace e := zb_if e
    rcases e with ⟨_, e⟩ | ⟨_, e⟩
    · exact k_178_27 300 1 0 v 0 g g' (by decide) h0 h4 (fun k h _ => by omega) e
    · obtain ⟨_, e2⟩ := zb_r2 e
      subst e2
      exact fun _ _ _ => rfl
