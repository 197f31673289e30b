/-! the text: TOKENS -/
section TOK
variable {c m c' m' g g' : G} {x x1 x2 v : Int32}
theorem t_114 (e : d_114 x g = some v) : ((g 113 14).toInt ≤ x.toInt ∧ v.toInt = -1) ∨ (x.toInt < (g 113 14).toInt ∧ ∃ k : Nat, (k : Int) = x.toInt ∧ v = g 117 k) := by
  unfold d_114 at e
  have Lm1 := zl_m1
  replace e := zb_if e
  rcases e with ⟨hc, e⟩ | ⟨hc, e⟩
  · have c1 := zc_geT hc
    have e1 := zb_r1 e
    subst e1
    exact Or.inl ⟨c1, by decide⟩
  · have c1 := zc_geF hc
    replace e := zb_bind e
    obtain ⟨k, hk, e⟩ := e
    have b := zm_ix_ko hk
    exact Or.inr ⟨c1, k, b.1, (zb_r1 e).symm⟩
theorem t_113a (h : x1.toInt ≠ 0) : d_113 x1 x2 g = g := by
  have : zm_cmp .ne x1 0 = true := by
    cases hb : zm_cmp .ne x1 0 with
    | true => rfl
    | false => exact absurd ((zc_neF hb).trans zl_0) h
  unfold d_113
  rw [this]
  rfl
theorem t_113b (h : (g 113 19).toInt ≠ 0) : d_113 x1 x2 g = g := by
  have : zm_cmp .ne (g 113 19) 0 = true := by
    cases hb : zm_cmp .ne (g 113 19) 0 with
    | true => rfl
    | false => exact absurd ((zc_neF hb).trans zl_0) h
  unfold d_113
  rw [this]
  cases zm_cmp .ne x1 0 <;> rfl
theorem t_113c (h1 : x1.toInt = 0) (h2 : (g 113 19).toInt = 0) : d_113 x1 x2 g = zg_up (zg_up g 113 19 x2) 113 20 (g 113 16) := by
  have e1 : zm_cmp .ne x1 0 = false := by
    cases hb : zm_cmp .ne x1 0 with
    | false => rfl
    | true => exact absurd (h1.trans zl_0.symm) (zc_neT hb)
  have e2 : zm_cmp .ne (g 113 19) 0 = false := by
    cases hb : zm_cmp .ne (g 113 19) 0 with
    | false => rfl
    | true => exact absurd (h2.trans zl_0.symm) (zc_neT hb)
  unfold d_113
  rw [e1, e2]
  rfl
/-- what stands still while a TOKEN is read -/
theorem RA.tk (h : RA c m) (hc : ∀ r k, ¬ (r = 28 ∧ k ≠ 1) → c' r k = c r k) (hm : ∀ r k, ¬ (r = 113 ∧ k ≠ 14) → m' r k = m r k) : RA c' m' := h.congr (fun r k hr => hc r k (by omega)) (fun r k hr => hm r k (by omega))
/-- the place p of THE TAPE: its byte on the class's side (-1 behind the end) -/
def tb (c : G) (p : Int) : Int := if p < (c 28 1).toInt then (c 29 p.toNat).toInt else -1
theorem tb_in {k : Nat} {p : Int} (hk : (k : Int) = p) (hp : p < (c 28 1).toInt) : tb c p = (c 29 k).toInt := by
  unfold tb
  rw [if_pos hp, ← hk, Int.toNat_natCast]
theorem tb_out {p : Int} (hp : (c 28 1).toInt ≤ p) : tb c p = -1 := by
  unfold tb
  rw [if_neg (by omega)]
theorem tb_up {k : Nat} (hk : k ≠ 1) (p : Int) : tb (zg_up c 28 k v) p = tb c p := by
  unfold tb
  rw [zg_un (r := 28) (k := 1) (by omega), zg_un (r := 29) (by omega)]
theorem tb_cg (h : ∀ r k, ¬ (r = 28 ∧ k ≠ 1) → c' r k = c r k) (p : Int) : tb c' p = tb c p := by
  unfold tb
  rw [h 28 1 (by omega), h 29 _ (by omega)]
theorem tb_m (h : RA c m) (e : d_114 x m = some v) (hx : 0 ≤ x.toInt) : v.toInt = tb c x.toInt ∧ -1 ≤ v.toInt ∧ v.toInt ≤ 127 ∧ ((c 28 1).toInt ≤ x.toInt → v.toInt = -1) ∧ (x.toInt < (c 28 1).toInt → 0 ≤ v.toInt) := by
  have hl := congrArg Int32.toInt h.1
  rcases t_114 e with ⟨h1, h2⟩ | ⟨h1, k, h2, h3⟩
  · rw [tb_out (by omega)]
    omega
  · have q := h.2.2.2 k (by omega)
    rw [tb_in (k := k) h2 (by omega), q.1, ← h3]
    have q1 := congrArg Int32.toInt q.1
    rw [h3]
    omega
end TOK
/-- figures -/
theorem tk_fig : ∀ (f : Nat) (x1 v : Int32) (c c1 m m1 : G) (s : Int), RA c m → c 28 10 = m 113 15 → (m 113 16).toInt = s → 0 ≤ s → s ≤ (c 28 10).toInt → (c 28 10).toInt ≤ (c 28 1).toInt → (m 113 19).toInt = 0 →
    ((c 28 10).toInt ≤ s + 2 → x1 = m 113 18) → ((c 28 10).toInt = s → x1.toInt = 0) → ((c 28 10).toInt = s + 1 → 0 ≤ x1.toInt ∧ x1.toInt ≤ 9) → ((c 28 10).toInt = s + 2 → 0 ≤ x1.toInt ∧ x1.toInt ≤ 99) →
    d_43_2 f x1 c = some (v, c1) → d_119_140 f m = some m1 →
    m1 113 16 = m 113 16 ∧ m1 113 17 = m 113 17 ∧ c1 28 10 = m1 113 15 ∧ (c 28 10).toInt ≤ (c1 28 10).toInt ∧ (c1 28 10).toInt ≤ (c 28 1).toInt ∧
    ((c1 28 10).toInt ≤ s + 2 → v = m1 113 18 ∧ m1 113 19 = m 113 19) ∧ (s + 2 < (c1 28 10).toInt → (m1 113 19).toInt = 1 ∧ m1 113 20 = m 113 16) ∧
    (48 ≤ tb c (c 28 10).toInt ∧ tb c (c 28 10).toInt ≤ 57 → (c 28 10).toInt < (c1 28 10).toInt) := by
  intro f
  induction f with
  | zero =>
    intro x1 v c c1 m m1 s _ _ _ _ _ _ _ _ _ _ _ e _
    rw [d_43_2.eq_1] at e
    cases e
  | succ f ih =>
    intro x1 v c c1 m m1 s hA hp hs hs0 hs1 hs2 h19 hv hv0 hv1 hv2 e f'
    rw [d_43_2.eq_2] at e
    rw [d_119_140.eq_2] at f'
    have L0 := zl_0
    have L1 := zl_1
    have L2 := zl_2
    have L10 := zl_10
    have L48 := zl_48
    have L57 := zl_57
    have hpi := congrArg Int32.toInt hp
    have hli := congrArg Int32.toInt hA.1
    have hlb := hA.2.2.1
    replace f' := zb_bind f'
    obtain ⟨v19, hv19, f'⟩ := f'
    have t19 := tb_m hA hv19 (by omega)
    rw [← hpi] at t19
    replace f' := zb_let f'
    obtain ⟨v20, hv20, f'⟩ := f'
    have b20 := zin_a (x1 := v19) (show (48 : Int64).toInt = 48 from by decide) (show (57 : Int64).toInt = 57 from by decide)
    rw [hv20] at b20
    have yd := zi_sub (x := m 113 15) (y := m 113 16) (by omega) (by omega)
    -- the class goes on just where the reference does
    have step : (v20 = true ∧ ∃ k : Nat, (k : Int) = (c 28 10).toInt ∧ (c 28 10).toInt < (c 28 1).toInt ∧ (c 29 k).toInt = v19.toInt ∧ ∃ g7, zg_up c 28 10 (c 28 10 + 1) = g7 ∧ d_43_2 f (((10 * x1) + (c 29 k)) - 48) g7 = some (v, c1)) ∨ (v20 = false ∧ x1 = v ∧ c = c1) := by
      replace e := zb_if e
      rcases e with ⟨hc, e⟩ | ⟨hc, e⟩
      · have q := zc_geT hc
        obtain ⟨e1, e2⟩ := zb_r2 e
        refine Or.inr ⟨?_, e1, e2⟩
        cases hb : v20 with
        | false => rfl
        | true =>
          have := b20.mp hb
          exfalso
          omega
      · have q := zc_geF hc
        replace e := zb_bind e
        obtain ⟨k2, hk2, e⟩ := e
        have b2 := zm_ix_ko hk2
        have t := tb_in (c := c) (k := k2) b2.1 q
        replace e := zb_if e
        rcases e with ⟨hc, e⟩ | ⟨hc, e⟩
        · have q := zc_ltT hc
          obtain ⟨e1, e2⟩ := zb_r2 e
          refine Or.inr ⟨?_, e1, e2⟩
          cases hb : v20 with
          | false => rfl
          | true =>
            have := b20.mp hb
            exfalso
            omega
        · have q2 := zc_ltF hc
          replace e := zb_bind e
          obtain ⟨k4, hk4, e⟩ := e
          have b4 := zm_ix_ko hk4
          obtain rfl : k4 = k2 := by omega
          replace e := zb_if e
          rcases e with ⟨hc, e⟩ | ⟨hc, e⟩
          · have q := zc_gtT hc
            obtain ⟨e1, e2⟩ := zb_r2 e
            refine Or.inr ⟨?_, e1, e2⟩
            cases hb : v20 with
            | false => rfl
            | true =>
              have := b20.mp hb
              exfalso
              omega
          · have q3 := zc_gtF hc
            replace e := zb_bind e
            obtain ⟨k6, hk6, e⟩ := e
            have b6 := zm_ix_ko hk6
            obtain rfl : k6 = k4 := by omega
            replace e := zb_let e
            obtain ⟨g7, hg7, e⟩ := e
            exact Or.inl ⟨b20.mpr (by omega), k6, b6.1, q, by omega, g7, hg7, e⟩
    rcases step with ⟨hb, k, hk, hlt, hkv, g7, hg7, e⟩ | ⟨hb, e1, e2⟩
    · have hr := b20.mp hb
      replace f' := zb_if f'
      rcases f' with ⟨hc, f'⟩ | ⟨hc, f'⟩
      · have yp := zi_add (x := c 28 10) (y := 1) (by omega) (by omega)
        have u1 : g7 28 10 = c 28 10 + 1 := by rw [← hg7]; exact zg_ue
        have u2 : g7 28 1 = c 28 1 := zg_fr hg7 28 1 (by omega)
        have a7 : ∀ r k, ¬ (r = 28 ∧ k ≠ 1) → g7 r k = c r k := fun r k hn => zg_fr hg7 r k (by omega)
        -- the reference's next state, in either case
        have nx : ∃ m2, d_119_140 f m2 = some m1 ∧ (∀ r k, ¬ (r = 113 ∧ (k = 15 ∨ k = 18)) → m2 r k = m r k) ∧ m2 113 15 = m 113 15 + 1 ∧ ((m 113 15).toInt - (m 113 16).toInt < 2 → m2 113 18 = ((10 * (m 113 18)) + v19) - 48) := by
          replace f' := zb_if f'
          rcases f' with ⟨hc2, f'⟩ | ⟨hc2, f'⟩
          · have q := zc_geT hc2
            replace f' := zb_let f'
            obtain ⟨g26, h26, f'⟩ := f'
            replace f' := zb_let f'
            obtain ⟨g27, h27, f'⟩ := f'
            refine ⟨g27, f', fun r k hn => (zg_fr h27 r k (by omega)).trans (zg_fr h26 r k (by omega)), ?_, fun q2 => by omega⟩
            rw [← h27, zg_ue, zg_fr h26 113 15 (by omega)]
          · have q := zc_geF hc2
            replace f' := zb_bind f'
            obtain ⟨v28, hv28, f'⟩ := f'
            obtain rfl : v28 = v19 := Option.some.inj (hv28.symm.trans hv19)
            replace f' := zb_let f'
            obtain ⟨g29, h29, f'⟩ := f'
            replace f' := zb_let f'
            obtain ⟨g30, h30, f'⟩ := f'
            refine ⟨g30, f', fun r k hn => (zg_fr h30 r k (by omega)).trans (zg_fr h29 r k (by omega)), ?_, fun q2 => ?_⟩
            · rw [← h30, zg_ue, zg_fr h29 113 15 (by omega)]
            · rw [zg_fr h30 113 18 (by omega), ← h29]
              exact zg_ue
        obtain ⟨m2, f', a2, b15, b18⟩ := nx
        have w19 : c 29 k = v19 := Int32.toInt_inj.mp hkv
        have n16 : m2 113 16 = m 113 16 := a2 113 16 (by omega)
        have n17 : m2 113 17 = m 113 17 := a2 113 17 (by omega)
        have n19 : m2 113 19 = m 113 19 := a2 113 19 (by omega)
        have vb : (c 28 10).toInt ≤ s + 1 → (((10 * x1) + (c 29 k)) - 48).toInt = 10 * x1.toInt + v19.toInt - 48 := fun q => by
          have y1 := zi_mul (x := 10) (y := x1) (n := 10) (by decide) (by omega) (by omega)
          have y2 := zi_add (x := 10 * x1) (y := c 29 k) (by omega) (by omega)
          have y3 := zi_sub (x := 10 * x1 + c 29 k) (y := 48) (by omega) (by omega)
          omega
        have u1i := congrArg Int32.toInt u1
        have u2i := congrArg Int32.toInt u2
        obtain ⟨r1, r2, r3, r4, r5, r6, r7, r8⟩ := ih (((10 * x1) + (c 29 k)) - 48) v g7 c1 m2 m1 s (hA.tk a7 (fun r k hn => a2 r k (by omega))) (by rw [u1, b15, hp]) (by rw [n16]; exact hs) hs0 (by omega) (by omega) (by rw [n19]; exact h19)
          (fun q => by rw [b18 (by omega), hv (by omega), w19]) (fun q => by omega) (fun q => by have := vb (by omega); have := hv0 (by omega); omega) (fun q => by have := vb (by omega); have := hv1 (by omega); omega) e f'
        refine ⟨r1.trans n16, r2.trans n17, r3, by omega, by omega, fun q => ⟨(r6 q).1, (r6 q).2.trans n19⟩, fun q => ⟨(r7 q).1, (r7 q).2.trans n16⟩, fun q => by omega⟩
      · rw [hb] at hc
        cases hc
    · subst e1
      subst e2
      have nr := zd_no b20 hb
      replace f' := zb_if f'
      rcases f' with ⟨hc, f'⟩ | ⟨hc, f'⟩
      · rw [hb] at hc
        cases hc
      · replace f' := zb_if f'
        rcases f' with ⟨hc2, f'⟩ | ⟨hc2, f'⟩
        · have q := zc_gtT hc2
          replace f' := zb_let f'
          obtain ⟨g23, h23, f'⟩ := f'
          have e1 := zb_r1 f'
          subst e1
          rw [t_113c (by decide) h19] at h23
          have a23 : ∀ k, k ≠ 19 → k ≠ 20 → g23 113 k = m 113 k := fun k h1 h2 => by rw [← h23, zg_un (by omega), zg_un (by omega)]
          have b19 : g23 113 19 = 1 := by rw [← h23, zg_un (by omega)]; exact zg_ue
          have b20' : g23 113 20 = m 113 16 := by rw [← h23]; exact zg_ue
          refine ⟨a23 16 (by omega) (by omega), a23 17 (by omega) (by omega), hp.trans (a23 15 (by omega) (by omega)).symm, by omega, hs2, fun q2 => by omega, fun _ => ⟨by rw [b19]; decide, b20'⟩, fun q2 => ?_⟩
          rw [← t19.1] at q2
          exact absurd q2 nr
        · have q := zc_gtF hc2
          replace f' := zb_let f'
          obtain ⟨g24, h24, f'⟩ := f'
          have e1 := zb_r1 f'
          subst e1
          rw [t_113a (by decide)] at h24
          subst h24
          refine ⟨rfl, rfl, hp, by omega, hs2, fun q2 => ⟨hv q2, rfl⟩, fun q2 => by omega, fun q2 => ?_⟩
          rw [← t19.1] at q2
          exact absurd q2 nr
