/-! the text: NUMBERS, the ; and what a line's end does -/
/-- the TOKEN at hand is the same -/
def AT (c m : G) : Prop := RA c m ∧ (c 28 2).toInt = 0 ∧ (m 113 19).toInt = 0 ∧ c 28 8 = m 113 17 ∧ c 28 9 = m 113 16 ∧ c 28 10 = m 113 15 ∧ 0 ≤ (c 28 9).toInt ∧ (c 28 9).toInt ≤ (c 28 10).toInt ∧ (c 28 10).toInt ≤ (c 28 1).toInt ∧ ((c 28 8).toInt = 2 → c 28 11 = m 113 18) ∧ 0 ≤ (c 28 8).toInt ∧ (c 28 8).toInt ≤ 3
/-- the next TOKEN is taken from the same place -/
def PT (c m : G) : Prop := RA c m ∧ (c 28 2).toInt = 0 ∧ (m 113 19).toInt = 0 ∧ c 28 10 = m 113 15 ∧ 0 ≤ (c 28 10).toInt ∧ (c 28 10).toInt ≤ (c 28 1).toInt
/-- both have the same FAULT -/
def FT (c m : G) : Prop := c 28 2 = m 113 19 ∧ 0 < (c 28 2).toInt ∧ c 28 3 = m 113 20
/-- what a TOKEN leaves as it is -/
def UC (c c1 : G) : Prop := ∀ r k, ¬ (r = 28 ∧ (k = 2 ∨ k = 3 ∨ (8 ≤ k ∧ k ≤ 11))) → c1 r k = c r k
def UM (m m1 : G) : Prop := ∀ r k, ¬ (r = 113 ∧ 15 ≤ k ∧ k ≤ 20) → m1 r k = m r k
section NUM
variable {c c1 c2 m m1 m2 m0 m5 : G} {b : Bool} {v x1 x2 : Int32}
theorem UC.refl : UC c c := fun _ _ _ => rfl
theorem UM.refl : UM m m := fun _ _ _ => rfl
theorem UC.trans (h : UC c c1) (h2 : UC c1 c2) : UC c c2 := fun r k hn => (h2 r k hn).trans (h r k hn)
theorem UM.trans (h : UM m m1) (h2 : UM m1 m2) : UM m m2 := fun r k hn => (h2 r k hn).trans (h r k hn)
theorem AT.pt (h : AT c m) : PT c m := ⟨h.1, h.2.1, h.2.2.1, h.2.2.2.2.2.1, by have := h.2.2.2.2.2.2.1; have := h.2.2.2.2.2.2.2.1; omega, h.2.2.2.2.2.2.2.2.1⟩
theorem f42u (e : d_42 c = some (b, c1)) : UC c c1 := fun r k hn => f_42 c (b, c1) e r k (by omega)
theorem f119u (e : d_119 m = some m1) : UM m m1 := fun r k hn => f_119 m m1 e r k (by omega)
theorem PT.tok (h : PT c m) (e : d_42 c = some (b, c1)) (f : d_119 m = some m1) : (b = true ∧ AT c1 m1 ∧ (c 28 10).toInt ≤ (c1 28 9).toInt ∧ ((c1 28 8).toInt ≠ 0 → (c1 28 9).toInt < (c1 28 10).toInt) ∧ ((c1 28 8).toInt = 0 → (c1 28 9).toInt = (c 28 1).toInt)) ∨ (b = false ∧ FT c1 m1) := by
  obtain ⟨hA, h2, h19, hp, h0, h1⟩ := h
  have F := f42u e
  have M := f119u f
  rcases tk hA hp h0 h1 h19 e f with ⟨a1, a2, a3, a4, a5, a6, a7, a8, a9, a10, a11, a12, a13, a14, a15⟩ | ⟨a1, a2, a3, a4⟩
  · have el := congrArg Int32.toInt (F 28 1 (by omega))
    exact Or.inl ⟨a1, ⟨hA.tk (fun r k hn => F r k (by omega)) (fun r k hn => M r k (by omega)), by rw [a3]; exact h2, a2, a4, a5, a6, a7, a8, by omega, a10, a11, a12⟩, a13, a14, a15⟩
  · exact Or.inr ⟨a1, Int32.toInt_inj.mp (by omega), by omega, a4⟩
theorem t_40 (e : d_40 x1 x2 c = (b, c1)) : ((c 28 8).toInt = 2 ∧ (x1.toInt ≤ (c 28 11).toInt ∧ (c 28 11).toInt ≤ x2.toInt) ∧ b = true ∧ c1 = c) ∨ ((c 28 8).toInt = 2 ∧ ¬ (x1.toInt ≤ (c 28 11).toInt ∧ (c 28 11).toInt ≤ x2.toInt) ∧ b = false ∧ c1 = zg_up (zg_up c 28 2 3) 28 3 (c 28 9)) ∨ ((c 28 8).toInt ≠ 2 ∧ b = false ∧ c1 = zg_up (zg_up c 28 2 2) 28 3 (c 28 9)) := by
  unfold d_40 at e
  have L2 := zl_2
  replace e := zb_if e
  rcases e with ⟨hc, e⟩ | ⟨hc, e⟩
  · have q := zc_eqT hc
    replace e := zb_if e
    rcases e with ⟨hc, e⟩ | ⟨hc, e⟩
    · have q2 := zc_ltT hc
      replace e := zb_pair e
      obtain ⟨v3, g4, h3, e⟩ := e
      rw [t_44] at h3
      obtain ⟨e1, e2⟩ := zb_q2 h3
      subst e1
      replace e := zb_if e
      rcases e with ⟨hc, e⟩ | ⟨hc, e⟩
      · cases hc
      · obtain ⟨f1, f2⟩ := zb_q2 e
        exact Or.inr (Or.inl ⟨by omega, by omega, f1.symm, by rw [← f2, ← e2]⟩)
    · have q2 := zc_ltF hc
      replace e := zb_if e
      rcases e with ⟨hc, e⟩ | ⟨hc, e⟩
      · have q3 := zc_leT hc
        obtain ⟨f1, f2⟩ := zb_q2 e
        exact Or.inl ⟨by omega, by omega, f1.symm, f2.symm⟩
      · have q3 := zc_leF hc
        replace e := zb_pair e
        obtain ⟨v3, g4, h3, e⟩ := e
        rw [t_44] at h3
        obtain ⟨e1, e2⟩ := zb_q2 h3
        subst e1
        replace e := zb_if e
        rcases e with ⟨hc, e⟩ | ⟨hc, e⟩
        · cases hc
        · obtain ⟨f1, f2⟩ := zb_q2 e
          exact Or.inr (Or.inl ⟨by omega, by omega, f1.symm, by rw [← f2, ← e2]⟩)
  · have q := zc_eqF hc
    replace e := zb_pair e
    obtain ⟨v3, g4, h3, e⟩ := e
    rw [t_44] at h3
    obtain ⟨e1, e2⟩ := zb_q2 h3
    obtain ⟨f1, f2⟩ := zb_q2 e
    exact Or.inr (Or.inr ⟨by omega, by rw [← f1, ← e1], by rw [← f2, ← e2]⟩)
theorem t_113x (h : d_113 x1 x2 m = m1) : m1 = m ∨ m1 = zg_up (zg_up m 113 19 x2) 113 20 (m 113 16) := by
  by_cases h1 : x1.toInt = 0
  · by_cases h2 : (m 113 19).toInt = 0
    · rw [t_113c h1 h2] at h
      exact Or.inr h.symm
    · rw [t_113b h2] at h
      exact Or.inl h.symm
  · rw [t_113a h1] at h
    exact Or.inl h.symm
theorem t_120 (e : d_120 x1 x2 m = (v, m1)) : ((m 113 19).toInt ≠ 0 ∧ v = 0 ∧ m1 = m) ∨ ((m 113 19).toInt = 0 ∧ (m 113 17).toInt ≠ 2 ∧ v = 0 ∧ m1 = zg_up (zg_up m 113 19 2) 113 20 (m 113 16)) ∨ ((m 113 19).toInt = 0 ∧ (m 113 17).toInt = 2 ∧ (x1.toInt ≤ (m 113 18).toInt ∧ (m 113 18).toInt ≤ x2.toInt) ∧ v = m 113 18 ∧ m1 = m) ∨ ((m 113 19).toInt = 0 ∧ (m 113 17).toInt = 2 ∧ ¬ (x1.toInt ≤ (m 113 18).toInt ∧ (m 113 18).toInt ≤ x2.toInt) ∧ v = 0 ∧ m1 = zg_up (zg_up m 113 19 3) 113 20 (m 113 16)) := by
  unfold d_120 at e
  have L0 := zl_0
  have L2 := zl_2
  replace e := zb_if e
  rcases e with ⟨hc, e⟩ | ⟨hc, e⟩
  · have q := zc_neT hc
    rw [hc, cond_true, cond_true] at e
    obtain ⟨f1, f2⟩ := zb_q2 e
    exact Or.inl ⟨by omega, f1.symm, f2.symm⟩
  · have q := zc_neF hc
    have z19 : (m 113 19).toInt = 0 := by omega
    replace e := zb_if e
    rcases e with ⟨hc2, e⟩ | ⟨hc2, e⟩
    · have q2 := zc_neT hc2
      replace e := zb_let e
      obtain ⟨g8, h8, e⟩ := e
      rw [t_113c (by decide) z19] at h8
      have u19 : (g8 113 19).toInt = 2 := by rw [← h8, zg_un (by omega), zg_ue]; decide
      have hn : zm_cmp .ne (g8 113 19) 0 = true := by
        cases hb : zm_cmp .ne (g8 113 19) 0 with
        | true => rfl
        | false =>
          have := zc_neF hb
          omega
      rw [hn, cond_true, cond_true] at e
      obtain ⟨f1, f2⟩ := zb_q2 e
      exact Or.inr (Or.inl ⟨z19, by omega, f1.symm, by rw [← f2, ← h8]⟩)
    · have q2 := zc_neF hc2
      replace e := zb_let e
      obtain ⟨g14, h14, e⟩ := e
      rw [t_113a (by decide)] at h14
      subst h14
      rw [hc, cond_false] at e
      replace e := zb_let e
      obtain ⟨v17, h17, e⟩ := e
      have b17 := zin_a (x1 := m 113 18) (zi_i64 x1) (zi_i64 x2)
      rw [h17] at b17
      replace e := zb_let e
      obtain ⟨g18, h18, e⟩ := e
      cases hb : v17 with
      | true =>
        have r := b17.mp hb
        rw [hb, t_113a (by decide)] at h18
        subst h18
        rw [hc, cond_false] at e
        obtain ⟨f1, f2⟩ := zb_q2 e
        exact Or.inr (Or.inr (Or.inl ⟨z19, by omega, r, f1.symm, f2.symm⟩))
      | false =>
        have r := zd_no b17 hb
        rw [hb, t_113c (by decide) z19] at h18
        have u19 : (g18 113 19).toInt = 3 := by rw [← h18, zg_un (by omega), zg_ue]; decide
        have hn : zm_cmp .ne (g18 113 19) 0 = true := by
          cases hb : zm_cmp .ne (g18 113 19) 0 with
          | true => rfl
          | false =>
            have := zc_neF hb
            omega
        rw [hn, cond_true] at e
        obtain ⟨f1, f2⟩ := zb_q2 e
        exact Or.inr (Or.inr (Or.inr ⟨z19, by omega, r, f1.symm, by rw [← f2, ← h18]⟩))
/-- a FAULT said on both sides -/
theorem FT.mk2 {n : Int32} (hn : 0 < n.toInt) (h : c 28 9 = m 113 16) : FT (zg_up (zg_up c 28 2 n) 28 3 (c 28 9)) (zg_up (zg_up m 113 19 n) 113 20 (m 113 16)) := by
  unfold FT
  rw [zg_un (r := 28) (k := 2) (by omega), zg_ue, zg_ue, zg_un (r := 113) (k := 19) (by omega), zg_ue, zg_ue]
  exact ⟨rfl, hn, h⟩
theorem AT.num (h : AT c m) (e : d_40 x1 x2 c = (b, c1)) (f : d_120 x1 x2 m = (v, m1)) : (b = true ∧ c1 = c ∧ m1 = m ∧ v = c 28 11 ∧ (c 28 8).toInt = 2 ∧ x1.toInt ≤ v.toInt ∧ v.toInt ≤ x2.toInt) ∨ (b = false ∧ FT c1 m1) := by
  obtain ⟨hA, h2, h19, h8, h9, h10, h0, h1, hl, h11, hk0, hk3⟩ := h
  have h8i := congrArg Int32.toInt h8
  rcases t_120 f with ⟨q, _⟩ | ⟨_, q, r1, r2⟩ | ⟨_, q, q2, r1, r2⟩ | ⟨_, q, q2, r1, r2⟩
  · exact absurd h19 q
  · rcases t_40 e with ⟨p, _⟩ | ⟨p, _⟩ | ⟨p, p2, p3⟩
    · exfalso
      omega
    · exfalso
      omega
    · rw [p3, r2]
      exact Or.inr ⟨p2, FT.mk2 (by decide) h9⟩
  · have h11 := h11 (by omega)
    have h11i := congrArg Int32.toInt h11
    rcases t_40 e with ⟨p, p1, p2, p3⟩ | ⟨p, p1, _⟩ | ⟨p, _⟩
    · exact Or.inl ⟨p2, p3, r2, r1.trans h11.symm, p, by rw [r1]; omega, by rw [r1]; omega⟩
    · exfalso
      omega
    · exfalso
      omega
  · have h11 := h11 (by omega)
    have h11i := congrArg Int32.toInt h11
    rcases t_40 e with ⟨p, p1, p2, p3⟩ | ⟨p, p1, p2, p3⟩ | ⟨p, _⟩
    · exfalso
      omega
    · rw [p3, r2]
      exact Or.inr ⟨p2, FT.mk2 (by decide) h9⟩
    · exfalso
      omega
theorem f40u (e : d_40 x1 x2 c = (b, c1)) : UC c c1 := by
  have F := f_40 x1 x2 c
  rw [e] at F
  exact fun r k hn => F r k (by omega)
theorem f120u (e : d_120 x1 x2 m = (v, m1)) : UM m m1 := by
  have F := f_120 x1 x2 m
  rw [e] at F
  exact fun r k hn => F r k (by omega)
theorem t_119s (h : 0 < (m 113 19).toInt) (f : d_119 m = some m1) : m1 = m := by
  unfold d_119 at f
  have L0 := zl_0
  replace f := zb_if f
  rcases f with ⟨hf, f⟩ | ⟨hf, f⟩
  · have := zc_leT hf
    exfalso
    omega
  · exact (zb_r1 f).symm
/-- a NUMBER is taken -/
theorem PT.num (h : PT c m0) (f0 : d_119 m0 = some m) (e : d_38 x1 x2 c = some (b, c1)) (f : d_120 x1 x2 m = (v, m1)) : UC c c1 ∧ ((b = true ∧ AT c1 m ∧ m1 = m ∧ v = c1 28 11 ∧ x1.toInt ≤ v.toInt ∧ v.toInt ≤ x2.toInt ∧ (c 28 10).toInt ≤ (c1 28 10).toInt) ∨ (b = false ∧ FT c1 m1)) := by
  unfold d_38 at e
  replace e := zb_bpair e
  obtain ⟨v1, g2, h1, e⟩ := e
  have F := f42u h1
  rcases h.tok h1 f0 with ⟨hb, hT, ha, _⟩ | ⟨hb, hF⟩
  · subst hb
    rw [cond_true] at e
    replace e := zb_pair e
    obtain ⟨v4, g5, h4, e⟩ := e
    have F4 := f40u h4
    rcases hT.num h4 f with ⟨q1, q2, q3, q4, q5, q6, q7⟩ | ⟨q1, q2⟩
    · subst q1
      rw [cond_true] at e
      obtain ⟨e1, e2⟩ := zb_r2 e
      subst e2
      subst q2
      have := hT.2.2.2.2.2.2.2.1
      exact ⟨F, Or.inl ⟨e1.symm, hT, q3, q4, q6, q7, by omega⟩⟩
    · subst q1
      rw [cond_false] at e
      obtain ⟨e1, e2⟩ := zb_r2 e
      subst e2
      exact ⟨F.trans F4, Or.inr ⟨e1.symm, q2⟩⟩
  · subst hb
    rw [cond_false] at e
    obtain ⟨e1, e2⟩ := zb_r2 e
    subst e2
    refine ⟨F, Or.inr ⟨e1.symm, ?_⟩⟩
    have q : (m 113 19).toInt ≠ 0 := by
      rw [← hF.1]
      have := hF.2.1
      omega
    rcases t_120 f with ⟨_, _, r⟩ | ⟨r, _⟩ | ⟨r, _⟩ | ⟨r, _⟩
    · rw [r]
      exact hF
    · exact absurd r q
    · exact absurd r q
    · exact absurd r q
end NUM
/-- the end of a line, as the reference does it -/
def zt_tail (g : G) : Option G :=
  bif zm_cmp .ne (g 113 19) 0 then (
    Option.bind (d_119 g) fun g15 =>
    some g15) else
  bif zm_cmp .ne (g 113 17) 3 then (
    zb_l (d_113 0 2 g) fun g17 =>
    Option.bind (d_119 g17) fun g18 =>
    some g18) else
  zb_l (d_113 1 2 g) fun g19 =>
  Option.bind (d_119 g19) fun g20 =>
  some g20
section TAIL
variable {c c1 c2 m m1 m2 m0 m5 : G} {b : Bool} {v x1 x2 : Int32}
theorem tail_f (h : 0 < (m 113 19).toInt) (f : zt_tail m = some m5) : m5 = m := by
  unfold zt_tail at f
  have L0 := zl_0
  replace f := zb_if f
  rcases f with ⟨hf, f⟩ | ⟨hf, f⟩
  · replace f := zb_bind f
    obtain ⟨g15, h15, f⟩ := f
    rw [t_119s h h15] at f
    exact (zb_r1 f).symm
  · have := zc_neF hf
    exfalso
    omega
theorem tail_3 (h : (m 113 19).toInt = 0) (h3 : (m 113 17).toInt = 3) (f : zt_tail m = some m5) : d_119 m = some m5 := by
  unfold zt_tail at f
  have L0 := zl_0
  have L3 := zl_3
  replace f := zb_if f
  rcases f with ⟨hf, f⟩ | ⟨hf, f⟩
  · have := zc_neT hf
    exfalso
    omega
  · replace f := zb_if f
    rcases f with ⟨hf, f⟩ | ⟨hf, f⟩
    · have := zc_neT hf
      exfalso
      omega
    · replace f := zb_let f
      obtain ⟨g19, h19, f⟩ := f
      rw [t_113a (by decide)] at h19
      subst h19
      replace f := zb_bind f
      obtain ⟨g20, h20, f⟩ := f
      rw [h20]
      exact f
theorem tail_n (h : (m 113 19).toInt = 0) (h3 : (m 113 17).toInt ≠ 3) (f : zt_tail m = some m5) : m5 = zg_up (zg_up m 113 19 2) 113 20 (m 113 16) := by
  unfold zt_tail at f
  have L0 := zl_0
  have L3 := zl_3
  replace f := zb_if f
  rcases f with ⟨hf, f⟩ | ⟨hf, f⟩
  · have := zc_neT hf
    exfalso
    omega
  · replace f := zb_if f
    rcases f with ⟨hf, f⟩ | ⟨hf, f⟩
    · replace f := zb_let f
      obtain ⟨g17, h17, f⟩ := f
      rw [t_113c (by decide) h] at h17
      replace f := zb_bind f
      obtain ⟨g18, h18, f⟩ := f
      have u19 : (g17 113 19).toInt = 2 := by rw [← h17, zg_un (by omega), zg_ue]; decide
      rw [t_119s (by omega) h18] at f
      rw [← zb_r1 f, ← h17]
    · have := zc_neF hf
      exfalso
      omega
/-- the reference's state is changed where no TOKEN is told -/
def UT (m m1 : G) : Prop := ∀ r k, (r = 113 ∧ 14 ≤ k ∧ k ≤ 20) ∨ r = 117 → m1 r k = m r k
theorem AT.ut (h : AT c m) (u : UT m m1) : AT c m1 := by
  obtain ⟨hA, h2, h19, h8, h9, h10, h0, h1, hl, h11, hk⟩ := h
  exact ⟨hA.congr (fun _ _ _ => rfl) (fun r k hr => u r k (by omega)), h2, by rw [u 113 19 (by omega)]; exact h19, by rw [u 113 17 (by omega)]; exact h8, by rw [u 113 16 (by omega)]; exact h9, by rw [u 113 15 (by omega)]; exact h10, h0, h1, hl, fun q => by rw [u 113 18 (by omega)]; exact h11 q, hk⟩
theorem FT.ut (h : FT c m) (u : UT m m1) : FT c m1 := by
  unfold FT at *
  rw [u 113 19 (by omega), u 113 20 (by omega)]
  exact h
theorem AT.uc (h : AT c m) (u : ∀ r k, (r = 28 ∧ (k = 1 ∨ k = 2 ∨ 8 ≤ k)) ∨ r = 29 → c1 r k = c r k) : AT c1 m := by
  obtain ⟨hA, h2, h19, h8, h9, h10, h0, h1, hl, h11, hk⟩ := h
  unfold AT
  rw [u 28 2 (by omega), u 28 8 (by omega), u 28 9 (by omega), u 28 10 (by omega), u 28 1 (by omega), u 28 11 (by omega)]
  exact ⟨hA.congr (fun r k hr => u r k (by omega)) (fun _ _ _ => rfl), h2, h19, h8, h9, h10, h0, h1, hl, h11, hk⟩
theorem PT.uc (h : PT c m) (u : ∀ r k, (r = 28 ∧ (k = 1 ∨ k = 2 ∨ k = 10)) ∨ r = 29 → c1 r k = c r k) : PT c1 m := by
  obtain ⟨hA, h2, h19, h10, h0, h1⟩ := h
  unfold PT
  rw [u 28 2 (by omega), u 28 10 (by omega), u 28 1 (by omega)]
  exact ⟨hA.congr (fun r k hr => u r k (by omega)) (fun _ _ _ => rfl), h2, h19, h10, h0, h1⟩
theorem PT.um (h : PT c m) (u : UT m m1) : PT c m1 := by
  obtain ⟨hA, h2, h19, h10, h0, h1⟩ := h
  exact ⟨hA.congr (fun _ _ _ => rfl) (fun r k hr => u r k (by omega)), h2, by rw [u 113 19 (by omega)]; exact h19, by rw [u 113 15 (by omega)]; exact h10, h0, h1⟩
/-- a NUMBER is taken; the reference has told something meanwhile -/
theorem PT.num2 {mq : G} (h : PT c m0) (f0 : d_119 m0 = some mq) (u : UT mq m) (e : d_38 x1 x2 c = some (b, c1)) (f : d_120 x1 x2 m = (v, m1)) : UC c c1 ∧ ((b = true ∧ AT c1 m ∧ m1 = m ∧ v = c1 28 11 ∧ x1.toInt ≤ v.toInt ∧ v.toInt ≤ x2.toInt ∧ (c 28 10).toInt ≤ (c1 28 10).toInt) ∨ (b = false ∧ FT c1 m1)) := by
  unfold d_38 at e
  replace e := zb_bpair e
  obtain ⟨v1, g2, h1, e⟩ := e
  have F := f42u h1
  rcases h.tok h1 f0 with ⟨hb, hT, ha, _⟩ | ⟨hb, hF⟩
  · subst hb
    rw [cond_true] at e
    replace hT := hT.ut u
    replace e := zb_pair e
    obtain ⟨v4, g5, h4, e⟩ := e
    have F4 := f40u h4
    rcases hT.num h4 f with ⟨q1, q2, q3, q4, q5, q6, q7⟩ | ⟨q1, q2⟩
    · subst q1
      rw [cond_true] at e
      obtain ⟨e1, e2⟩ := zb_r2 e
      subst e2
      subst q2
      have := hT.2.2.2.2.2.2.2.1
      exact ⟨F, Or.inl ⟨e1.symm, hT, q3, q4, q6, q7, by omega⟩⟩
    · subst q1
      rw [cond_false] at e
      obtain ⟨e1, e2⟩ := zb_r2 e
      subst e2
      exact ⟨F.trans F4, Or.inr ⟨e1.symm, q2⟩⟩
  · subst hb
    rw [cond_false] at e
    obtain ⟨e1, e2⟩ := zb_r2 e
    subst e2
    replace hF := hF.ut u
    refine ⟨F, Or.inr ⟨e1.symm, ?_⟩⟩
    have q : (m 113 19).toInt ≠ 0 := by
      rw [← hF.1]
      have := hF.2.1
      omega
    rcases t_120 f with ⟨_, _, r⟩ | ⟨r, _⟩ | ⟨r, _⟩ | ⟨r, _⟩
    · rw [r]
      exact hF
    · exact absurd r q
    · exact absurd r q
    · exact absurd r q
/-- the ; that ends a line -/
theorem PT.semi (h : PT c m0) (f0 : d_119 m0 = some m) (u : UT m m1) (e : d_39 c = some (b, c1)) (f : zt_tail m1 = some m5) : UC c c1 ∧ ((b = true ∧ PT c1 m1 ∧ d_119 m1 = some m5 ∧ (c 28 10).toInt ≤ (c1 28 10).toInt) ∨ (b = false ∧ FT c1 m5)) := by
  unfold d_39 at e
  have L3 := zl_3
  replace e := zb_bpair e
  obtain ⟨v1, g2, h1, e⟩ := e
  have F := f42u h1
  rcases h.tok h1 f0 with ⟨hb, hT, ha, _⟩ | ⟨hb, hF⟩
  · subst hb
    rw [cond_true] at e
    have hT1 := hT.ut u
    have h17 := congrArg Int32.toInt hT1.2.2.2.1
    have hle := hT.2.2.2.2.2.2.2.1
    replace e := zb_if e
    rcases e with ⟨hc, e⟩ | ⟨hc, e⟩
    · have q := zc_eqT hc
      obtain ⟨e1, e2⟩ := zb_r2 e
      subst e2
      exact ⟨F, Or.inl ⟨e1.symm, hT1.pt, tail_3 hT1.2.2.1 (by omega) f, by omega⟩⟩
    · have q := zc_eqF hc
      replace e := zb_pair e
      obtain ⟨v5, g6, h5, e⟩ := e
      rw [t_44] at h5
      obtain ⟨e1, e2⟩ := zb_q2 h5
      subst e1
      rw [cond_false] at e
      obtain ⟨e3, e4⟩ := zb_r2 e
      subst e4
      rw [tail_n hT1.2.2.1 (by omega) f, ← e2]
      refine ⟨fun r k hn => ?_, Or.inr ⟨e3.symm, FT.mk2 (by decide) hT1.2.2.2.2.1⟩⟩
      rw [zg_un (by omega), zg_un (by omega)]
      exact F r k hn
  · subst hb
    rw [cond_false] at e
    obtain ⟨e1, e2⟩ := zb_r2 e
    subst e2
    have hF1 := hF.ut u
    have q : 0 < (m1 113 19).toInt := by rw [← hF1.1]; exact hF1.2.1
    rw [tail_f q f]
    exact ⟨F, Or.inr ⟨e1.symm, hF1⟩⟩
end TAIL
