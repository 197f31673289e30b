/-! the text: a line, as the reference reads it -/
section ML
variable {m m1 m5 g g' : G} {k s x1 s1 v : Int32}
/-- behind all that is asked of the NAME -/
def zt_body (x1 : Int32) (g10 : G) : Option G :=
  Option.bind (d_119 g10) fun g11 =>
  bif zm_cmp .le (g11 113 19) 0 then (
    Option.bind (d_127 x1 g11) fun g13 => zt_tail g13) else
  some g11
theorem t_128_91 (e : d_128_91 x1 s1 g = some g') : ∃ t, ((x1.toInt = 0 ∨ (d_113 s1 4 g 113 7).toInt ≠ 0) → t = 1) ∧ (x1.toInt ≠ 0 ∧ (d_113 s1 4 g 113 7).toInt = 0 → t = 0) ∧ zt_body x1 (zg_up (d_113 s1 4 g) 113 7 t) = some g' := by
  unfold d_128_91 at e
  have L0 := zl_0
  replace e := zb_let e
  obtain ⟨g8, h8, e⟩ := e
  rw [h8]
  replace e := zb_if e
  rcases e with ⟨hc, e⟩ | ⟨hc, e⟩
  · have q := zc_neT hc
    exact ⟨1, fun _ => rfl, fun w => by omega, e⟩
  · have q := zc_neF hc
    replace e := zb_if e
    rcases e with ⟨hc2, e⟩ | ⟨hc2, e⟩
    · have q2 := zc_neT hc2
      exact ⟨0, fun w => by omega, fun _ => rfl, e⟩
    · have q2 := zc_neF hc2
      exact ⟨1, fun _ => rfl, fun w => by omega, e⟩
theorem body_f (h : 0 < (g 113 19).toInt) (e : zt_body x1 g = some g') : g' = g := by
  unfold zt_body at e
  have L0 := zl_0
  replace e := zb_bind e
  obtain ⟨g11, h11, e⟩ := e
  have e11 := t_119s h h11
  subst e11
  replace e := zb_if e
  rcases e with ⟨hc, e⟩ | ⟨hc, e⟩
  · have := zc_leT hc
    exfalso
    omega
  · exact (zb_r1 e).symm
theorem t_128_91f (h : 0 < (g 113 19).toInt) (e : d_128_91 x1 s1 g = some g') : g' 113 19 = g 113 19 ∧ g' 113 20 = g 113 20 := by
  obtain ⟨t, _, _, e⟩ := t_128_91 e
  rw [t_113b (by omega)] at e
  have u : zg_up g 113 7 t 113 19 = g 113 19 := zg_un (by omega)
  have := body_f (by rw [u]; exact h) e
  rw [this]
  exact ⟨u, zg_un (by omega)⟩
/-- the three ends of what is asked -/
theorem t_128_e (hk : k.toInt ≠ 0 ∨ (g 113 7).toInt = 0) (e : (bif zm_cmp .ne k 0 then d_128_91 k 1 g else bif zm_cmp .ne (g 113 7) 0 then d_128_91 k 0 g else d_128_91 k 1 g) = some g') : d_128_91 k 1 g = some g' := by
  have L0 := zl_0
  replace e := zb_if e
  rcases e with ⟨hc, e⟩ | ⟨hc, e⟩
  · exact e
  · have q := zc_neF hc
    replace e := zb_if e
    rcases e with ⟨hc2, e⟩ | ⟨hc2, e⟩
    · have q2 := zc_neT hc2
      exfalso
      omega
    · exact e
theorem t_128_ef (h : 0 < (g 113 19).toInt) (e : (bif zm_cmp .ne k 0 then d_128_91 k 1 g else bif zm_cmp .ne (g 113 7) 0 then d_128_91 k 0 g else d_128_91 k 1 g) = some g') : g' 113 19 = g 113 19 ∧ g' 113 20 = g 113 20 := by
  replace e := zb_if e
  rcases e with ⟨hc, e⟩ | ⟨hc, e⟩
  · exact t_128_91f h e
  · replace e := zb_if e
    rcases e with ⟨hc2, e⟩ | ⟨hc2, e⟩
    · exact t_128_91f h e
    · exact t_128_91f h e
theorem t_128_e4 (h19 : (g 113 19).toInt = 0) (hk : k.toInt = 0) (h7 : (g 113 7).toInt ≠ 0) (e : (bif zm_cmp .ne k 0 then d_128_91 k 1 g else bif zm_cmp .ne (g 113 7) 0 then d_128_91 k 0 g else d_128_91 k 1 g) = some g') : (g' 113 19).toInt = 4 ∧ g' 113 20 = g 113 16 := by
  have L0 := zl_0
  replace e := zb_if e
  rcases e with ⟨hc, e⟩ | ⟨hc, e⟩
  · have := zc_neT hc
    exfalso
    omega
  · replace e := zb_if e
    rcases e with ⟨hc2, e⟩ | ⟨hc2, e⟩
    · obtain ⟨t, _, _, e⟩ := t_128_91 e
      rw [t_113c (by decide) h19] at e
      have u : zg_up (zg_up (zg_up g 113 19 4) 113 20 (g 113 16)) 113 7 t 113 19 = 4 := by rw [zg_un (by omega), zg_un (by omega)]; exact zg_ue
      have r := body_f (by rw [u]; decide) e
      rw [r]
      exact ⟨by rw [u]; decide, by rw [zg_un (by omega)]; exact zg_ue⟩
    · have := zc_neF hc2
      exfalso
      omega
theorem t_128_48f (h : 0 < (g 113 19).toInt) (e : d_128_48 k g = some g') : g' 113 19 = g 113 19 ∧ g' 113 20 = g 113 20 := by
  unfold d_128_48 at e
  replace e := zb_if e
  rcases e with ⟨hc, e⟩ | ⟨hc, e⟩
  · replace e := zb_let e
    obtain ⟨g6, h6, e⟩ := e
    rw [t_113b (by omega)] at h6
    subst h6
    exact t_128_ef h e
  · replace e := zb_if e
    rcases e with ⟨hc, e⟩ | ⟨hc, e⟩
    · replace e := zb_let e
      obtain ⟨g6, h6, e⟩ := e
      rw [t_113b (by omega)] at h6
      subst h6
      exact t_128_ef h e
    · replace e := zb_let e
      obtain ⟨g6, h6, e⟩ := e
      rw [t_113b (by omega)] at h6
      subst h6
      exact t_128_ef h e
/-- no line begins so -/
theorem rl_2 (h19 : (m 113 19).toInt = 0) (hk : k.toInt = -4) (e : d_128_17 k m = some m5) : (m5 113 19).toInt = 2 ∧ m5 113 20 = m 113 16 := by
  unfold d_128_17 at e
  have L1 := zl_1
  have Lm4 := zl_m4
  replace e := zb_if e
  rcases e with ⟨hc, e⟩ | ⟨hc, e⟩
  · replace e := zb_let e
    obtain ⟨g3, h3, e⟩ := e
    rw [t_113c (by decide) h19] at h3
    have u19 : g3 113 19 = 2 := by rw [← h3, zg_un (by omega)]; exact zg_ue
    have u20 : g3 113 20 = m 113 16 := by rw [← h3]; exact zg_ue
    replace e := zb_if e
    rcases e with ⟨hc, e⟩ | ⟨hc, e⟩
    · have r := t_128_48f (by rw [u19]; decide) e
      rw [r.1, r.2, u19, u20]
      exact ⟨by decide, rfl⟩
    · have := zc_neF hc
      exfalso
      omega
  · have := zc_eqF hc
    exfalso
    omega
/-- the 5th ONE, the 9th DEED -/
theorem rl_5 (h19 : (m 113 19).toInt = 0) (hk : (k.toInt = 1 ∧ 4 ≤ (m 113 6).toInt) ∨ (k.toInt = 2 ∧ 8 ≤ (m 116 8).toInt)) (e : d_128_17 k m = some m5) : (m5 113 19).toInt = 5 ∧ m5 113 20 = m 113 16 := by
  unfold d_128_17 at e
  have L1 := zl_1
  have L2 := zl_2
  have L4 := zl_4
  have L8 := zl_8
  have Lm4 := zl_m4
  have go : ∀ g53 m5, d_113 0 5 m = g53 → (bif zm_cmp .ne k 0 then d_128_91 k 1 g53 else bif zm_cmp .ne (g53 113 7) 0 then d_128_91 k 0 g53 else d_128_91 k 1 g53) = some m5 → (m5 113 19).toInt = 5 ∧ m5 113 20 = m 113 16 := by
    intro g53 m5 h53 e
    rw [t_113c (by decide) h19] at h53
    have u19 : g53 113 19 = 5 := by rw [← h53, zg_un (by omega)]; exact zg_ue
    have u20 : g53 113 20 = m 113 16 := by rw [← h53]; exact zg_ue
    have r := t_128_ef (by rw [u19]; decide) e
    rw [r.1, r.2, u19, u20]
    exact ⟨by decide, rfl⟩
  replace e := zb_if e
  rcases e with ⟨hc, e⟩ | ⟨hc, e⟩
  · have := zc_eqT hc
    exfalso
    omega
  · replace e := zb_let e
    obtain ⟨g56, h56, e⟩ := e
    rw [t_113a (by decide)] at h56
    subst h56
    replace e := zb_if e
    rcases e with ⟨hc, e⟩ | ⟨hc, e⟩
    · have q := zc_neT hc
      unfold d_128_48 at e
      replace e := zb_if e
      rcases e with ⟨hc, e⟩ | ⟨hc, e⟩
      · have := zc_neT hc
        exfalso
        omega
      · replace e := zb_if e
        rcases e with ⟨hc, e⟩ | ⟨hc, e⟩
        · replace e := zb_let e
          obtain ⟨g53, h53, e⟩ := e
          exact go g53 m5 h53 e
        · have := zc_geF hc
          exfalso
          omega
    · have q := zc_neF hc
      replace e := zb_if e
      rcases e with ⟨hc, e⟩ | ⟨hc, e⟩
      · replace e := zb_let e
        obtain ⟨g53, h53, e⟩ := e
        exact go g53 m5 h53 e
      · have := zc_geF hc
        exfalso
        omega
/-- what is asked, where it is not too many -/
theorem rl_ok (hk : 0 ≤ k.toInt) (h1 : k.toInt = 1 → (m 113 6).toInt < 4) (h2 : k.toInt = 2 → (m 116 8).toInt < 8) (e : d_128_17 k m = some m5) : (bif zm_cmp .ne k 0 then d_128_91 k 1 m else bif zm_cmp .ne (m 113 7) 0 then d_128_91 k 0 m else d_128_91 k 1 m) = some m5 := by
  unfold d_128_17 at e
  have L1 := zl_1
  have L2 := zl_2
  have L4 := zl_4
  have L8 := zl_8
  have Lm4 := zl_m4
  have go : ∀ m5, k.toInt ≠ 1 ∨ k.toInt = 1 → d_128_48 k m = some m5 → (bif zm_cmp .ne k 0 then d_128_91 k 1 m else bif zm_cmp .ne (m 113 7) 0 then d_128_91 k 0 m else d_128_91 k 1 m) = some m5 := by
    intro m5 _ e
    unfold d_128_48 at e
    replace e := zb_if e
    rcases e with ⟨hc, e⟩ | ⟨hc, e⟩
    · replace e := zb_let e
      obtain ⟨g6, h6, e⟩ := e
      rw [t_113a (by decide)] at h6
      subst h6
      exact e
    · have q := zc_neF hc
      replace e := zb_if e
      rcases e with ⟨hc, e⟩ | ⟨hc, e⟩
      · have := zc_geT hc
        exfalso
        omega
      · replace e := zb_let e
        obtain ⟨g6, h6, e⟩ := e
        rw [t_113a (by decide)] at h6
        subst h6
        exact e
  replace e := zb_if e
  rcases e with ⟨hc, e⟩ | ⟨hc, e⟩
  · have := zc_eqT hc
    exfalso
    omega
  · replace e := zb_let e
    obtain ⟨g56, h56, e⟩ := e
    rw [t_113a (by decide)] at h56
    subst h56
    replace e := zb_if e
    rcases e with ⟨hc, e⟩ | ⟨hc, e⟩
    · exact go m5 (by omega) e
    · have q := zc_neF hc
      replace e := zb_if e
      rcases e with ⟨hc, e⟩ | ⟨hc, e⟩
      · have := zc_geT hc
        exfalso
        omega
      · exact go m5 (by omega) e
theorem rl_4 (h19 : (m 113 19).toInt = 0) (hk : k.toInt = 0) (h7 : (m 113 7).toInt ≠ 0) (e : d_128_17 k m = some m5) : (m5 113 19).toInt = 4 ∧ m5 113 20 = m 113 16 :=
  t_128_e4 h19 hk h7 (rl_ok (by omega) (fun q => by omega) (fun q => by omega) e)
/-- a line's body: the NAME's place is left, then what it tells -/
theorem rl_body (hk : 0 ≤ k.toInt) (h1 : k.toInt = 1 → (m 113 6).toInt < 4) (h2 : k.toInt = 2 → (m 116 8).toInt < 8) (h0 : k.toInt = 0 → (m 113 7).toInt = 0) (h7 : m 113 7 = 0 ∨ m 113 7 = 1) (e : d_128_17 k m = some m5) : ∃ ma mb, (∀ r j, ¬ (r = 113 ∧ j = 7) → ma r j = m r j) ∧ (k.toInt = 0 → ma 113 7 = 1) ∧ (k.toInt ≠ 0 → ma 113 7 = m 113 7) ∧ d_119 ma = some mb ∧ ((0 < (mb 113 19).toInt ∧ m5 = mb) ∨ ((mb 113 19).toInt ≤ 0 ∧ ∃ mc, d_127 k mb = some mc ∧ zt_tail mc = some m5)) := by
  have L0 := zl_0
  have L1 := zl_1
  have e := rl_ok hk h1 h2 e
  have e := t_128_e (by omega) e
  obtain ⟨t, t1, t2, e⟩ := t_128_91 e
  rw [t_113a (by decide)] at t1 t2 e
  unfold zt_body at e
  replace e := zb_bind e
  obtain ⟨mb, hb, e⟩ := e
  refine ⟨_, mb, fun r j hn => zg_un hn, fun q => ?_, fun q => ?_, hb, ?_⟩
  · rw [zg_ue]
    exact t1 (by omega)
  · rw [zg_ue]
    rcases h7 with h7 | h7
    · rw [h7]
      exact t2 ⟨q, by rw [h7]; decide⟩
    · rw [h7]
      exact t1 (Or.inr (by rw [h7]; decide))
  · replace e := zb_if e
    rcases e with ⟨hc, e⟩ | ⟨hc, e⟩
    · have q := zc_leT hc
      replace e := zb_bind e
      obtain ⟨mc, hc, e⟩ := e
      exact Or.inr ⟨by omega, mc, hc, e⟩
    · have q := zc_leF hc
      exact Or.inl ⟨by omega, (zb_r1 e).symm⟩
end ML
