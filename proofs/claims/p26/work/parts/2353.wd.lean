/-! the text: NAMES that are words -/
def Wd (c : G) (w : Nat) : Prop := (c 28 10).toInt - (c 28 9).toInt = ((z_by w).length : Int) ∧ ∀ i : Nat, i < (z_by w).length → tb c ((c 28 9).toInt + i) = ((z_by w).getD i 0).toInt
theorem l_41_28 {w : Nat} (hw : w < 9) {c : G} (h0 : 0 ≤ (c 28 9).toInt) (hl : (c 28 9).toInt + (z_by w).length ≤ (c 28 1).toInt) (hb : (c 28 1).toInt ≤ 160) : ∀ (f : Nat) (x : Int32) (n : Nat) (b : Bool), x.toInt = n → n ≤ (z_by w).length → d_41_28 w c f x = some b → (b = true ↔ ∀ i, n ≤ i → i < (z_by w).length → tb c ((c 28 9).toInt + i) = ((z_by w).getD i 0).toInt) := by
  have hz := zs_lne hw
  intro f
  induction f with
  | zero =>
    intro x n b hx hn e
    rw [d_41_28.eq_1] at e
    cases e
  | succ f ih =>
    intro x n b hx hn e
    rw [d_41_28.eq_2] at e
    have L1 := zl_1
    replace e := zb_let e
    obtain ⟨v4, h4, e⟩ := e
    have h4i := congrArg Int32.toInt h4
    replace e := zb_if e
    rcases e with ⟨hc, e⟩ | ⟨hc, e⟩
    · have q := zc_geT hc
      have e1 := zb_r1 e
      subst e1
      exact ⟨fun _ i h1 h2 => by omega, fun _ => rfl⟩
    · have q := zc_geF hc
      have y1 := zi_add (x := c 28 9) (y := x) (by omega) (by omega)
      replace e := zb_bind e
      obtain ⟨k6, h6, e⟩ := e
      have b6 := zm_ix_ko h6
      replace e := zb_bind e
      obtain ⟨v7, h7, e⟩ := e
      have tv := tb_in (c := c) (k := k6) (p := (c 28 9).toInt + n) (by omega) (by omega)
      have c7 : v7 = (z_by w).getD n 0 := by
        unfold zs_ch at h7
        replace h7 := zb_bind h7
        obtain ⟨j, hj, h7⟩ := h7
        have bj := zm_ix_ko hj
        obtain rfl : j = n := by omega
        exact (zb_r1 h7).symm
      replace e := zb_if e
      rcases e with ⟨hc, e⟩ | ⟨hc, e⟩
      · have q2 := zc_eqT hc
        have y2 := zi_add (x := x) (y := 1) (by omega) (by omega)
        have r := ih (x + 1) (n + 1) b (by omega) (by omega) e
        refine r.trans ⟨fun h i h1 h2 => ?_, fun h i h1 h2 => h i (by omega) h2⟩
        by_cases hh : i = n
        · subst hh
          rw [tv, q2, c7]
        · exact h i (by omega) h2
      · have q2 := zc_eqF hc
        have e1 := zb_r1 e
        subst e1
        refine zd_f fun h => ?_
        have := h n (by omega) (by omega)
        rw [tv, ← c7] at this
        exact q2 this
theorem t_41 {w : Nat} (hw : w < 9) {c : G} {b : Bool} (h0 : 0 ≤ (c 28 9).toInt) (h1 : (c 28 9).toInt ≤ (c 28 10).toInt) (h2 : (c 28 10).toInt ≤ (c 28 1).toInt) (hb : (c 28 1).toInt ≤ 160) (e : d_41 w c = some b) : b = true ↔ (c 28 8).toInt = 1 ∧ Wd c w := by
  unfold d_41 at e
  have L1 := zl_1
  have L0 := zl_0
  have hz := zs_lne hw
  replace e := zb_if e
  rcases e with ⟨hc, e⟩ | ⟨hc, e⟩
  · have q := zc_neT hc
    have e1 := zb_r1 e
    subst e1
    exact zd_f fun h => by omega
  · have q := zc_neF hc
    replace e := zb_let e
    obtain ⟨v2, hv2, e⟩ := e
    have hv2i := congrArg Int32.toInt hv2
    have y := zi_sub (x := c 28 10) (y := c 28 9) (by omega) (by omega)
    replace e := zb_if e
    rcases e with ⟨hc, e⟩ | ⟨hc, e⟩
    · have q2 := zc_eqT hc
      have r := l_41_28 hw h0 (by omega) hb 300 0 0 b (by omega) (by omega) e
      exact r.trans ⟨fun h => ⟨by omega, by omega, fun i hi => h i (by omega) hi⟩, fun h i _ hi => h.2.2 i hi⟩
    · have q2 := zc_eqF hc
      have e1 := zb_r1 e
      subst e1
      exact zd_f fun h => by
        have := h.2.1
        omega
section WD2
variable {c m : G} {x1 x2 x3 x4 v : Int32} {r : Bool}
theorem t_115 (hA : RA c m) (h0 : 0 ≤ (m 113 16).toInt) (h1 : (m 113 16).toInt ≤ (m 113 15).toInt) (h2 : (m 113 15).toInt ≤ 160) (e : d_115 x1 x2 x3 x4 m = some r) : r = true ↔ ((m 113 15).toInt - (m 113 16).toInt = x1.toInt ∧ tb c (m 113 16).toInt = x2.toInt ∧ tb c ((m 113 16).toInt + 1) = x3.toInt ∧ tb c ((m 113 16).toInt + 2) = x4.toInt) := by
  unfold d_115 at e
  have L1 := zl_1
  have L2 := zl_2
  have y := zi_sub (x := m 113 15) (y := m 113 16) (by omega) (by omega)
  have y1 := zi_add (x := m 113 16) (y := 1) (by omega) (by omega)
  have y2 := zi_add (x := m 113 16) (y := 2) (by omega) (by omega)
  replace e := zb_if e
  rcases e with ⟨hc, e⟩ | ⟨hc, e⟩
  · have q := zc_neT hc
    have e1 := zb_r1 e
    subst e1
    exact zd_f (by omega)
  · have q := zc_neF hc
    replace e := zb_bind e
    obtain ⟨v2, hv, e⟩ := e
    have t2 := (tb_m hA hv (by omega)).1
    replace e := zb_if e
    rcases e with ⟨hc, e⟩ | ⟨hc, e⟩
    · have q := zc_neT hc
      have e1 := zb_r1 e
      subst e1
      exact zd_f (by omega)
    · have q2 := zc_neF hc
      replace e := zb_bind e
      obtain ⟨v4, hv, e⟩ := e
      have t4 := (tb_m hA hv (by omega)).1
      rw [y1, L1] at t4
      replace e := zb_if e
      rcases e with ⟨hc, e⟩ | ⟨hc, e⟩
      · have q := zc_neT hc
        have e1 := zb_r1 e
        subst e1
        exact zd_f (by omega)
      · have q4 := zc_neF hc
        replace e := zb_bind e
        obtain ⟨v6, hv, e⟩ := e
        have t6 := (tb_m hA hv (by omega)).1
        rw [y2, L2] at t6
        replace e := zb_if e
        rcases e with ⟨hc, e⟩ | ⟨hc, e⟩
        · have q := zc_neT hc
          have e1 := zb_r1 e
          subst e1
          exact zd_f (by omega)
        · have q6 := zc_neF hc
          have e1 := zb_r1 e
          subst e1
          exact zd_t (by omega)
theorem t_116 (hA : RA c m) (h0 : 0 ≤ (m 113 16).toInt) (h1 : (m 113 16).toInt ≤ 160) (e : d_116 x1 x2 m = some r) : r = true ↔ (tb c ((m 113 16).toInt + 3) = x1.toInt ∧ (x2.toInt = 0 ∨ tb c ((m 113 16).toInt + 4) = x2.toInt)) := by
  unfold d_116 at e
  have L0 := zl_0
  have L3 := zl_3
  have L4 := zl_4
  have y3 := zi_add (x := m 113 16) (y := 3) (by omega) (by omega)
  have y4 := zi_add (x := m 113 16) (y := 4) (by omega) (by omega)
  replace e := zb_bind e
  obtain ⟨v1, hv, e⟩ := e
  have t1 := (tb_m hA hv (by omega)).1
  rw [y3, L3] at t1
  replace e := zb_if e
  rcases e with ⟨hc, e⟩ | ⟨hc, e⟩
  · have q := zc_neT hc
    have e1 := zb_r1 e
    subst e1
    exact zd_f (by omega)
  · have q := zc_neF hc
    replace e := zb_if e
    rcases e with ⟨hc, e⟩ | ⟨hc, e⟩
    · have q2 := zc_eqT hc
      have e1 := zb_r1 e
      subst e1
      exact zd_t (by omega)
    · have q2 := zc_eqF hc
      replace e := zb_bind e
      obtain ⟨v4, hv, e⟩ := e
      have t4 := (tb_m hA hv (by omega)).1
      rw [y4, L4] at t4
      replace e := zb_if e
      rcases e with ⟨hc, e⟩ | ⟨hc, e⟩
      · have q := zc_neT hc
        have e1 := zb_r1 e
        subst e1
        exact zd_f (by omega)
      · have q4 := zc_neF hc
        have e1 := zb_r1 e
        subst e1
        exact zd_t (by omega)
end WD2
