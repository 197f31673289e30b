/-! printed by wip/tools/den.py -/
/-- EveningFirst$Family.isDay(I)Z -/
def d_21 (r0 : Nat) (x1 : Int32) (g : G) : Bool :=
  bif zm_cmp .lt x1 0 then (
    false) else
  bif zm_cmp .ge x1 ((1 : Int32) <<< ((g r0 2) &&& 31)) then (
    false) else
  true
set_option maxRecDepth 100000 in
set_option maxHeartbeats 4000000 in
theorem w_21 {sc : Option (List Int32)} {d : Nat} (r0 : Nat) (x1 : Int32) (h0 : zg_cl r0 = 2) (g : G) {r : Bool} (e : d_21 r0 x1 g = r) : zB sc (d) 21 0 (zm_ent (z_L 21) [.ref r0, .int x1]) [] (mk g) [.int (zb_i r)] (mk g) := by
  unfold d_21 at e
  intro Q K
  show Wp sc (d) 21 0 [some (.ref r0), some (.int x1)] [] (mk g) Q
  refine Wp.steps 1 (pc1 := 1) (lo1 := [some (.ref r0), some (.int x1)]) (st1 := [.int x1]) (h1 := mk g) rfl ?_
  rcases zb_if e with ⟨hc1, e⟩ | ⟨hc1, e⟩
  · skip
    refine Wp.iT (pc1 := 18) rfl hc1 rfl ?_
    refine Wp.steps 1 (pc1 := 19) (lo1 := [some (.ref r0), some (.int x1)]) (st1 := [.int 0]) (h1 := mk g) rfl ?_
    have e1 := e
    subst e1
    exact Wp.ret rfl rfl rfl (K _)
  · skip
    refine Wp.iF (pc1 := 4) rfl hc1 rfl ?_
    refine Wp.steps 3 (pc1 := 7) (lo1 := [some (.ref r0), some (.int x1)]) (st1 := [.ref r0, .int 1, .int x1]) (h1 := mk g) rfl ?_
    refine Wp.gf (pc1 := 10) (v := .int (g r0 2)) rfl h0 rfl rfl rfl ?_
    refine Wp.steps 1 (pc1 := 11) (lo1 := [some (.ref r0), some (.int x1)]) (st1 := [.int ((1 : Int32) <<< ((g r0 2) &&& 31)), .int x1]) (h1 := mk g) rfl ?_
    rcases zb_if e with ⟨hc2, e⟩ | ⟨hc2, e⟩
    · skip
      refine Wp.cT (pc1 := 18) rfl hc2 rfl ?_
      refine Wp.steps 1 (pc1 := 19) (lo1 := [some (.ref r0), some (.int x1)]) (st1 := [.int 0]) (h1 := mk g) rfl ?_
      have e1 := e
      subst e1
      exact Wp.ret rfl rfl rfl (K _)
    · skip
      refine Wp.cF (pc1 := 14) rfl hc2 rfl ?_
      refine Wp.steps 2 (pc1 := 19) (lo1 := [some (.ref r0), some (.int x1)]) (st1 := [.int 1]) (h1 := mk g) rfl ?_
      have e1 := e
      subst e1
      exact Wp.ret rfl rfl rfl (K _)
/-- EveningFirst.placeOf(III)I -/
def d_98 (x0 : Int32) (x1 : Int32) (x2 : Int32) : Int32 :=
  bif x0 == 0 then (
    x1) else
  bif x0 == 1 then (
    ((x2 - 1) - x1)) else
  bif zm_cmp .ne (x1 - x1 / 2 * 2) 0 then (
    ((x2 - 1) - (x1 / 2))) else
  (x1 / 2)
set_option maxRecDepth 100000 in
set_option maxHeartbeats 4000000 in
theorem w_98 {sc : Option (List Int32)} {d : Nat} (x0 : Int32) (x1 : Int32) (x2 : Int32) (g : G) {r : Int32} (e : d_98 x0 x1 x2 = r) : zB sc (d) 98 0 (zm_ent (z_L 98) [.int x0, .int x1, .int x2]) [] (mk g) [.int r] (mk g) := by
  unfold d_98 at e
  intro Q K
  show Wp sc (d) 98 0 [some (.int x0), some (.int x1), some (.int x2)] [] (mk g) Q
  refine Wp.steps 1 (pc1 := 1) (lo1 := [some (.int x0), some (.int x1), some (.int x2)]) (st1 := [.int x0]) (h1 := mk g) rfl ?_
  rcases zb_if e with ⟨hc1, e⟩ | ⟨hc1, e⟩
  · skip
    refine Wp.lsT (pc1 := 28) (w := 0) rfl hc1 rfl ?_
    refine Wp.steps 1 (pc1 := 29) (lo1 := [some (.int x0), some (.int x1), some (.int x2)]) (st1 := [.int x1]) (h1 := mk g) rfl ?_
    have e1 := e
    subst e1
    exact Wp.ret rfl rfl rfl (K _)
  · skip
    rcases zb_if e with ⟨hc2, e⟩ | ⟨hc2, e⟩
    · skip
      refine Wp.lsT (pc1 := 30) (w := 1) rfl hc2 rfl ?_
      refine Wp.steps 5 (pc1 := 35) (lo1 := [some (.int x0), some (.int x1), some (.int x2)]) (st1 := [.int ((x2 - 1) - x1)]) (h1 := mk g) rfl ?_
      have e1 := e
      subst e1
      exact Wp.ret rfl rfl rfl (K _)
    · skip
      refine Wp.lsD (pc1 := 36) rfl (zls_2 (by decide) (by decide) hc1 hc2) rfl ?_
      refine Wp.steps 3 (pc1 := 39) (lo1 := [some (.int x0), some (.int x1), some (.int x2)]) (st1 := [.int (x1 - x1 / 2 * 2)]) (h1 := mk g) rfl ?_
      rcases zb_if e with ⟨hc3, e⟩ | ⟨hc3, e⟩
      · skip
        refine Wp.iT (pc1 := 48) rfl hc3 rfl ?_
        refine Wp.steps 7 (pc1 := 55) (lo1 := [some (.int x0), some (.int x1), some (.int x2)]) (st1 := [.int ((x2 - 1) - (x1 / 2))]) (h1 := mk g) rfl ?_
        have e1 := e
        subst e1
        exact Wp.ret rfl rfl rfl (K _)
      · skip
        refine Wp.iF (pc1 := 42) rfl hc3 rfl ?_
        refine Wp.steps 4 (pc1 := 55) (lo1 := [some (.int x0), some (.int x1), some (.int x2)]) (st1 := [.int (x1 / 2)]) (h1 := mk g) rfl ?_
        have e1 := e
        subst e1
        exact Wp.ret rfl rfl rfl (K _)
/-- EveningFirst$Family.isEarlier(III)Z -/
def d_23 (r0 : Nat) (x1 : Int32) (x2 : Int32) (x3 : Int32) (g : G) : Option Bool :=
  Option.bind (zm_ix x1 4) fun k1 =>
  zb_l (d_98 (g (r0 + 4 + k1) 0) x2 (g r0 0)) fun v2 =>
  zb_l (d_98 (g (r0 + 4 + k1) 0) x3 (g r0 0)) fun v3 =>
  bif zm_cmp .ge v2 v3 then (
    some false) else
  some true
set_option maxRecDepth 100000 in
set_option maxHeartbeats 4000000 in
theorem w_23 {sc : Option (List Int32)} {d : Nat} (r0 : Nat) (x1 : Int32) (x2 : Int32) (x3 : Int32) (h0 : zg_cl r0 = 2) (g : G) {r : Bool} (e : d_23 r0 x1 x2 x3 g = some r) : zB sc (d + 1) 23 0 (zm_ent (z_L 23) [.ref r0, .int x1, .int x2, .int x3]) [] (mk g) [.int (zb_i r)] (mk g) := by
  unfold d_23 at e
  intro Q K
  show Wp sc (d + 1) 23 0 [some (.ref r0), some (.int x1), some (.int x2), some (.int x3), none] [] (mk g) Q
  refine Wp.steps 1 (pc1 := 1) (lo1 := [some (.ref r0), some (.int x1), some (.int x2), some (.int x3), none]) (st1 := [.ref r0]) (h1 := mk g) rfl ?_
  refine Wp.gf (pc1 := 4) (v := .ref (r0 + 1)) rfl h0 rfl rfl rfl ?_
  refine Wp.steps 1 (pc1 := 5) (lo1 := [some (.ref r0), some (.int x1), some (.int x2), some (.int x3), none]) (st1 := [.int x1, .ref (r0 + 1)]) (h1 := mk g) rfl ?_
  obtain ⟨k1, hk1, e⟩ := zb_bind e
  refine Wp.aa (pc1 := 6) (v := (r0 + 4 + k1)) rfl (zg_rones (b := r0) h0) rfl hk1 (by omega) rfl ?_
  refine Wp.gf (pc1 := 9) (v := .int (g (r0 + 4 + k1) 0)) rfl (zg_one (b := r0) h0 hk1) rfl rfl rfl ?_
  refine Wp.steps 4 (pc1 := 15) (lo1 := [some (.ref r0), some (.int x1), some (.int x2), some (.int x3), some (.int (g (r0 + 4 + k1) 0))]) (st1 := [.ref r0, .int x2, .int (g (r0 + 4 + k1) 0)]) (h1 := mk g) rfl ?_
  refine Wp.gf (pc1 := 18) (v := .int (g r0 0)) rfl h0 rfl rfl rfl ?_
  obtain ⟨v2, hvv2, e⟩ := zb_let e
  refine Wp.ca (m := 98) (d1 := d) (as := [.int (g (r0 + 4 + k1) 0), .int x2, .int (g r0 0)]) (rest := []) (st1 := [.int v2]) (pc1 := 21) rfl rfl rfl rfl rfl rfl rfl rfl rfl rfl rfl rfl (w_98 (sc := sc) (d := d) (g (r0 + 4 + k1) 0) x2 (g r0 0) g hvv2) ?_
  refine Wp.steps 3 (pc1 := 25) (lo1 := [some (.ref r0), some (.int x1), some (.int x2), some (.int x3), some (.int (g (r0 + 4 + k1) 0))]) (st1 := [.ref r0, .int x3, .int (g (r0 + 4 + k1) 0), .int v2]) (h1 := mk g) rfl ?_
  refine Wp.gf (pc1 := 28) (v := .int (g r0 0)) rfl h0 rfl rfl rfl ?_
  obtain ⟨v3, hvv3, e⟩ := zb_let e
  refine Wp.ca (m := 98) (d1 := d) (as := [.int (g (r0 + 4 + k1) 0), .int x3, .int (g r0 0)]) (rest := [.int v2]) (st1 := [.int v3, .int v2]) (pc1 := 31) rfl rfl rfl rfl rfl rfl rfl rfl rfl rfl rfl rfl (w_98 (sc := sc) (d := d) (g (r0 + 4 + k1) 0) x3 (g r0 0) g hvv3) ?_
  rcases zb_if e with ⟨hc4, e⟩ | ⟨hc4, e⟩
  · skip
    refine Wp.cT (pc1 := 38) rfl hc4 rfl ?_
    refine Wp.steps 1 (pc1 := 39) (lo1 := [some (.ref r0), some (.int x1), some (.int x2), some (.int x3), some (.int (g (r0 + 4 + k1) 0))]) (st1 := [.int 0]) (h1 := mk g) rfl ?_
    have e1 := zb_r1 e
    subst e1
    exact Wp.ret rfl rfl rfl (K _)
  · skip
    refine Wp.cF (pc1 := 34) rfl hc4 rfl ?_
    refine Wp.steps 2 (pc1 := 39) (lo1 := [some (.ref r0), some (.int x1), some (.int x2), some (.int x3), some (.int (g (r0 + 4 + k1) 0))]) (st1 := [.int 1]) (h1 := mk g) rfl ?_
    have e1 := zb_r1 e
    subst e1
    exact Wp.ret rfl rfl rfl (K _)
def d_24_14 (r0 : Nat) (x1 : Int32) (x2 : Int32) (x3 : Int32) (g : G) : Nat → Int32 → Int32 → Option Int32
  | 0, _, _ => none
  | f + 1, x4, x5 =>
    bif zm_cmp .ge x5 (g r0 2) then (
      some x4) else
    Option.bind (zm_ix x5 8) fun k3 =>
    zb_l (d_90 x3 x5) fun v4 =>
    bif v4 then (
      bif zm_cmp .ne (g (r0 + 8 + k3) 2) x1 then (
        d_24_14 r0 x1 x2 x3 g f x4 (x5 + 1)) else
      Option.bind (d_23 r0 x1 (g (r0 + 8 + k3) 0) x2 g) fun v7 =>
      bif v7 then (
        d_24_14 r0 x1 x2 x3 g f (x4 ||| ((1 : Int32) <<< ((g (r0 + 8 + k3) 3) &&& 31))) (x5 + 1)) else
      d_24_14 r0 x1 x2 x3 g f x4 (x5 + 1)) else
    d_24_14 r0 x1 x2 x3 g f x4 (x5 + 1)
set_option maxRecDepth 100000 in
set_option maxHeartbeats 4000000 in
theorem w_24_14 {sc : Option (List Int32)} {d : Nat} (r0 : Nat) (x1 : Int32) (x2 : Int32) (x3 : Int32) (h0 : zg_cl r0 = 2) (g : G) : ∀ (f : Nat) (x4 : Int32) (x5 : Int32) (r : Int32), d_24_14 r0 x1 x2 x3 g f x4 x5 = some r → zB sc (d + 2) 24 14 [some (.ref r0), some (.int x1), some (.int x2), some (.int x3), some (.int x4), some (.int x5), none] [] (mk g) [.int r] (mk g) := by
  intro f
  induction f with
  | zero =>
    intro x4 x5 r e
    rw [d_24_14.eq_1] at e
    cases e
  | succ f ih =>
    intro x4 x5 r e
    rw [d_24_14.eq_2] at e
    intro Q K
    refine Wp.steps 2 (pc1 := 17) (lo1 := [some (.ref r0), some (.int x1), some (.int x2), some (.int x3), some (.int x4), some (.int x5), none]) (st1 := [.ref r0, .int x5]) (h1 := mk g) rfl ?_
    refine Wp.gf (pc1 := 20) (v := .int (g r0 2)) rfl h0 rfl rfl rfl ?_
    rcases zb_if e with ⟨hc2, e⟩ | ⟨hc2, e⟩
    · skip
      refine Wp.cT (pc1 := 82) rfl hc2 rfl ?_
      refine Wp.steps 1 (pc1 := 84) (lo1 := [some (.ref r0), some (.int x1), some (.int x2), some (.int x3), some (.int x4), some (.int x5), none]) (st1 := [.int x4]) (h1 := mk g) rfl ?_
      have e1 := zb_r1 e
      subst e1
      exact Wp.ret rfl rfl rfl (K _)
    · skip
      refine Wp.cF (pc1 := 23) rfl hc2 rfl ?_
      refine Wp.steps 1 (pc1 := 24) (lo1 := [some (.ref r0), some (.int x1), some (.int x2), some (.int x3), some (.int x4), some (.int x5), none]) (st1 := [.ref r0]) (h1 := mk g) rfl ?_
      refine Wp.gf (pc1 := 27) (v := .ref (r0 + 2)) rfl h0 rfl rfl rfl ?_
      refine Wp.steps 1 (pc1 := 29) (lo1 := [some (.ref r0), some (.int x1), some (.int x2), some (.int x3), some (.int x4), some (.int x5), none]) (st1 := [.int x5, .ref (r0 + 2)]) (h1 := mk g) rfl ?_
      obtain ⟨k3, hk3, e⟩ := zb_bind e
      refine Wp.aa (pc1 := 30) (v := (r0 + 8 + k3)) rfl (zg_rdeeds (b := r0) h0) rfl hk3 (by omega) rfl ?_
      refine Wp.steps 3 (pc1 := 35) (lo1 := [some (.ref r0), some (.int x1), some (.int x2), some (.int x3), some (.int x4), some (.int x5), some (.ref (r0 + 8 + k3))]) (st1 := [.int x5, .int x3]) (h1 := mk g) rfl ?_
      obtain ⟨v4, hvv4, e⟩ := zb_let e
      refine Wp.ca (m := 90) (d1 := d + 1) (as := [.int x3, .int x5]) (rest := []) (st1 := [.int (zb_i v4)]) (pc1 := 38) rfl rfl rfl rfl rfl rfl rfl rfl rfl rfl rfl rfl (w_90 (sc := sc) (d := d + 1) x3 x5 g hvv4) ?_
      rcases zb_if e with ⟨hc5, e⟩ | ⟨hc5, e⟩
      · skip
        refine Wp.iF (pc1 := 41) rfl (zb_eqF hc5) rfl ?_
        refine Wp.steps 1 (pc1 := 43) (lo1 := [some (.ref r0), some (.int x1), some (.int x2), some (.int x3), some (.int x4), some (.int x5), some (.ref (r0 + 8 + k3))]) (st1 := [.ref (r0 + 8 + k3)]) (h1 := mk g) rfl ?_
        refine Wp.gf (pc1 := 46) (v := .int (g (r0 + 8 + k3) 2)) rfl (zg_deed (b := r0) h0 hk3) rfl rfl rfl ?_
        refine Wp.steps 1 (pc1 := 47) (lo1 := [some (.ref r0), some (.int x1), some (.int x2), some (.int x3), some (.int x4), some (.int x5), some (.ref (r0 + 8 + k3))]) (st1 := [.int x1, .int (g (r0 + 8 + k3) 2)]) (h1 := mk g) rfl ?_
        rcases zb_if e with ⟨hc6, e⟩ | ⟨hc6, e⟩
        · skip
          refine Wp.cT (pc1 := 76) rfl hc6 rfl ?_
          refine Wp.steps 2 (pc1 := 14) (lo1 := [some (.ref r0), some (.int x1), some (.int x2), some (.int x3), some (.int x4), some (.int (x5 + 1)), some (.ref (r0 + 8 + k3))]) (st1 := []) (h1 := mk g) rfl ?_
          refine Wp.fg [some (.ref r0), some (.int x1), some (.int x2), some (.int x3), some (.int x4), some (.int (x5 + 1)), none] (zm_lle_s (zm_lle_s (zm_lle_s (zm_lle_s (zm_lle_s (zm_lle_s (zm_lle_n zm_lle_0))))))) ?_
          exact ih _ _ _ e Q K
        · skip
          refine Wp.cF (pc1 := 50) rfl hc6 rfl ?_
          refine Wp.steps 3 (pc1 := 54) (lo1 := [some (.ref r0), some (.int x1), some (.int x2), some (.int x3), some (.int x4), some (.int x5), some (.ref (r0 + 8 + k3))]) (st1 := [.ref (r0 + 8 + k3), .int x1, .ref r0]) (h1 := mk g) rfl ?_
          refine Wp.gf (pc1 := 57) (v := .int (g (r0 + 8 + k3) 0)) rfl (zg_deed (b := r0) h0 hk3) rfl rfl rfl ?_
          refine Wp.steps 1 (pc1 := 58) (lo1 := [some (.ref r0), some (.int x1), some (.int x2), some (.int x3), some (.int x4), some (.int x5), some (.ref (r0 + 8 + k3))]) (st1 := [.int x2, .int (g (r0 + 8 + k3) 0), .int x1, .ref r0]) (h1 := mk g) rfl ?_
          obtain ⟨v7, hvv7, e⟩ := zb_bind e
          refine Wp.ca (m := 23) (d1 := d + 1) (as := [.ref r0, .int x1, .int (g (r0 + 8 + k3) 0), .int x2]) (rest := []) (st1 := [.int (zb_i v7)]) (pc1 := 61) rfl rfl rfl rfl rfl rfl rfl rfl (mk_rok h0 rfl rfl rfl) rfl rfl rfl (w_23 (sc := sc) (d := d) r0 x1 (g (r0 + 8 + k3) 0) x2 h0 g hvv7) ?_
          rcases zb_if e with ⟨hc8, e⟩ | ⟨hc8, e⟩
          · skip
            refine Wp.iF (pc1 := 64) rfl (zb_eqF hc8) rfl ?_
            refine Wp.steps 3 (pc1 := 69) (lo1 := [some (.ref r0), some (.int x1), some (.int x2), some (.int x3), some (.int x4), some (.int x5), some (.ref (r0 + 8 + k3))]) (st1 := [.ref (r0 + 8 + k3), .int 1, .int x4]) (h1 := mk g) rfl ?_
            refine Wp.gf (pc1 := 72) (v := .int (g (r0 + 8 + k3) 3)) rfl (zg_deed (b := r0) h0 hk3) rfl rfl rfl ?_
            refine Wp.steps 5 (pc1 := 14) (lo1 := [some (.ref r0), some (.int x1), some (.int x2), some (.int x3), some (.int (x4 ||| ((1 : Int32) <<< ((g (r0 + 8 + k3) 3) &&& 31)))), some (.int (x5 + 1)), some (.ref (r0 + 8 + k3))]) (st1 := []) (h1 := mk g) rfl ?_
            refine Wp.fg [some (.ref r0), some (.int x1), some (.int x2), some (.int x3), some (.int (x4 ||| ((1 : Int32) <<< ((g (r0 + 8 + k3) 3) &&& 31)))), some (.int (x5 + 1)), none] (zm_lle_s (zm_lle_s (zm_lle_s (zm_lle_s (zm_lle_s (zm_lle_s (zm_lle_n zm_lle_0))))))) ?_
            exact ih _ _ _ e Q K
          · skip
            refine Wp.iT (pc1 := 76) rfl (zb_eqT hc8) rfl ?_
            refine Wp.steps 2 (pc1 := 14) (lo1 := [some (.ref r0), some (.int x1), some (.int x2), some (.int x3), some (.int x4), some (.int (x5 + 1)), some (.ref (r0 + 8 + k3))]) (st1 := []) (h1 := mk g) rfl ?_
            refine Wp.fg [some (.ref r0), some (.int x1), some (.int x2), some (.int x3), some (.int x4), some (.int (x5 + 1)), none] (zm_lle_s (zm_lle_s (zm_lle_s (zm_lle_s (zm_lle_s (zm_lle_s (zm_lle_n zm_lle_0))))))) ?_
            exact ih _ _ _ e Q K
      · skip
        refine Wp.iT (pc1 := 76) rfl (zb_eqT hc5) rfl ?_
        refine Wp.steps 2 (pc1 := 14) (lo1 := [some (.ref r0), some (.int x1), some (.int x2), some (.int x3), some (.int x4), some (.int (x5 + 1)), some (.ref (r0 + 8 + k3))]) (st1 := []) (h1 := mk g) rfl ?_
        refine Wp.fg [some (.ref r0), some (.int x1), some (.int x2), some (.int x3), some (.int x4), some (.int (x5 + 1)), none] (zm_lle_s (zm_lle_s (zm_lle_s (zm_lle_s (zm_lle_s (zm_lle_s (zm_lle_n zm_lle_0))))))) ?_
        exact ih _ _ _ e Q K
/-- EveningFirst$Family.thingsHad(III)I -/
def d_24 (r0 : Nat) (x1 : Int32) (x2 : Int32) (x3 : Int32) (g : G) : Option Int32 :=
  Option.bind (zm_ix x1 4) fun k1 =>
  d_24_14 r0 x1 x2 x3 g 300 (g (r0 + 4 + k1) 1) 0
set_option maxRecDepth 100000 in
set_option maxHeartbeats 4000000 in
theorem w_24 {sc : Option (List Int32)} {d : Nat} (r0 : Nat) (x1 : Int32) (x2 : Int32) (x3 : Int32) (h0 : zg_cl r0 = 2) (g : G) {r : Int32} (e : d_24 r0 x1 x2 x3 g = some r) : zB sc (d + 2) 24 0 (zm_ent (z_L 24) [.ref r0, .int x1, .int x2, .int x3]) [] (mk g) [.int r] (mk g) := by
  unfold d_24 at e
  intro Q K
  show Wp sc (d + 2) 24 0 [some (.ref r0), some (.int x1), some (.int x2), some (.int x3), none, none, none] [] (mk g) Q
  refine Wp.steps 1 (pc1 := 1) (lo1 := [some (.ref r0), some (.int x1), some (.int x2), some (.int x3), none, none, none]) (st1 := [.ref r0]) (h1 := mk g) rfl ?_
  refine Wp.gf (pc1 := 4) (v := .ref (r0 + 1)) rfl h0 rfl rfl rfl ?_
  refine Wp.steps 1 (pc1 := 5) (lo1 := [some (.ref r0), some (.int x1), some (.int x2), some (.int x3), none, none, none]) (st1 := [.int x1, .ref (r0 + 1)]) (h1 := mk g) rfl ?_
  obtain ⟨k1, hk1, e⟩ := zb_bind e
  refine Wp.aa (pc1 := 6) (v := (r0 + 4 + k1)) rfl (zg_rones (b := r0) h0) rfl hk1 (by omega) rfl ?_
  refine Wp.gf (pc1 := 9) (v := .int (g (r0 + 4 + k1) 1)) rfl (zg_one (b := r0) h0 hk1) rfl rfl rfl ?_
  refine Wp.steps 3 (pc1 := 14) (lo1 := [some (.ref r0), some (.int x1), some (.int x2), some (.int x3), some (.int (g (r0 + 4 + k1) 1)), some (.int 0), none]) (st1 := []) (h1 := mk g) rfl ?_
  exact w_24_14 (sc := sc) (d := d) r0 x1 x2 x3 h0 g 300 (g (r0 + 4 + k1) 1) 0 _ e Q K
/-- EveningFirst.has(III)I -/
def d_67 (x1 : Int32) (x2 : Int32) (x3 : Int32) (g : G) : Option Int32 :=
  zb_l (d_18 1 x1 g) fun v1 =>
  bif v1 then (
    zb_l (d_19 1 x2 g) fun v3 =>
    bif v3 then (
      zb_l (d_21 1 x3 g) fun v5 =>
      bif v5 then (
        Option.bind (d_24 1 x1 x2 x3 g) fun v7 =>
        some v7) else
      some (-1)) else
    some (-1)) else
  some (-1)
set_option maxRecDepth 100000 in
set_option maxHeartbeats 4000000 in
theorem w_67 {sc : Option (List Int32)} {d : Nat} (x1 : Int32) (x2 : Int32) (x3 : Int32) (g : G) {r : Int32} (e : d_67 x1 x2 x3 g = some r) : zB sc (d + 3) 67 0 (zm_ent (z_L 67) [.ref 0, .int x1, .int x2, .int x3]) [] (mk g) [.int r] (mk g) := by
  unfold d_67 at e
  intro Q K
  show Wp sc (d + 3) 67 0 [some (.ref 0), some (.int x1), some (.int x2), some (.int x3)] [] (mk g) Q
  refine Wp.steps 1 (pc1 := 1) (lo1 := [some (.ref 0), some (.int x1), some (.int x2), some (.int x3)]) (st1 := [.ref 0]) (h1 := mk g) rfl ?_
  refine Wp.gf (pc1 := 4) (v := .ref 1) rfl rfl rfl rfl rfl ?_
  refine Wp.steps 1 (pc1 := 5) (lo1 := [some (.ref 0), some (.int x1), some (.int x2), some (.int x3)]) (st1 := [.int x1, .ref 1]) (h1 := mk g) rfl ?_
  obtain ⟨v1, hvv1, e⟩ := zb_let e
  refine Wp.ca (m := 18) (d1 := d + 2) (as := [.ref 1, .int x1]) (rest := []) (st1 := [.int (zb_i v1)]) (pc1 := 8) rfl rfl rfl rfl rfl rfl rfl rfl (mk_rok rfl rfl rfl rfl) rfl rfl rfl (w_18 (sc := sc) (d := d + 2) 1 x1 rfl g hvv1) ?_
  rcases zb_if e with ⟨hc2, e⟩ | ⟨hc2, e⟩
  · skip
    refine Wp.iF (pc1 := 11) rfl (zb_eqF hc2) rfl ?_
    refine Wp.steps 1 (pc1 := 12) (lo1 := [some (.ref 0), some (.int x1), some (.int x2), some (.int x3)]) (st1 := [.ref 0]) (h1 := mk g) rfl ?_
    refine Wp.gf (pc1 := 15) (v := .ref 1) rfl rfl rfl rfl rfl ?_
    refine Wp.steps 1 (pc1 := 16) (lo1 := [some (.ref 0), some (.int x1), some (.int x2), some (.int x3)]) (st1 := [.int x2, .ref 1]) (h1 := mk g) rfl ?_
    obtain ⟨v3, hvv3, e⟩ := zb_let e
    refine Wp.ca (m := 19) (d1 := d + 2) (as := [.ref 1, .int x2]) (rest := []) (st1 := [.int (zb_i v3)]) (pc1 := 19) rfl rfl rfl rfl rfl rfl rfl rfl (mk_rok rfl rfl rfl rfl) rfl rfl rfl (w_19 (sc := sc) (d := d + 2) 1 x2 rfl g hvv3) ?_
    rcases zb_if e with ⟨hc4, e⟩ | ⟨hc4, e⟩
    · skip
      refine Wp.iF (pc1 := 22) rfl (zb_eqF hc4) rfl ?_
      refine Wp.steps 1 (pc1 := 23) (lo1 := [some (.ref 0), some (.int x1), some (.int x2), some (.int x3)]) (st1 := [.ref 0]) (h1 := mk g) rfl ?_
      refine Wp.gf (pc1 := 26) (v := .ref 1) rfl rfl rfl rfl rfl ?_
      refine Wp.steps 1 (pc1 := 27) (lo1 := [some (.ref 0), some (.int x1), some (.int x2), some (.int x3)]) (st1 := [.int x3, .ref 1]) (h1 := mk g) rfl ?_
      obtain ⟨v5, hvv5, e⟩ := zb_let e
      refine Wp.ca (m := 21) (d1 := d + 2) (as := [.ref 1, .int x3]) (rest := []) (st1 := [.int (zb_i v5)]) (pc1 := 30) rfl rfl rfl rfl rfl rfl rfl rfl (mk_rok rfl rfl rfl rfl) rfl rfl rfl (w_21 (sc := sc) (d := d + 2) 1 x3 rfl g hvv5) ?_
      rcases zb_if e with ⟨hc6, e⟩ | ⟨hc6, e⟩
      · skip
        refine Wp.iT (pc1 := 35) rfl (zb_neT hc6) rfl ?_
        refine Wp.steps 1 (pc1 := 36) (lo1 := [some (.ref 0), some (.int x1), some (.int x2), some (.int x3)]) (st1 := [.ref 0]) (h1 := mk g) rfl ?_
        refine Wp.gf (pc1 := 39) (v := .ref 1) rfl rfl rfl rfl rfl ?_
        refine Wp.steps 3 (pc1 := 42) (lo1 := [some (.ref 0), some (.int x1), some (.int x2), some (.int x3)]) (st1 := [.int x3, .int x2, .int x1, .ref 1]) (h1 := mk g) rfl ?_
        obtain ⟨v7, hvv7, e⟩ := zb_bind e
        refine Wp.ca (m := 24) (d1 := d + 2) (as := [.ref 1, .int x1, .int x2, .int x3]) (rest := []) (st1 := [.int v7]) (pc1 := 45) rfl rfl rfl rfl rfl rfl rfl rfl (mk_rok rfl rfl rfl rfl) rfl rfl rfl (w_24 (sc := sc) (d := d) 1 x1 x2 x3 rfl g hvv7) ?_
        have e1 := zb_r1 e
        subst e1
        exact Wp.ret rfl rfl rfl (K _)
      · skip
        refine Wp.iF (pc1 := 33) rfl (zb_neF hc6) rfl ?_
        refine Wp.steps 1 (pc1 := 34) (lo1 := [some (.ref 0), some (.int x1), some (.int x2), some (.int x3)]) (st1 := [.int (-1)]) (h1 := mk g) rfl ?_
        have e1 := zb_r1 e
        subst e1
        exact Wp.ret rfl rfl rfl (K _)
    · skip
      refine Wp.iT (pc1 := 33) rfl (zb_eqT hc4) rfl ?_
      refine Wp.steps 1 (pc1 := 34) (lo1 := [some (.ref 0), some (.int x1), some (.int x2), some (.int x3)]) (st1 := [.int (-1)]) (h1 := mk g) rfl ?_
      have e1 := zb_r1 e
      subst e1
      exact Wp.ret rfl rfl rfl (K _)
  · skip
    refine Wp.iT (pc1 := 33) rfl (zb_eqT hc2) rfl ?_
    refine Wp.steps 1 (pc1 := 34) (lo1 := [some (.ref 0), some (.int x1), some (.int x2), some (.int x3)]) (st1 := [.int (-1)]) (h1 := mk g) rfl ?_
    have e1 := zb_r1 e
    subst e1
    exact Wp.ret rfl rfl rfl (K _)
/-- EveningFirstModel.isDay(I)Z -/
def d_135 (x1 : Int32) (g : G) : Bool :=
  zb_l (d_107 (Int32.toInt64 x1) 0 (Int32.toInt64 (((1 : Int32) <<< ((g 114 8) &&& 31)) - 1))) fun v1 =>
  v1
set_option maxRecDepth 100000 in
set_option maxHeartbeats 4000000 in
theorem w_135 {sc : Option (List Int32)} {d : Nat} (x1 : Int32) (g : G) {r : Bool} (e : d_135 x1 g = r) : zB sc (d + 1) 135 0 (zm_ent (z_L 135) [.ref 113, .int x1]) [] (mk g) [.int (zb_i r)] (mk g) := by
  unfold d_135 at e
  intro Q K
  show Wp sc (d + 1) 135 0 [some (.ref 113), some (.int x1)] [] (mk g) Q
  refine Wp.steps 5 (pc1 := 5) (lo1 := [some (.ref 113), some (.int x1)]) (st1 := [.ref 113, .int 1, .long 0, .long (Int32.toInt64 x1)]) (h1 := mk g) rfl ?_
  refine Wp.gf (pc1 := 8) (v := .ref 114) rfl rfl rfl rfl rfl ?_
  refine Wp.steps 1 (pc1 := 10) (lo1 := [some (.ref 113), some (.int x1)]) (st1 := [.int 8, .ref 114, .int 1, .long 0, .long (Int32.toInt64 x1)]) (h1 := mk g) rfl ?_
  refine Wp.ia (pc1 := 11) (k := 8) rfl rfl rfl rfl rfl ?_
  refine Wp.steps 4 (pc1 := 15) (lo1 := [some (.ref 113), some (.int x1)]) (st1 := [.long (Int32.toInt64 (((1 : Int32) <<< ((g 114 8) &&& 31)) - 1)), .long 0, .long (Int32.toInt64 x1)]) (h1 := mk g) rfl ?_
  obtain ⟨v1, hvv1, e⟩ := zb_let e
  refine Wp.ca (m := 107) (d1 := d) (as := [.long (Int32.toInt64 x1), .long 0, .long (Int32.toInt64 (((1 : Int32) <<< ((g 114 8) &&& 31)) - 1))]) (rest := []) (st1 := [.int (zb_i v1)]) (pc1 := 18) rfl rfl rfl rfl rfl rfl rfl rfl rfl rfl rfl rfl (w_107 (sc := sc) (d := d) (Int32.toInt64 x1) 0 (Int32.toInt64 (((1 : Int32) <<< ((g 114 8) &&& 31)) - 1)) g hvv1) ?_
  have e1 := e
  subst e1
  exact Wp.ret rfl rfl (zb_ok _) (K _)
/-- EveningFirstModel.flag(Z)I -/
def d_108 (x0 : Int32) : Int32 :=
  bif zm_cmp .eq x0 0 then (
    0) else
  1
set_option maxRecDepth 100000 in
set_option maxHeartbeats 4000000 in
theorem w_108 {sc : Option (List Int32)} {d : Nat} (x0 : Int32) (g : G) {r : Int32} (e : d_108 x0 = r) : zB sc (d) 108 0 (zm_ent (z_L 108) [.int x0]) [] (mk g) [.int r] (mk g) := by
  unfold d_108 at e
  intro Q K
  show Wp sc (d) 108 0 [some (.int x0)] [] (mk g) Q
  refine Wp.steps 1 (pc1 := 1) (lo1 := [some (.int x0)]) (st1 := [.int x0]) (h1 := mk g) rfl ?_
  rcases zb_if e with ⟨hc1, e⟩ | ⟨hc1, e⟩
  · skip
    refine Wp.iT (pc1 := 8) rfl hc1 rfl ?_
    refine Wp.steps 1 (pc1 := 9) (lo1 := [some (.int x0)]) (st1 := [.int 0]) (h1 := mk g) rfl ?_
    have e1 := e
    subst e1
    exact Wp.ret rfl rfl rfl (K _)
  · skip
    refine Wp.iF (pc1 := 4) rfl hc1 rfl ?_
    refine Wp.steps 2 (pc1 := 9) (lo1 := [some (.int x0)]) (st1 := [.int 1]) (h1 := mk g) rfl ?_
    have e1 := e
    subst e1
    exact Wp.ret rfl rfl rfl (K _)
def d_150_28 (x1 : Int32) (x3 : Int32) (x5 : Int32) (g : G) : Nat → Int32 → Int32 → Option Int32
  | 0, _, _ => none
  | f + 1, x4, x6 =>
    bif zm_cmp .ge x6 (g 114 8) then (
      some x4) else
    bif zm_cmp .ne ((x3 >>> (x6 &&& 31)) &&& 1) 1 then (
      zb_l (d_108 0) fun v6 =>
      Option.bind (d_136 x6 3 g) fun v7 =>
      d_150_28 x1 x3 x5 g f (x4 ||| (v6 <<< (v7 &&& 31))) (x6 + 1)) else
    Option.bind (d_136 x6 2 g) fun v8 =>
    bif zm_cmp .ne v8 x1 then (
      zb_l (d_108 0) fun v10 =>
      Option.bind (d_136 x6 3 g) fun v11 =>
      d_150_28 x1 x3 x5 g f (x4 ||| (v10 <<< (v11 &&& 31))) (x6 + 1)) else
    Option.bind (zm_ix (0 + x1) 294) fun k12 =>
    Option.bind (d_136 x6 0 g) fun v13 =>
    Option.bind (d_137 (g 114 k12) v13 g) fun v14 =>
    bif zm_cmp .ge v14 x5 then (
      zb_l (d_108 0) fun v16 =>
      Option.bind (d_136 x6 3 g) fun v17 =>
      d_150_28 x1 x3 x5 g f (x4 ||| (v16 <<< (v17 &&& 31))) (x6 + 1)) else
    zb_l (d_108 1) fun v18 =>
    Option.bind (d_136 x6 3 g) fun v19 =>
    d_150_28 x1 x3 x5 g f (x4 ||| (v18 <<< (v19 &&& 31))) (x6 + 1)
set_option maxRecDepth 100000 in
set_option maxHeartbeats 4000000 in
theorem w_150_28 {sc : Option (List Int32)} {d : Nat} (x1 : Int32) (x3 : Int32) (x5 : Int32) (g : G) : ∀ (f : Nat) (x4 : Int32) (x6 : Int32) (r : Int32), d_150_28 x1 x3 x5 g f x4 x6 = some r → zB sc (d + 1) 150 28 [some (.ref 113), some (.int x1), none, some (.int x3), some (.int x4), some (.int x5), some (.int x6), none] [] (mk g) [.int r] (mk g) := by
  intro f
  induction f with
  | zero =>
    intro x4 x6 r e
    rw [d_150_28.eq_1] at e
    cases e
  | succ f ih =>
    intro x4 x6 r e
    rw [d_150_28.eq_2] at e
    intro Q K
    refine Wp.steps 2 (pc1 := 31) (lo1 := [some (.ref 113), some (.int x1), none, some (.int x3), some (.int x4), some (.int x5), some (.int x6), none]) (st1 := [.ref 113, .int x6]) (h1 := mk g) rfl ?_
    refine Wp.gf (pc1 := 34) (v := .ref 114) rfl rfl rfl rfl rfl ?_
    refine Wp.steps 1 (pc1 := 36) (lo1 := [some (.ref 113), some (.int x1), none, some (.int x3), some (.int x4), some (.int x5), some (.int x6), none]) (st1 := [.int 8, .ref 114, .int x6]) (h1 := mk g) rfl ?_
    refine Wp.ia (pc1 := 37) (k := 8) rfl rfl rfl rfl rfl ?_
    rcases zb_if e with ⟨hc4, e⟩ | ⟨hc4, e⟩
    · skip
      refine Wp.cT (pc1 := 116) rfl hc4 rfl ?_
      refine Wp.steps 1 (pc1 := 118) (lo1 := [some (.ref 113), some (.int x1), none, some (.int x3), some (.int x4), some (.int x5), some (.int x6), none]) (st1 := [.int x4]) (h1 := mk g) rfl ?_
      have e1 := zb_r1 e
      subst e1
      exact Wp.ret rfl rfl rfl (K _)
    · skip
      refine Wp.cF (pc1 := 40) rfl hc4 rfl ?_
      refine Wp.steps 6 (pc1 := 47) (lo1 := [some (.ref 113), some (.int x1), none, some (.int x3), some (.int x4), some (.int x5), some (.int x6), none]) (st1 := [.int 1, .int ((x3 >>> (x6 &&& 31)) &&& 1)]) (h1 := mk g) rfl ?_
      rcases zb_if e with ⟨hc5, e⟩ | ⟨hc5, e⟩
      · skip
        refine Wp.cT (pc1 := 89) rfl hc5 rfl ?_
        refine Wp.steps 4 (pc1 := 96) (lo1 := [some (.ref 113), some (.int x1), none, some (.int x3), some (.int x4), some (.int x5), some (.int x6), some (.int 0)]) (st1 := [.int 0, .int x4]) (h1 := mk g) rfl ?_
        obtain ⟨v6, hvv6, e⟩ := zb_let e
        refine Wp.ca (m := 108) (d1 := d) (as := [.int 0]) (rest := [.int x4]) (st1 := [.int v6, .int x4]) (pc1 := 99) rfl rfl rfl rfl rfl rfl rfl rfl rfl rfl rfl rfl (w_108 (sc := sc) (d := d) 0 g hvv6) ?_
        refine Wp.steps 3 (pc1 := 103) (lo1 := [some (.ref 113), some (.int x1), none, some (.int x3), some (.int x4), some (.int x5), some (.int x6), some (.int 0)]) (st1 := [.int 3, .int x6, .ref 113, .int v6, .int x4]) (h1 := mk g) rfl ?_
        obtain ⟨v7, hvv7, e⟩ := zb_bind e
        refine Wp.ca (m := 136) (d1 := d) (as := [.ref 113, .int x6, .int 3]) (rest := [.int v6, .int x4]) (st1 := [.int v7, .int v6, .int x4]) (pc1 := 106) rfl rfl rfl rfl rfl rfl rfl rfl (mk_rok rfl rfl rfl rfl) rfl rfl rfl (w_136 (sc := sc) (d := d) x6 3 g hvv7) ?_
        refine Wp.steps 5 (pc1 := 28) (lo1 := [some (.ref 113), some (.int x1), none, some (.int x3), some (.int (x4 ||| (v6 <<< (v7 &&& 31)))), some (.int x5), some (.int (x6 + 1)), some (.int 0)]) (st1 := []) (h1 := mk g) rfl ?_
        refine Wp.fg [some (.ref 113), some (.int x1), none, some (.int x3), some (.int (x4 ||| (v6 <<< (v7 &&& 31)))), some (.int x5), some (.int (x6 + 1)), none] (zm_lle_s (zm_lle_s (zm_lle_n (zm_lle_s (zm_lle_s (zm_lle_s (zm_lle_s (zm_lle_n zm_lle_0)))))))) ?_
        exact ih _ _ _ e Q K
      · skip
        refine Wp.cF (pc1 := 50) rfl hc5 rfl ?_
        refine Wp.steps 3 (pc1 := 54) (lo1 := [some (.ref 113), some (.int x1), none, some (.int x3), some (.int x4), some (.int x5), some (.int x6), none]) (st1 := [.int 2, .int x6, .ref 113]) (h1 := mk g) rfl ?_
        obtain ⟨v8, hvv8, e⟩ := zb_bind e
        refine Wp.ca (m := 136) (d1 := d) (as := [.ref 113, .int x6, .int 2]) (rest := []) (st1 := [.int v8]) (pc1 := 57) rfl rfl rfl rfl rfl rfl rfl rfl (mk_rok rfl rfl rfl rfl) rfl rfl rfl (w_136 (sc := sc) (d := d) x6 2 g hvv8) ?_
        refine Wp.steps 1 (pc1 := 58) (lo1 := [some (.ref 113), some (.int x1), none, some (.int x3), some (.int x4), some (.int x5), some (.int x6), none]) (st1 := [.int x1, .int v8]) (h1 := mk g) rfl ?_
        rcases zb_if e with ⟨hc9, e⟩ | ⟨hc9, e⟩
        · skip
          refine Wp.cT (pc1 := 89) rfl hc9 rfl ?_
          refine Wp.steps 4 (pc1 := 96) (lo1 := [some (.ref 113), some (.int x1), none, some (.int x3), some (.int x4), some (.int x5), some (.int x6), some (.int 0)]) (st1 := [.int 0, .int x4]) (h1 := mk g) rfl ?_
          obtain ⟨v10, hvv10, e⟩ := zb_let e
          refine Wp.ca (m := 108) (d1 := d) (as := [.int 0]) (rest := [.int x4]) (st1 := [.int v10, .int x4]) (pc1 := 99) rfl rfl rfl rfl rfl rfl rfl rfl rfl rfl rfl rfl (w_108 (sc := sc) (d := d) 0 g hvv10) ?_
          refine Wp.steps 3 (pc1 := 103) (lo1 := [some (.ref 113), some (.int x1), none, some (.int x3), some (.int x4), some (.int x5), some (.int x6), some (.int 0)]) (st1 := [.int 3, .int x6, .ref 113, .int v10, .int x4]) (h1 := mk g) rfl ?_
          obtain ⟨v11, hvv11, e⟩ := zb_bind e
          refine Wp.ca (m := 136) (d1 := d) (as := [.ref 113, .int x6, .int 3]) (rest := [.int v10, .int x4]) (st1 := [.int v11, .int v10, .int x4]) (pc1 := 106) rfl rfl rfl rfl rfl rfl rfl rfl (mk_rok rfl rfl rfl rfl) rfl rfl rfl (w_136 (sc := sc) (d := d) x6 3 g hvv11) ?_
          refine Wp.steps 5 (pc1 := 28) (lo1 := [some (.ref 113), some (.int x1), none, some (.int x3), some (.int (x4 ||| (v10 <<< (v11 &&& 31)))), some (.int x5), some (.int (x6 + 1)), some (.int 0)]) (st1 := []) (h1 := mk g) rfl ?_
          refine Wp.fg [some (.ref 113), some (.int x1), none, some (.int x3), some (.int (x4 ||| (v10 <<< (v11 &&& 31)))), some (.int x5), some (.int (x6 + 1)), none] (zm_lle_s (zm_lle_s (zm_lle_n (zm_lle_s (zm_lle_s (zm_lle_s (zm_lle_s (zm_lle_n zm_lle_0)))))))) ?_
          exact ih _ _ _ e Q K
        · skip
          refine Wp.cF (pc1 := 61) rfl hc9 rfl ?_
          refine Wp.steps 2 (pc1 := 63) (lo1 := [some (.ref 113), some (.int x1), none, some (.int x3), some (.int x4), some (.int x5), some (.int x6), none]) (st1 := [.ref 113, .ref 113]) (h1 := mk g) rfl ?_
          refine Wp.gf (pc1 := 66) (v := .ref 114) rfl rfl rfl rfl rfl ?_
          refine Wp.steps 3 (pc1 := 69) (lo1 := [some (.ref 113), some (.int x1), none, some (.int x3), some (.int x4), some (.int x5), some (.int x6), none]) (st1 := [.int (0 + x1), .ref 114, .ref 113]) (h1 := mk g) rfl ?_
          obtain ⟨k12, hk12, e⟩ := zb_bind e
          refine Wp.ia (pc1 := 70) rfl rfl rfl hk12 rfl ?_
          refine Wp.steps 3 (pc1 := 74) (lo1 := [some (.ref 113), some (.int x1), none, some (.int x3), some (.int x4), some (.int x5), some (.int x6), none]) (st1 := [.int 0, .int x6, .ref 113, .int (g 114 k12), .ref 113]) (h1 := mk g) rfl ?_
          obtain ⟨v13, hvv13, e⟩ := zb_bind e
          refine Wp.ca (m := 136) (d1 := d) (as := [.ref 113, .int x6, .int 0]) (rest := [.int (g 114 k12), .ref 113]) (st1 := [.int v13, .int (g 114 k12), .ref 113]) (pc1 := 77) rfl rfl rfl rfl rfl rfl rfl rfl (mk_rok rfl rfl rfl rfl) rfl rfl rfl (w_136 (sc := sc) (d := d) x6 0 g hvv13) ?_
          obtain ⟨v14, hvv14, e⟩ := zb_bind e
          refine Wp.ca (m := 137) (d1 := d) (as := [.ref 113, .int (g 114 k12), .int v13]) (rest := []) (st1 := [.int v14]) (pc1 := 80) rfl rfl rfl rfl rfl rfl rfl rfl (mk_rok rfl rfl rfl rfl) rfl rfl rfl (w_137 (sc := sc) (d := d) (g 114 k12) v13 g hvv14) ?_
          refine Wp.steps 1 (pc1 := 82) (lo1 := [some (.ref 113), some (.int x1), none, some (.int x3), some (.int x4), some (.int x5), some (.int x6), none]) (st1 := [.int x5, .int v14]) (h1 := mk g) rfl ?_
          rcases zb_if e with ⟨hc15, e⟩ | ⟨hc15, e⟩
          · skip
            refine Wp.cT (pc1 := 89) rfl hc15 rfl ?_
            refine Wp.steps 4 (pc1 := 96) (lo1 := [some (.ref 113), some (.int x1), none, some (.int x3), some (.int x4), some (.int x5), some (.int x6), some (.int 0)]) (st1 := [.int 0, .int x4]) (h1 := mk g) rfl ?_
            obtain ⟨v16, hvv16, e⟩ := zb_let e
            refine Wp.ca (m := 108) (d1 := d) (as := [.int 0]) (rest := [.int x4]) (st1 := [.int v16, .int x4]) (pc1 := 99) rfl rfl rfl rfl rfl rfl rfl rfl rfl rfl rfl rfl (w_108 (sc := sc) (d := d) 0 g hvv16) ?_
            refine Wp.steps 3 (pc1 := 103) (lo1 := [some (.ref 113), some (.int x1), none, some (.int x3), some (.int x4), some (.int x5), some (.int x6), some (.int 0)]) (st1 := [.int 3, .int x6, .ref 113, .int v16, .int x4]) (h1 := mk g) rfl ?_
            obtain ⟨v17, hvv17, e⟩ := zb_bind e
            refine Wp.ca (m := 136) (d1 := d) (as := [.ref 113, .int x6, .int 3]) (rest := [.int v16, .int x4]) (st1 := [.int v17, .int v16, .int x4]) (pc1 := 106) rfl rfl rfl rfl rfl rfl rfl rfl (mk_rok rfl rfl rfl rfl) rfl rfl rfl (w_136 (sc := sc) (d := d) x6 3 g hvv17) ?_
            refine Wp.steps 5 (pc1 := 28) (lo1 := [some (.ref 113), some (.int x1), none, some (.int x3), some (.int (x4 ||| (v16 <<< (v17 &&& 31)))), some (.int x5), some (.int (x6 + 1)), some (.int 0)]) (st1 := []) (h1 := mk g) rfl ?_
            refine Wp.fg [some (.ref 113), some (.int x1), none, some (.int x3), some (.int (x4 ||| (v16 <<< (v17 &&& 31)))), some (.int x5), some (.int (x6 + 1)), none] (zm_lle_s (zm_lle_s (zm_lle_n (zm_lle_s (zm_lle_s (zm_lle_s (zm_lle_s (zm_lle_n zm_lle_0)))))))) ?_
            exact ih _ _ _ e Q K
          · skip
            refine Wp.cF (pc1 := 85) rfl hc15 rfl ?_
            refine Wp.steps 5 (pc1 := 96) (lo1 := [some (.ref 113), some (.int x1), none, some (.int x3), some (.int x4), some (.int x5), some (.int x6), some (.int 1)]) (st1 := [.int 1, .int x4]) (h1 := mk g) rfl ?_
            obtain ⟨v18, hvv18, e⟩ := zb_let e
            refine Wp.ca (m := 108) (d1 := d) (as := [.int 1]) (rest := [.int x4]) (st1 := [.int v18, .int x4]) (pc1 := 99) rfl rfl rfl rfl rfl rfl rfl rfl rfl rfl rfl rfl (w_108 (sc := sc) (d := d) 1 g hvv18) ?_
            refine Wp.steps 3 (pc1 := 103) (lo1 := [some (.ref 113), some (.int x1), none, some (.int x3), some (.int x4), some (.int x5), some (.int x6), some (.int 1)]) (st1 := [.int 3, .int x6, .ref 113, .int v18, .int x4]) (h1 := mk g) rfl ?_
            obtain ⟨v19, hvv19, e⟩ := zb_bind e
            refine Wp.ca (m := 136) (d1 := d) (as := [.ref 113, .int x6, .int 3]) (rest := [.int v18, .int x4]) (st1 := [.int v19, .int v18, .int x4]) (pc1 := 106) rfl rfl rfl rfl rfl rfl rfl rfl (mk_rok rfl rfl rfl rfl) rfl rfl rfl (w_136 (sc := sc) (d := d) x6 3 g hvv19) ?_
            refine Wp.steps 5 (pc1 := 28) (lo1 := [some (.ref 113), some (.int x1), none, some (.int x3), some (.int (x4 ||| (v18 <<< (v19 &&& 31)))), some (.int x5), some (.int (x6 + 1)), some (.int 1)]) (st1 := []) (h1 := mk g) rfl ?_
            refine Wp.fg [some (.ref 113), some (.int x1), none, some (.int x3), some (.int (x4 ||| (v18 <<< (v19 &&& 31)))), some (.int x5), some (.int (x6 + 1)), none] (zm_lle_s (zm_lle_s (zm_lle_n (zm_lle_s (zm_lle_s (zm_lle_s (zm_lle_s (zm_lle_n zm_lle_0)))))))) ?_
            exact ih _ _ _ e Q K
/-- EveningFirstModel.hasBy(III)I -/
def d_150 (x1 : Int32) (x2 : Int32) (x3 : Int32) (g : G) : Option Int32 :=
  Option.bind (zm_ix (4 + x1) 294) fun k1 =>
  Option.bind (zm_ix (0 + x1) 294) fun k2 =>
  Option.bind (d_137 (g 114 k2) x2 g) fun v3 =>
  d_150_28 x1 x3 v3 g 300 (g 114 k1) 0
set_option maxRecDepth 100000 in
set_option maxHeartbeats 4000000 in
theorem w_150 {sc : Option (List Int32)} {d : Nat} (x1 : Int32) (x2 : Int32) (x3 : Int32) (g : G) {r : Int32} (e : d_150 x1 x2 x3 g = some r) : zB sc (d + 1) 150 0 (zm_ent (z_L 150) [.ref 113, .int x1, .int x2, .int x3]) [] (mk g) [.int r] (mk g) := by
  unfold d_150 at e
  intro Q K
  show Wp sc (d + 1) 150 0 [some (.ref 113), some (.int x1), some (.int x2), some (.int x3), none, none, none, none] [] (mk g) Q
  refine Wp.steps 1 (pc1 := 1) (lo1 := [some (.ref 113), some (.int x1), some (.int x2), some (.int x3), none, none, none, none]) (st1 := [.ref 113]) (h1 := mk g) rfl ?_
  refine Wp.gf (pc1 := 4) (v := .ref 114) rfl rfl rfl rfl rfl ?_
  refine Wp.steps 3 (pc1 := 7) (lo1 := [some (.ref 113), some (.int x1), some (.int x2), some (.int x3), none, none, none, none]) (st1 := [.int (4 + x1), .ref 114]) (h1 := mk g) rfl ?_
  obtain ⟨k1, hk1, e⟩ := zb_bind e
  refine Wp.ia (pc1 := 8) rfl rfl rfl hk1 rfl ?_
  refine Wp.steps 3 (pc1 := 12) (lo1 := [some (.ref 113), some (.int x1), some (.int x2), some (.int x3), some (.int (g 114 k1)), none, none, none]) (st1 := [.ref 113, .ref 113]) (h1 := mk g) rfl ?_
  refine Wp.gf (pc1 := 15) (v := .ref 114) rfl rfl rfl rfl rfl ?_
  refine Wp.steps 3 (pc1 := 18) (lo1 := [some (.ref 113), some (.int x1), some (.int x2), some (.int x3), some (.int (g 114 k1)), none, none, none]) (st1 := [.int (0 + x1), .ref 114, .ref 113]) (h1 := mk g) rfl ?_
  obtain ⟨k2, hk2, e⟩ := zb_bind e
  refine Wp.ia (pc1 := 19) rfl rfl rfl hk2 rfl ?_
  refine Wp.steps 1 (pc1 := 20) (lo1 := [some (.ref 113), some (.int x1), some (.int x2), some (.int x3), some (.int (g 114 k1)), none, none, none]) (st1 := [.int x2, .int (g 114 k2), .ref 113]) (h1 := mk g) rfl ?_
  obtain ⟨v3, hvv3, e⟩ := zb_bind e
  refine Wp.ca (m := 137) (d1 := d) (as := [.ref 113, .int (g 114 k2), .int x2]) (rest := []) (st1 := [.int v3]) (pc1 := 23) rfl rfl rfl rfl rfl rfl rfl rfl (mk_rok rfl rfl rfl rfl) rfl rfl rfl (w_137 (sc := sc) (d := d) (g 114 k2) x2 g hvv3) ?_
  refine Wp.steps 3 (pc1 := 28) (lo1 := [some (.ref 113), some (.int x1), some (.int x2), some (.int x3), some (.int (g 114 k1)), some (.int v3), some (.int 0), none]) (st1 := []) (h1 := mk g) rfl ?_
  refine Wp.fg [some (.ref 113), some (.int x1), none, some (.int x3), some (.int (g 114 k1)), some (.int v3), some (.int 0), none] (zm_lle_s (zm_lle_s (zm_lle_n (zm_lle_s (zm_lle_s (zm_lle_s (zm_lle_s (zm_lle_n zm_lle_0)))))))) ?_
  exact w_150_28 (sc := sc) (d := d) x1 x3 v3 g 300 (g 114 k1) 0 _ e Q K
/-- EveningFirstModel.has(III)I -/
def d_153 (x1 : Int32) (x2 : Int32) (x3 : Int32) (g : G) : Option Int32 :=
  zb_l (d_131 x1 g) fun v1 =>
  bif v1 then (
    zb_l (d_133 x2 g) fun v3 =>
    bif v3 then (
      zb_l (d_135 x3 g) fun v5 =>
      bif v5 then (
        Option.bind (d_150 x1 x2 x3 g) fun v7 =>
        some v7) else
      some (-1)) else
    some (-1)) else
  some (-1)
set_option maxRecDepth 100000 in
set_option maxHeartbeats 4000000 in
theorem w_153 {sc : Option (List Int32)} {d : Nat} (x1 : Int32) (x2 : Int32) (x3 : Int32) (g : G) {r : Int32} (e : d_153 x1 x2 x3 g = some r) : zB sc (d + 2) 153 0 (zm_ent (z_L 153) [.ref 113, .int x1, .int x2, .int x3]) [] (mk g) [.int r] (mk g) := by
  unfold d_153 at e
  intro Q K
  show Wp sc (d + 2) 153 0 [some (.ref 113), some (.int x1), some (.int x2), some (.int x3)] [] (mk g) Q
  refine Wp.steps 2 (pc1 := 2) (lo1 := [some (.ref 113), some (.int x1), some (.int x2), some (.int x3)]) (st1 := [.int x1, .ref 113]) (h1 := mk g) rfl ?_
  obtain ⟨v1, hvv1, e⟩ := zb_let e
  refine Wp.ca (m := 131) (d1 := d + 1) (as := [.ref 113, .int x1]) (rest := []) (st1 := [.int (zb_i v1)]) (pc1 := 5) rfl rfl rfl rfl rfl rfl rfl rfl (mk_rok rfl rfl rfl rfl) rfl rfl rfl (w_131 (sc := sc) (d := d) x1 g hvv1) ?_
  rcases zb_if e with ⟨hc2, e⟩ | ⟨hc2, e⟩
  · skip
    refine Wp.iF (pc1 := 8) rfl (zb_eqF hc2) rfl ?_
    refine Wp.steps 2 (pc1 := 10) (lo1 := [some (.ref 113), some (.int x1), some (.int x2), some (.int x3)]) (st1 := [.int x2, .ref 113]) (h1 := mk g) rfl ?_
    obtain ⟨v3, hvv3, e⟩ := zb_let e
    refine Wp.ca (m := 133) (d1 := d + 1) (as := [.ref 113, .int x2]) (rest := []) (st1 := [.int (zb_i v3)]) (pc1 := 13) rfl rfl rfl rfl rfl rfl rfl rfl (mk_rok rfl rfl rfl rfl) rfl rfl rfl (w_133 (sc := sc) (d := d) x2 g hvv3) ?_
    rcases zb_if e with ⟨hc4, e⟩ | ⟨hc4, e⟩
    · skip
      refine Wp.iF (pc1 := 16) rfl (zb_eqF hc4) rfl ?_
      refine Wp.steps 2 (pc1 := 18) (lo1 := [some (.ref 113), some (.int x1), some (.int x2), some (.int x3)]) (st1 := [.int x3, .ref 113]) (h1 := mk g) rfl ?_
      obtain ⟨v5, hvv5, e⟩ := zb_let e
      refine Wp.ca (m := 135) (d1 := d + 1) (as := [.ref 113, .int x3]) (rest := []) (st1 := [.int (zb_i v5)]) (pc1 := 21) rfl rfl rfl rfl rfl rfl rfl rfl (mk_rok rfl rfl rfl rfl) rfl rfl rfl (w_135 (sc := sc) (d := d) x3 g hvv5) ?_
      rcases zb_if e with ⟨hc6, e⟩ | ⟨hc6, e⟩
      · skip
        refine Wp.iF (pc1 := 24) rfl (zb_eqF hc6) rfl ?_
        refine Wp.steps 4 (pc1 := 28) (lo1 := [some (.ref 113), some (.int x1), some (.int x2), some (.int x3)]) (st1 := [.int x3, .int x2, .int x1, .ref 113]) (h1 := mk g) rfl ?_
        obtain ⟨v7, hvv7, e⟩ := zb_bind e
        refine Wp.ca (m := 150) (d1 := d + 1) (as := [.ref 113, .int x1, .int x2, .int x3]) (rest := []) (st1 := [.int v7]) (pc1 := 31) rfl rfl rfl rfl rfl rfl rfl rfl (mk_rok rfl rfl rfl rfl) rfl rfl rfl (w_150 (sc := sc) (d := d) x1 x2 x3 g hvv7) ?_
        refine Wp.steps 1 (pc1 := 35) (lo1 := [some (.ref 113), some (.int x1), some (.int x2), some (.int x3)]) (st1 := [.int v7]) (h1 := mk g) rfl ?_
        have e1 := zb_r1 e
        subst e1
        exact Wp.ret rfl rfl rfl (K _)
      · skip
        refine Wp.iT (pc1 := 34) rfl (zb_eqT hc6) rfl ?_
        refine Wp.steps 1 (pc1 := 35) (lo1 := [some (.ref 113), some (.int x1), some (.int x2), some (.int x3)]) (st1 := [.int (-1)]) (h1 := mk g) rfl ?_
        have e1 := zb_r1 e
        subst e1
        exact Wp.ret rfl rfl rfl (K _)
    · skip
      refine Wp.iT (pc1 := 34) rfl (zb_eqT hc4) rfl ?_
      refine Wp.steps 1 (pc1 := 35) (lo1 := [some (.ref 113), some (.int x1), some (.int x2), some (.int x3)]) (st1 := [.int (-1)]) (h1 := mk g) rfl ?_
      have e1 := zb_r1 e
      subst e1
      exact Wp.ret rfl rfl rfl (K _)
  · skip
    refine Wp.iT (pc1 := 34) rfl (zb_eqT hc2) rfl ?_
    refine Wp.steps 1 (pc1 := 35) (lo1 := [some (.ref 113), some (.int x1), some (.int x2), some (.int x3)]) (st1 := [.int (-1)]) (h1 := mk g) rfl ?_
    have e1 := zb_r1 e
    subst e1
    exact Wp.ret rfl rfl rfl (K _)
