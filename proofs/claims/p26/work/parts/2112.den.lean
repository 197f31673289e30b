/-! printed by wip/tools/den.py -/
def d_3_42 (r1 : Nat) (x3 : Int32) (r4 : Nat) : Nat → Int32 → G → Option G
  | 0, _, _ => none
  | f + 1, x5, g =>
    bif zm_cmp .ge x5 (g 25 3) then (
      some g) else
    Option.bind (zm_ix x5 8) fun k4 =>
    bif zm_cmp .ne (g (r1 + 8 + k4) 2) (g r4 1) then (
      d_3_42 r1 x3 r4 f (x5 + 1) g) else
    Option.bind (d_23 r1 (g r4 1) (g (r1 + 8 + k4) 0) (g r4 0) g) fun v6 =>
    bif v6 then (
      Option.bind (zm_ix (x3 + (g (r1 + 8 + k4) 3)) 48) fun k8 =>
      Option.bind (zm_ix (x3 + (g (r1 + 8 + k4) 3)) 48) fun k10 =>
      zb_l (zg_up g 27 k10 ((g 27 k8) ||| ((1 : Int32) <<< (x5 &&& 31)))) fun g9 =>
      d_3_42 r1 x3 r4 f (x5 + 1) g9) else
    d_3_42 r1 x3 r4 f (x5 + 1) g
set_option maxRecDepth 100000 in
set_option maxHeartbeats 4000000 in
theorem w_3_42 {sc : Option (List Int32)} {d : Nat} (r1 : Nat) (x3 : Int32) (r4 : Nat) (h1 : zg_cl r1 = 2) (h4 : zg_cl r4 = 1) : ∀ (f : Nat) (x5 : Int32) (g : G) (g' : G), d_3_42 r1 x3 r4 f x5 g = some g' → zB sc (d + 2) 3 42 [some (.ref 25), some (.ref r1), none, some (.int x3), some (.ref r4), some (.int x5), none] [] (mk g) [] (mk g') := by
  intro f
  induction f with
  | zero =>
    intro x5 g g' e
    rw [d_3_42.eq_1] at e
    cases e
  | succ f ih =>
    intro x5 g g' e
    rw [d_3_42.eq_2] at e
    intro Q K
    refine Wp.steps 2 (pc1 := 45) (lo1 := [some (.ref 25), some (.ref r1), none, some (.int x3), some (.ref r4), some (.int x5), none]) (st1 := [.ref 25, .int x5]) (h1 := mk g) rfl ?_
    refine Wp.gf (pc1 := 48) (v := .int (g 25 3)) rfl rfl rfl rfl rfl ?_
    rcases zb_if e with ⟨hc3, e⟩ | ⟨hc3, e⟩
    · skip
      refine Wp.cT (pc1 := 120) rfl hc3 rfl ?_
      have e1 := zb_r1 e
      subst e1
      exact Wp.ret rfl rfl rfl (K _)
    · skip
      refine Wp.cF (pc1 := 51) rfl hc3 rfl ?_
      refine Wp.steps 1 (pc1 := 52) (lo1 := [some (.ref 25), some (.ref r1), none, some (.int x3), some (.ref r4), some (.int x5), none]) (st1 := [.ref r1]) (h1 := mk g) rfl ?_
      refine Wp.gf (pc1 := 55) (v := .ref (r1 + 2)) rfl h1 rfl rfl rfl ?_
      refine Wp.steps 1 (pc1 := 57) (lo1 := [some (.ref 25), some (.ref r1), none, some (.int x3), some (.ref r4), some (.int x5), none]) (st1 := [.int x5, .ref (r1 + 2)]) (h1 := mk g) rfl ?_
      obtain ⟨k4, hk4, e⟩ := zb_bind e
      refine Wp.aa (pc1 := 58) (v := (r1 + 8 + k4)) rfl (zg_rdeeds (b := r1) h1) rfl hk4 (by omega) rfl ?_
      refine Wp.steps 2 (pc1 := 62) (lo1 := [some (.ref 25), some (.ref r1), none, some (.int x3), some (.ref r4), some (.int x5), some (.ref (r1 + 8 + k4))]) (st1 := [.ref (r1 + 8 + k4)]) (h1 := mk g) rfl ?_
      refine Wp.gf (pc1 := 65) (v := .int (g (r1 + 8 + k4) 2)) rfl (zg_deed (b := r1) h1 hk4) rfl rfl rfl ?_
      refine Wp.steps 1 (pc1 := 67) (lo1 := [some (.ref 25), some (.ref r1), none, some (.int x3), some (.ref r4), some (.int x5), some (.ref (r1 + 8 + k4))]) (st1 := [.ref r4, .int (g (r1 + 8 + k4) 2)]) (h1 := mk g) rfl ?_
      refine Wp.gf (pc1 := 70) (v := .int (g r4 1)) rfl h4 rfl rfl rfl ?_
      rcases zb_if e with ⟨hc5, e⟩ | ⟨hc5, e⟩
      · skip
        refine Wp.cT (pc1 := 114) rfl hc5 rfl ?_
        refine Wp.steps 2 (pc1 := 42) (lo1 := [some (.ref 25), some (.ref r1), none, some (.int x3), some (.ref r4), some (.int (x5 + 1)), some (.ref (r1 + 8 + k4))]) (st1 := []) (h1 := mk g) rfl ?_
        refine Wp.fg [some (.ref 25), some (.ref r1), none, some (.int x3), some (.ref r4), some (.int (x5 + 1)), none] (zm_lle_s (zm_lle_s (zm_lle_n (zm_lle_s (zm_lle_s (zm_lle_s (zm_lle_n zm_lle_0))))))) ?_
        exact ih _ _ _ e Q K
      · skip
        refine Wp.cF (pc1 := 73) rfl hc5 rfl ?_
        refine Wp.steps 2 (pc1 := 76) (lo1 := [some (.ref 25), some (.ref r1), none, some (.int x3), some (.ref r4), some (.int x5), some (.ref (r1 + 8 + k4))]) (st1 := [.ref r4, .ref r1]) (h1 := mk g) rfl ?_
        refine Wp.gf (pc1 := 79) (v := .int (g r4 1)) rfl h4 rfl rfl rfl ?_
        refine Wp.steps 1 (pc1 := 81) (lo1 := [some (.ref 25), some (.ref r1), none, some (.int x3), some (.ref r4), some (.int x5), some (.ref (r1 + 8 + k4))]) (st1 := [.ref (r1 + 8 + k4), .int (g r4 1), .ref r1]) (h1 := mk g) rfl ?_
        refine Wp.gf (pc1 := 84) (v := .int (g (r1 + 8 + k4) 0)) rfl (zg_deed (b := r1) h1 hk4) rfl rfl rfl ?_
        refine Wp.steps 1 (pc1 := 86) (lo1 := [some (.ref 25), some (.ref r1), none, some (.int x3), some (.ref r4), some (.int x5), some (.ref (r1 + 8 + k4))]) (st1 := [.ref r4, .int (g (r1 + 8 + k4) 0), .int (g r4 1), .ref r1]) (h1 := mk g) rfl ?_
        refine Wp.gf (pc1 := 89) (v := .int (g r4 0)) rfl h4 rfl rfl rfl ?_
        obtain ⟨v6, hvv6, e⟩ := zb_bind e
        refine Wp.ca (m := 23) (d1 := d + 1) (as := [.ref r1, .int (g r4 1), .int (g (r1 + 8 + k4) 0), .int (g r4 0)]) (rest := []) (st1 := [.int (zb_i v6)]) (pc1 := 92) rfl rfl rfl rfl rfl rfl rfl rfl (mk_rok h1 rfl rfl rfl) rfl rfl rfl (w_23 (sc := sc) (d := d) r1 (g r4 1) (g (r1 + 8 + k4) 0) (g r4 0) h1 g hvv6) ?_
        rcases zb_if e with ⟨hc7, e⟩ | ⟨hc7, e⟩
        · skip
          refine Wp.iF (pc1 := 95) rfl (zb_eqF hc7) rfl ?_
          refine Wp.steps 1 (pc1 := 96) (lo1 := [some (.ref 25), some (.ref r1), none, some (.int x3), some (.ref r4), some (.int x5), some (.ref (r1 + 8 + k4))]) (st1 := [.ref 25]) (h1 := mk g) rfl ?_
          refine Wp.gf (pc1 := 99) (v := .ref 27) rfl rfl rfl rfl rfl ?_
          refine Wp.steps 2 (pc1 := 102) (lo1 := [some (.ref 25), some (.ref r1), none, some (.int x3), some (.ref r4), some (.int x5), some (.ref (r1 + 8 + k4))]) (st1 := [.ref (r1 + 8 + k4), .int x3, .ref 27]) (h1 := mk g) rfl ?_
          refine Wp.gf (pc1 := 105) (v := .int (g (r1 + 8 + k4) 3)) rfl (zg_deed (b := r1) h1 hk4) rfl rfl rfl ?_
          refine Wp.steps 2 (pc1 := 107) (lo1 := [some (.ref 25), some (.ref r1), none, some (.int x3), some (.ref r4), some (.int x5), some (.ref (r1 + 8 + k4))]) (st1 := [.int (x3 + (g (r1 + 8 + k4) 3)), .ref 27, .int (x3 + (g (r1 + 8 + k4) 3)), .ref 27]) (h1 := mk g) rfl ?_
          obtain ⟨k8, hk8, e⟩ := zb_bind e
          refine Wp.ia (pc1 := 108) rfl rfl rfl hk8 rfl ?_
          refine Wp.steps 4 (pc1 := 113) (lo1 := [some (.ref 25), some (.ref r1), none, some (.int x3), some (.ref r4), some (.int x5), some (.ref (r1 + 8 + k4))]) (st1 := [.int ((g 27 k8) ||| ((1 : Int32) <<< (x5 &&& 31))), .int (x3 + (g (r1 + 8 + k4) 3)), .ref 27]) (h1 := mk g) rfl ?_
          obtain ⟨k10, hk10, e⟩ := zb_bind e
          obtain ⟨g9, hg9, e⟩ := zb_let e
          refine Wp.ias (pc1 := 114) rfl rfl rfl hk10 hg9 rfl ?_
          refine Wp.steps 2 (pc1 := 42) (lo1 := [some (.ref 25), some (.ref r1), none, some (.int x3), some (.ref r4), some (.int (x5 + 1)), some (.ref (r1 + 8 + k4))]) (st1 := []) (h1 := mk g9) rfl ?_
          refine Wp.fg [some (.ref 25), some (.ref r1), none, some (.int x3), some (.ref r4), some (.int (x5 + 1)), none] (zm_lle_s (zm_lle_s (zm_lle_n (zm_lle_s (zm_lle_s (zm_lle_s (zm_lle_n zm_lle_0))))))) ?_
          exact ih _ _ _ e Q K
        · skip
          refine Wp.iT (pc1 := 114) rfl (zb_eqT hc7) rfl ?_
          refine Wp.steps 2 (pc1 := 42) (lo1 := [some (.ref 25), some (.ref r1), none, some (.int x3), some (.ref r4), some (.int (x5 + 1)), some (.ref (r1 + 8 + k4))]) (st1 := []) (h1 := mk g) rfl ?_
          refine Wp.fg [some (.ref 25), some (.ref r1), none, some (.int x3), some (.ref r4), some (.int (x5 + 1)), none] (zm_lle_s (zm_lle_s (zm_lle_n (zm_lle_s (zm_lle_s (zm_lle_s (zm_lle_n zm_lle_0))))))) ?_
          exact ih _ _ _ e Q K
def d_3_8 (r1 : Nat) (x2 : Int32) (x3 : Int32) : Nat → Int32 → G → Option G
  | 0, _, _ => none
  | f + 1, x4, g =>
    bif zm_cmp .ge x4 6 then (
      Option.bind (zm_ix x2 8) fun k2 =>
      d_3_42 r1 x3 (r1 + 8 + k2) 300 0 g) else
    Option.bind (zm_ix (x3 + x4) 48) fun k12 =>
    zb_l (zg_up g 27 k12 0) fun g11 =>
    d_3_8 r1 x2 x3 f (x4 + 1) g11
set_option maxRecDepth 100000 in
set_option maxHeartbeats 4000000 in
theorem w_3_8 {sc : Option (List Int32)} {d : Nat} (r1 : Nat) (x2 : Int32) (x3 : Int32) (h1 : zg_cl r1 = 2) : ∀ (f : Nat) (x4 : Int32) (g : G) (g' : G), d_3_8 r1 x2 x3 f x4 g = some g' → zB sc (d + 2) 3 8 [some (.ref 25), some (.ref r1), some (.int x2), some (.int x3), some (.int x4), none, none] [] (mk g) [] (mk g') := by
  intro f
  induction f with
  | zero =>
    intro x4 g g' e
    rw [d_3_8.eq_1] at e
    cases e
  | succ f ih =>
    intro x4 g g' e
    rw [d_3_8.eq_2] at e
    intro Q K
    refine Wp.steps 2 (pc1 := 12) (lo1 := [some (.ref 25), some (.ref r1), some (.int x2), some (.int x3), some (.int x4), none, none]) (st1 := [.int 6, .int x4]) (h1 := mk g) rfl ?_
    rcases zb_if e with ⟨hc1, e⟩ | ⟨hc1, e⟩
    · skip
      refine Wp.cT (pc1 := 31) rfl hc1 rfl ?_
      refine Wp.steps 1 (pc1 := 32) (lo1 := [some (.ref 25), some (.ref r1), some (.int x2), some (.int x3), some (.int x4), none, none]) (st1 := [.ref r1]) (h1 := mk g) rfl ?_
      refine Wp.gf (pc1 := 35) (v := .ref (r1 + 2)) rfl h1 rfl rfl rfl ?_
      refine Wp.steps 1 (pc1 := 36) (lo1 := [some (.ref 25), some (.ref r1), some (.int x2), some (.int x3), some (.int x4), none, none]) (st1 := [.int x2, .ref (r1 + 2)]) (h1 := mk g) rfl ?_
      obtain ⟨k2, hk2, e⟩ := zb_bind e
      refine Wp.aa (pc1 := 37) (v := (r1 + 8 + k2)) rfl (zg_rdeeds (b := r1) h1) rfl hk2 (by omega) rfl ?_
      refine Wp.steps 3 (pc1 := 42) (lo1 := [some (.ref 25), some (.ref r1), some (.int x2), some (.int x3), some (.ref (r1 + 8 + k2)), some (.int 0), none]) (st1 := []) (h1 := mk g) rfl ?_
      refine Wp.fg [some (.ref 25), some (.ref r1), none, some (.int x3), some (.ref (r1 + 8 + k2)), some (.int 0), none] (zm_lle_s (zm_lle_s (zm_lle_n (zm_lle_s (zm_lle_s (zm_lle_s (zm_lle_n zm_lle_0))))))) ?_
      exact w_3_42 (sc := sc) (d := d) r1 x3 (r1 + 8 + k2) h1 (zg_deed (b := r1) h1 hk2) 300 0 g _ e Q K
    · skip
      refine Wp.cF (pc1 := 15) rfl hc1 rfl ?_
      refine Wp.steps 1 (pc1 := 16) (lo1 := [some (.ref 25), some (.ref r1), some (.int x2), some (.int x3), some (.int x4), none, none]) (st1 := [.ref 25]) (h1 := mk g) rfl ?_
      refine Wp.gf (pc1 := 19) (v := .ref 27) rfl rfl rfl rfl rfl ?_
      refine Wp.steps 4 (pc1 := 24) (lo1 := [some (.ref 25), some (.ref r1), some (.int x2), some (.int x3), some (.int x4), none, none]) (st1 := [.int 0, .int (x3 + x4), .ref 27]) (h1 := mk g) rfl ?_
      obtain ⟨k12, hk12, e⟩ := zb_bind e
      obtain ⟨g11, hg11, e⟩ := zb_let e
      refine Wp.ias (pc1 := 25) rfl rfl rfl hk12 hg11 rfl ?_
      refine Wp.steps 2 (pc1 := 8) (lo1 := [some (.ref 25), some (.ref r1), some (.int x2), some (.int x3), some (.int (x4 + 1)), none, none]) (st1 := []) (h1 := mk g11) rfl ?_
      exact ih _ _ _ e Q K
/-- EveningFirst$Bonds.findBringers(LEveningFirst$Family;I)V -/
def d_3 (r1 : Nat) (x2 : Int32) (g : G) : Option G :=
  d_3_8 r1 x2 (x2 * 6) 300 0 g
set_option maxRecDepth 100000 in
set_option maxHeartbeats 4000000 in
theorem w_3 {sc : Option (List Int32)} {d : Nat} (r1 : Nat) (x2 : Int32) (h1 : zg_cl r1 = 2) (g : G) {g' : G} (e : d_3 r1 x2 g = some g') : zB sc (d + 2) 3 0 (zm_ent (z_L 3) [.ref 25, .ref r1, .int x2]) [] (mk g) [] (mk g') := by
  unfold d_3 at e
  intro Q K
  show Wp sc (d + 2) 3 0 [some (.ref 25), some (.ref r1), some (.int x2), none, none, none, none] [] (mk g) Q
  refine Wp.steps 6 (pc1 := 8) (lo1 := [some (.ref 25), some (.ref r1), some (.int x2), some (.int (x2 * 6)), some (.int 0), none, none]) (st1 := []) (h1 := mk g) rfl ?_
  exact w_3_8 (sc := sc) (d := d) r1 x2 (x2 * 6) h1 300 0 g _ e Q K
def d_2_32 (r1 : Nat) : Nat → Int32 → G → Option G
  | 0, _, _ => none
  | f + 1, x2, g =>
    bif zm_cmp .ge x2 (g 25 3) then (
      some g) else
    Option.bind (zm_ix x2 8) fun k6 =>
    Option.bind (zm_ix (g (r1 + 8 + k6) 1) 4) fun k7 =>
    Option.bind (zm_ix x2 8) fun k9 =>
    zb_l (zg_up g 26 k9 ((g (r1 + 8 + k6) 4) &&& ((g (r1 + 4 + k7) 1) ^^^ (-1)))) fun g8 =>
    bif zm_cmp .ne (g8 (r1 + 8 + k6) 5) 1 then (
      zb_l (zg_up g8 25 1 ((g8 25 1) ||| 0)) fun g11 =>
      bif zm_cmp .ne (g11 (r1 + 8 + k6) 5) 2 then (
        zb_l (zg_up g11 25 2 ((g11 25 2) ||| 0)) fun g13 =>
        Option.bind (d_3 r1 x2 g13) fun g14 =>
        d_2_32 r1 f (x2 + 1) g14) else
      zb_l (zg_up g11 25 2 ((g11 25 2) ||| ((1 : Int32) <<< (x2 &&& 31)))) fun g15 =>
      Option.bind (d_3 r1 x2 g15) fun g16 =>
      d_2_32 r1 f (x2 + 1) g16) else
    zb_l (zg_up g8 25 1 ((g8 25 1) ||| ((1 : Int32) <<< (x2 &&& 31)))) fun g17 =>
    bif zm_cmp .ne (g17 (r1 + 8 + k6) 5) 2 then (
      zb_l (zg_up g17 25 2 ((g17 25 2) ||| 0)) fun g19 =>
      Option.bind (d_3 r1 x2 g19) fun g20 =>
      d_2_32 r1 f (x2 + 1) g20) else
    zb_l (zg_up g17 25 2 ((g17 25 2) ||| ((1 : Int32) <<< (x2 &&& 31)))) fun g21 =>
    Option.bind (d_3 r1 x2 g21) fun g22 =>
    d_2_32 r1 f (x2 + 1) g22
set_option maxRecDepth 100000 in
set_option maxHeartbeats 4000000 in
theorem w_2_32 {sc : Option (List Int32)} {d : Nat} (r1 : Nat) (h1 : zg_cl r1 = 2) : ∀ (f : Nat) (x2 : Int32) (g : G) (g' : G), d_2_32 r1 f x2 g = some g' → zB sc (d + 3) 2 32 [some (.ref 25), some (.ref r1), some (.int x2), none] [] (mk g) [] (mk g') := by
  intro f
  induction f with
  | zero =>
    intro x2 g g' e
    rw [d_2_32.eq_1] at e
    cases e
  | succ f ih =>
    intro x2 g g' e
    rw [d_2_32.eq_2] at e
    intro Q K
    refine Wp.steps 2 (pc1 := 34) (lo1 := [some (.ref 25), some (.ref r1), some (.int x2), none]) (st1 := [.ref 25, .int x2]) (h1 := mk g) rfl ?_
    refine Wp.gf (pc1 := 37) (v := .int (g 25 3)) rfl rfl rfl rfl rfl ?_
    rcases zb_if e with ⟨hc5, e⟩ | ⟨hc5, e⟩
    · skip
      refine Wp.cT (pc1 := 132) rfl hc5 rfl ?_
      have e1 := zb_r1 e
      subst e1
      exact Wp.ret rfl rfl rfl (K _)
    · skip
      refine Wp.cF (pc1 := 40) rfl hc5 rfl ?_
      refine Wp.steps 1 (pc1 := 41) (lo1 := [some (.ref 25), some (.ref r1), some (.int x2), none]) (st1 := [.ref r1]) (h1 := mk g) rfl ?_
      refine Wp.gf (pc1 := 44) (v := .ref (r1 + 2)) rfl h1 rfl rfl rfl ?_
      refine Wp.steps 1 (pc1 := 45) (lo1 := [some (.ref 25), some (.ref r1), some (.int x2), none]) (st1 := [.int x2, .ref (r1 + 2)]) (h1 := mk g) rfl ?_
      obtain ⟨k6, hk6, e⟩ := zb_bind e
      refine Wp.aa (pc1 := 46) (v := (r1 + 8 + k6)) rfl (zg_rdeeds (b := r1) h1) rfl hk6 (by omega) rfl ?_
      refine Wp.steps 2 (pc1 := 48) (lo1 := [some (.ref 25), some (.ref r1), some (.int x2), some (.ref (r1 + 8 + k6))]) (st1 := [.ref 25]) (h1 := mk g) rfl ?_
      refine Wp.gf (pc1 := 51) (v := .ref 26) rfl rfl rfl rfl rfl ?_
      refine Wp.steps 2 (pc1 := 53) (lo1 := [some (.ref 25), some (.ref r1), some (.int x2), some (.ref (r1 + 8 + k6))]) (st1 := [.ref (r1 + 8 + k6), .int x2, .ref 26]) (h1 := mk g) rfl ?_
      refine Wp.gf (pc1 := 56) (v := .int (g (r1 + 8 + k6) 4)) rfl (zg_deed (b := r1) h1 hk6) rfl rfl rfl ?_
      refine Wp.steps 1 (pc1 := 57) (lo1 := [some (.ref 25), some (.ref r1), some (.int x2), some (.ref (r1 + 8 + k6))]) (st1 := [.ref r1, .int (g (r1 + 8 + k6) 4), .int x2, .ref 26]) (h1 := mk g) rfl ?_
      refine Wp.gf (pc1 := 60) (v := .ref (r1 + 1)) rfl h1 rfl rfl rfl ?_
      refine Wp.steps 1 (pc1 := 61) (lo1 := [some (.ref 25), some (.ref r1), some (.int x2), some (.ref (r1 + 8 + k6))]) (st1 := [.ref (r1 + 8 + k6), .ref (r1 + 1), .int (g (r1 + 8 + k6) 4), .int x2, .ref 26]) (h1 := mk g) rfl ?_
      refine Wp.gf (pc1 := 64) (v := .int (g (r1 + 8 + k6) 1)) rfl (zg_deed (b := r1) h1 hk6) rfl rfl rfl ?_
      obtain ⟨k7, hk7, e⟩ := zb_bind e
      refine Wp.aa (pc1 := 65) (v := (r1 + 4 + k7)) rfl (zg_rones (b := r1) h1) rfl hk7 (by omega) rfl ?_
      refine Wp.gf (pc1 := 68) (v := .int (g (r1 + 4 + k7) 1)) rfl (zg_one (b := r1) h1 hk7) rfl rfl rfl ?_
      refine Wp.steps 3 (pc1 := 71) (lo1 := [some (.ref 25), some (.ref r1), some (.int x2), some (.ref (r1 + 8 + k6))]) (st1 := [.int ((g (r1 + 8 + k6) 4) &&& ((g (r1 + 4 + k7) 1) ^^^ (-1))), .int x2, .ref 26]) (h1 := mk g) rfl ?_
      obtain ⟨k9, hk9, e⟩ := zb_bind e
      obtain ⟨g8, hg8, e⟩ := zb_let e
      refine Wp.ias (pc1 := 72) rfl rfl rfl hk9 hg8 rfl ?_
      refine Wp.steps 2 (pc1 := 74) (lo1 := [some (.ref 25), some (.ref r1), some (.int x2), some (.ref (r1 + 8 + k6))]) (st1 := [.ref 25, .ref 25]) (h1 := mk g8) rfl ?_
      refine Wp.gf (pc1 := 77) (v := .int (g8 25 1)) rfl rfl rfl rfl rfl ?_
      refine Wp.steps 1 (pc1 := 78) (lo1 := [some (.ref 25), some (.ref r1), some (.int x2), some (.ref (r1 + 8 + k6))]) (st1 := [.ref (r1 + 8 + k6), .int (g8 25 1), .ref 25]) (h1 := mk g8) rfl ?_
      refine Wp.gf (pc1 := 81) (v := .int (g8 (r1 + 8 + k6) 5)) rfl (zg_deed (b := r1) h1 hk6) rfl rfl rfl ?_
      refine Wp.steps 1 (pc1 := 82) (lo1 := [some (.ref 25), some (.ref r1), some (.int x2), some (.ref (r1 + 8 + k6))]) (st1 := [.int 1, .int (g8 (r1 + 8 + k6) 5), .int (g8 25 1), .ref 25]) (h1 := mk g8) rfl ?_
      rcases zb_if e with ⟨hc10, e⟩ | ⟨hc10, e⟩
      · skip
        refine Wp.cT (pc1 := 91) rfl hc10 rfl ?_
        refine Wp.steps 2 (pc1 := 93) (lo1 := [some (.ref 25), some (.ref r1), some (.int x2), some (.ref (r1 + 8 + k6))]) (st1 := [.int ((g8 25 1) ||| 0), .ref 25]) (h1 := mk g8) rfl ?_
        obtain ⟨g11, hg11, e⟩ := zb_let e
        refine Wp.pf (pc1 := 96) rfl rfl rfl rfl rfl rfl hg11 rfl ?_
        refine Wp.steps 2 (pc1 := 98) (lo1 := [some (.ref 25), some (.ref r1), some (.int x2), some (.ref (r1 + 8 + k6))]) (st1 := [.ref 25, .ref 25]) (h1 := mk g11) rfl ?_
        refine Wp.gf (pc1 := 101) (v := .int (g11 25 2)) rfl rfl rfl rfl rfl ?_
        refine Wp.steps 1 (pc1 := 102) (lo1 := [some (.ref 25), some (.ref r1), some (.int x2), some (.ref (r1 + 8 + k6))]) (st1 := [.ref (r1 + 8 + k6), .int (g11 25 2), .ref 25]) (h1 := mk g11) rfl ?_
        refine Wp.gf (pc1 := 105) (v := .int (g11 (r1 + 8 + k6) 5)) rfl (zg_deed (b := r1) h1 hk6) rfl rfl rfl ?_
        refine Wp.steps 1 (pc1 := 106) (lo1 := [some (.ref 25), some (.ref r1), some (.int x2), some (.ref (r1 + 8 + k6))]) (st1 := [.int 2, .int (g11 (r1 + 8 + k6) 5), .int (g11 25 2), .ref 25]) (h1 := mk g11) rfl ?_
        rcases zb_if e with ⟨hc12, e⟩ | ⟨hc12, e⟩
        · skip
          refine Wp.cT (pc1 := 115) rfl hc12 rfl ?_
          refine Wp.steps 2 (pc1 := 117) (lo1 := [some (.ref 25), some (.ref r1), some (.int x2), some (.ref (r1 + 8 + k6))]) (st1 := [.int ((g11 25 2) ||| 0), .ref 25]) (h1 := mk g11) rfl ?_
          obtain ⟨g13, hg13, e⟩ := zb_let e
          refine Wp.pf (pc1 := 120) rfl rfl rfl rfl rfl rfl hg13 rfl ?_
          refine Wp.steps 3 (pc1 := 123) (lo1 := [some (.ref 25), some (.ref r1), some (.int x2), some (.ref (r1 + 8 + k6))]) (st1 := [.int x2, .ref r1, .ref 25]) (h1 := mk g13) rfl ?_
          obtain ⟨g14, hvg14, e⟩ := zb_bind e
          refine Wp.ca (m := 3) (d1 := d + 2) (as := [.ref 25, .ref r1, .int x2]) (rest := []) (st1 := []) (pc1 := 126) rfl rfl rfl rfl rfl rfl rfl rfl (mk_rok rfl rfl rfl rfl) rfl rfl rfl (w_3 (sc := sc) (d := d) r1 x2 h1 g13 hvg14) ?_
          refine Wp.steps 2 (pc1 := 32) (lo1 := [some (.ref 25), some (.ref r1), some (.int (x2 + 1)), some (.ref (r1 + 8 + k6))]) (st1 := []) (h1 := mk g14) rfl ?_
          refine Wp.fg [some (.ref 25), some (.ref r1), some (.int (x2 + 1)), none] (zm_lle_s (zm_lle_s (zm_lle_s (zm_lle_n zm_lle_0)))) ?_
          exact ih _ _ _ e Q K
        · skip
          refine Wp.cF (pc1 := 109) rfl hc12 rfl ?_
          refine Wp.steps 5 (pc1 := 117) (lo1 := [some (.ref 25), some (.ref r1), some (.int x2), some (.ref (r1 + 8 + k6))]) (st1 := [.int ((g11 25 2) ||| ((1 : Int32) <<< (x2 &&& 31))), .ref 25]) (h1 := mk g11) rfl ?_
          obtain ⟨g15, hg15, e⟩ := zb_let e
          refine Wp.pf (pc1 := 120) rfl rfl rfl rfl rfl rfl hg15 rfl ?_
          refine Wp.steps 3 (pc1 := 123) (lo1 := [some (.ref 25), some (.ref r1), some (.int x2), some (.ref (r1 + 8 + k6))]) (st1 := [.int x2, .ref r1, .ref 25]) (h1 := mk g15) rfl ?_
          obtain ⟨g16, hvg16, e⟩ := zb_bind e
          refine Wp.ca (m := 3) (d1 := d + 2) (as := [.ref 25, .ref r1, .int x2]) (rest := []) (st1 := []) (pc1 := 126) rfl rfl rfl rfl rfl rfl rfl rfl (mk_rok rfl rfl rfl rfl) rfl rfl rfl (w_3 (sc := sc) (d := d) r1 x2 h1 g15 hvg16) ?_
          refine Wp.steps 2 (pc1 := 32) (lo1 := [some (.ref 25), some (.ref r1), some (.int (x2 + 1)), some (.ref (r1 + 8 + k6))]) (st1 := []) (h1 := mk g16) rfl ?_
          refine Wp.fg [some (.ref 25), some (.ref r1), some (.int (x2 + 1)), none] (zm_lle_s (zm_lle_s (zm_lle_s (zm_lle_n zm_lle_0)))) ?_
          exact ih _ _ _ e Q K
      · skip
        refine Wp.cF (pc1 := 85) rfl hc10 rfl ?_
        refine Wp.steps 5 (pc1 := 93) (lo1 := [some (.ref 25), some (.ref r1), some (.int x2), some (.ref (r1 + 8 + k6))]) (st1 := [.int ((g8 25 1) ||| ((1 : Int32) <<< (x2 &&& 31))), .ref 25]) (h1 := mk g8) rfl ?_
        obtain ⟨g17, hg17, e⟩ := zb_let e
        refine Wp.pf (pc1 := 96) rfl rfl rfl rfl rfl rfl hg17 rfl ?_
        refine Wp.steps 2 (pc1 := 98) (lo1 := [some (.ref 25), some (.ref r1), some (.int x2), some (.ref (r1 + 8 + k6))]) (st1 := [.ref 25, .ref 25]) (h1 := mk g17) rfl ?_
        refine Wp.gf (pc1 := 101) (v := .int (g17 25 2)) rfl rfl rfl rfl rfl ?_
        refine Wp.steps 1 (pc1 := 102) (lo1 := [some (.ref 25), some (.ref r1), some (.int x2), some (.ref (r1 + 8 + k6))]) (st1 := [.ref (r1 + 8 + k6), .int (g17 25 2), .ref 25]) (h1 := mk g17) rfl ?_
        refine Wp.gf (pc1 := 105) (v := .int (g17 (r1 + 8 + k6) 5)) rfl (zg_deed (b := r1) h1 hk6) rfl rfl rfl ?_
        refine Wp.steps 1 (pc1 := 106) (lo1 := [some (.ref 25), some (.ref r1), some (.int x2), some (.ref (r1 + 8 + k6))]) (st1 := [.int 2, .int (g17 (r1 + 8 + k6) 5), .int (g17 25 2), .ref 25]) (h1 := mk g17) rfl ?_
        rcases zb_if e with ⟨hc18, e⟩ | ⟨hc18, e⟩
        · skip
          refine Wp.cT (pc1 := 115) rfl hc18 rfl ?_
          refine Wp.steps 2 (pc1 := 117) (lo1 := [some (.ref 25), some (.ref r1), some (.int x2), some (.ref (r1 + 8 + k6))]) (st1 := [.int ((g17 25 2) ||| 0), .ref 25]) (h1 := mk g17) rfl ?_
          obtain ⟨g19, hg19, e⟩ := zb_let e
          refine Wp.pf (pc1 := 120) rfl rfl rfl rfl rfl rfl hg19 rfl ?_
          refine Wp.steps 3 (pc1 := 123) (lo1 := [some (.ref 25), some (.ref r1), some (.int x2), some (.ref (r1 + 8 + k6))]) (st1 := [.int x2, .ref r1, .ref 25]) (h1 := mk g19) rfl ?_
          obtain ⟨g20, hvg20, e⟩ := zb_bind e
          refine Wp.ca (m := 3) (d1 := d + 2) (as := [.ref 25, .ref r1, .int x2]) (rest := []) (st1 := []) (pc1 := 126) rfl rfl rfl rfl rfl rfl rfl rfl (mk_rok rfl rfl rfl rfl) rfl rfl rfl (w_3 (sc := sc) (d := d) r1 x2 h1 g19 hvg20) ?_
          refine Wp.steps 2 (pc1 := 32) (lo1 := [some (.ref 25), some (.ref r1), some (.int (x2 + 1)), some (.ref (r1 + 8 + k6))]) (st1 := []) (h1 := mk g20) rfl ?_
          refine Wp.fg [some (.ref 25), some (.ref r1), some (.int (x2 + 1)), none] (zm_lle_s (zm_lle_s (zm_lle_s (zm_lle_n zm_lle_0)))) ?_
          exact ih _ _ _ e Q K
        · skip
          refine Wp.cF (pc1 := 109) rfl hc18 rfl ?_
          refine Wp.steps 5 (pc1 := 117) (lo1 := [some (.ref 25), some (.ref r1), some (.int x2), some (.ref (r1 + 8 + k6))]) (st1 := [.int ((g17 25 2) ||| ((1 : Int32) <<< (x2 &&& 31))), .ref 25]) (h1 := mk g17) rfl ?_
          obtain ⟨g21, hg21, e⟩ := zb_let e
          refine Wp.pf (pc1 := 120) rfl rfl rfl rfl rfl rfl hg21 rfl ?_
          refine Wp.steps 3 (pc1 := 123) (lo1 := [some (.ref 25), some (.ref r1), some (.int x2), some (.ref (r1 + 8 + k6))]) (st1 := [.int x2, .ref r1, .ref 25]) (h1 := mk g21) rfl ?_
          obtain ⟨g22, hvg22, e⟩ := zb_bind e
          refine Wp.ca (m := 3) (d1 := d + 2) (as := [.ref 25, .ref r1, .int x2]) (rest := []) (st1 := []) (pc1 := 126) rfl rfl rfl rfl rfl rfl rfl rfl (mk_rok rfl rfl rfl rfl) rfl rfl rfl (w_3 (sc := sc) (d := d) r1 x2 h1 g21 hvg22) ?_
          refine Wp.steps 2 (pc1 := 32) (lo1 := [some (.ref 25), some (.ref r1), some (.int (x2 + 1)), some (.ref (r1 + 8 + k6))]) (st1 := []) (h1 := mk g22) rfl ?_
          refine Wp.fg [some (.ref 25), some (.ref r1), some (.int (x2 + 1)), none] (zm_lle_s (zm_lle_s (zm_lle_s (zm_lle_n zm_lle_0)))) ?_
          exact ih _ _ _ e Q K
/-- EveningFirst$Bonds.look(LEveningFirst$Family;)V -/
def d_2 (r1 : Nat) (g : G) : Option G :=
  zb_l (zg_up g 25 3 (g r1 2)) fun g1 =>
  zb_l (zg_up g1 25 0 (((1 : Int32) <<< ((g1 25 3) &&& 31)) - 1)) fun g2 =>
  zb_l (zg_up g2 25 1 0) fun g3 =>
  zb_l (zg_up g3 25 2 0) fun g4 =>
  d_2_32 r1 300 0 g4
set_option maxRecDepth 100000 in
set_option maxHeartbeats 4000000 in
theorem w_2 {sc : Option (List Int32)} {d : Nat} (r1 : Nat) (h1 : zg_cl r1 = 2) (g : G) {g' : G} (e : d_2 r1 g = some g') : zB sc (d + 3) 2 0 (zm_ent (z_L 2) [.ref 25, .ref r1]) [] (mk g) [] (mk g') := by
  unfold d_2 at e
  intro Q K
  show Wp sc (d + 3) 2 0 [some (.ref 25), some (.ref r1), none, none] [] (mk g) Q
  refine Wp.steps 2 (pc1 := 2) (lo1 := [some (.ref 25), some (.ref r1), none, none]) (st1 := [.ref r1, .ref 25]) (h1 := mk g) rfl ?_
  refine Wp.gf (pc1 := 5) (v := .int (g r1 2)) rfl h1 rfl rfl rfl ?_
  obtain ⟨g1, hg1, e⟩ := zb_let e
  refine Wp.pf (pc1 := 8) rfl rfl rfl rfl rfl rfl hg1 rfl ?_
  refine Wp.steps 3 (pc1 := 11) (lo1 := [some (.ref 25), some (.ref r1), none, none]) (st1 := [.ref 25, .int 1, .ref 25]) (h1 := mk g1) rfl ?_
  refine Wp.gf (pc1 := 14) (v := .int (g1 25 3)) rfl rfl rfl rfl rfl ?_
  refine Wp.steps 3 (pc1 := 17) (lo1 := [some (.ref 25), some (.ref r1), none, none]) (st1 := [.int (((1 : Int32) <<< ((g1 25 3) &&& 31)) - 1), .ref 25]) (h1 := mk g1) rfl ?_
  obtain ⟨g2, hg2, e⟩ := zb_let e
  refine Wp.pf (pc1 := 20) rfl rfl rfl rfl rfl rfl hg2 rfl ?_
  refine Wp.steps 2 (pc1 := 22) (lo1 := [some (.ref 25), some (.ref r1), none, none]) (st1 := [.int 0, .ref 25]) (h1 := mk g2) rfl ?_
  obtain ⟨g3, hg3, e⟩ := zb_let e
  refine Wp.pf (pc1 := 25) rfl rfl rfl rfl rfl rfl hg3 rfl ?_
  refine Wp.steps 2 (pc1 := 27) (lo1 := [some (.ref 25), some (.ref r1), none, none]) (st1 := [.int 0, .ref 25]) (h1 := mk g3) rfl ?_
  obtain ⟨g4, hg4, e⟩ := zb_let e
  refine Wp.pf (pc1 := 30) rfl rfl rfl rfl rfl rfl hg4 rfl ?_
  refine Wp.steps 2 (pc1 := 32) (lo1 := [some (.ref 25), some (.ref r1), some (.int 0), none]) (st1 := []) (h1 := mk g4) rfl ?_
  exact w_2_32 (sc := sc) (d := d) r1 h1 300 0 g4 _ e Q K
def d_4_22 (x2 : Int32) (x4 : Int32) (g : G) : Nat → Int32 → Int32 → Option Int32
  | 0, _, _ => none
  | f + 1, x3, x5 =>
    bif zm_cmp .ge x5 6 then (
      some x3) else
    Option.bind (zm_ix (x4 + x5) 48) fun k4 =>
    bif zm_cmp .eq ((g 27 k4) &&& x2) 0 then (
      d_4_22 x2 x4 g f x3 (x5 + 1)) else
    d_4_22 x2 x4 g f (x3 &&& (((1 : Int32) <<< (x5 &&& 31)) ^^^ (-1))) (x5 + 1)
set_option maxRecDepth 100000 in
set_option maxHeartbeats 4000000 in
theorem w_4_22 {sc : Option (List Int32)} {d : Nat} (x2 : Int32) (x4 : Int32) (g : G) : ∀ (f : Nat) (x3 : Int32) (x5 : Int32) (r : Int32), d_4_22 x2 x4 g f x3 x5 = some r → zB sc (d) 4 22 [some (.ref 25), none, some (.int x2), some (.int x3), some (.int x4), some (.int x5)] [] (mk g) [.int r] (mk g) := by
  intro f
  induction f with
  | zero =>
    intro x3 x5 r e
    rw [d_4_22.eq_1] at e
    cases e
  | succ f ih =>
    intro x3 x5 r e
    rw [d_4_22.eq_2] at e
    intro Q K
    refine Wp.steps 2 (pc1 := 26) (lo1 := [some (.ref 25), none, some (.int x2), some (.int x3), some (.int x4), some (.int x5)]) (st1 := [.int 6, .int x5]) (h1 := mk g) rfl ?_
    rcases zb_if e with ⟨hc3, e⟩ | ⟨hc3, e⟩
    · skip
      refine Wp.cT (pc1 := 59) rfl hc3 rfl ?_
      refine Wp.steps 1 (pc1 := 60) (lo1 := [some (.ref 25), none, some (.int x2), some (.int x3), some (.int x4), some (.int x5)]) (st1 := [.int x3]) (h1 := mk g) rfl ?_
      have e1 := zb_r1 e
      subst e1
      exact Wp.ret rfl rfl rfl (K _)
    · skip
      refine Wp.cF (pc1 := 29) rfl hc3 rfl ?_
      refine Wp.steps 1 (pc1 := 30) (lo1 := [some (.ref 25), none, some (.int x2), some (.int x3), some (.int x4), some (.int x5)]) (st1 := [.ref 25]) (h1 := mk g) rfl ?_
      refine Wp.gf (pc1 := 33) (v := .ref 27) rfl rfl rfl rfl rfl ?_
      refine Wp.steps 3 (pc1 := 38) (lo1 := [some (.ref 25), none, some (.int x2), some (.int x3), some (.int x4), some (.int x5)]) (st1 := [.int (x4 + x5), .ref 27]) (h1 := mk g) rfl ?_
      obtain ⟨k4, hk4, e⟩ := zb_bind e
      refine Wp.ia (pc1 := 39) rfl rfl rfl hk4 rfl ?_
      refine Wp.steps 2 (pc1 := 41) (lo1 := [some (.ref 25), none, some (.int x2), some (.int x3), some (.int x4), some (.int x5)]) (st1 := [.int ((g 27 k4) &&& x2)]) (h1 := mk g) rfl ?_
      rcases zb_if e with ⟨hc5, e⟩ | ⟨hc5, e⟩
      · skip
        refine Wp.iT (pc1 := 53) rfl hc5 rfl ?_
        refine Wp.steps 2 (pc1 := 22) (lo1 := [some (.ref 25), none, some (.int x2), some (.int x3), some (.int x4), some (.int (x5 + 1))]) (st1 := []) (h1 := mk g) rfl ?_
        exact ih _ _ _ e Q K
      · skip
        refine Wp.iF (pc1 := 44) rfl hc5 rfl ?_
        refine Wp.steps 8 (pc1 := 53) (lo1 := [some (.ref 25), none, some (.int x2), some (.int (x3 &&& (((1 : Int32) <<< (x5 &&& 31)) ^^^ (-1)))), some (.int x4), some (.int x5)]) (st1 := []) (h1 := mk g) rfl ?_
        refine Wp.steps 2 (pc1 := 22) (lo1 := [some (.ref 25), none, some (.int x2), some (.int (x3 &&& (((1 : Int32) <<< (x5 &&& 31)) ^^^ (-1)))), some (.int x4), some (.int (x5 + 1))]) (st1 := []) (h1 := mk g) rfl ?_
        exact ih _ _ _ e Q K
/-- EveningFirst$Bonds.lackingFor(II)I -/
def d_4 (x1 : Int32) (x2 : Int32) (g : G) : Option Int32 :=
  Option.bind (zm_ix x1 8) fun k1 =>
  bif zm_cmp .ne (g 26 k1) 0 then (
    d_4_22 x2 (x1 * 6) g 300 (g 26 k1) 0) else
  some 0
set_option maxRecDepth 100000 in
set_option maxHeartbeats 4000000 in
theorem w_4 {sc : Option (List Int32)} {d : Nat} (x1 : Int32) (x2 : Int32) (g : G) {r : Int32} (e : d_4 x1 x2 g = some r) : zB sc (d) 4 0 (zm_ent (z_L 4) [.ref 25, .int x1, .int x2]) [] (mk g) [.int r] (mk g) := by
  unfold d_4 at e
  intro Q K
  show Wp sc (d) 4 0 [some (.ref 25), some (.int x1), some (.int x2), none, none, none] [] (mk g) Q
  refine Wp.steps 1 (pc1 := 1) (lo1 := [some (.ref 25), some (.int x1), some (.int x2), none, none, none]) (st1 := [.ref 25]) (h1 := mk g) rfl ?_
  refine Wp.gf (pc1 := 4) (v := .ref 26) rfl rfl rfl rfl rfl ?_
  refine Wp.steps 1 (pc1 := 5) (lo1 := [some (.ref 25), some (.int x1), some (.int x2), none, none, none]) (st1 := [.int x1, .ref 26]) (h1 := mk g) rfl ?_
  obtain ⟨k1, hk1, e⟩ := zb_bind e
  refine Wp.ia (pc1 := 6) rfl rfl rfl hk1 rfl ?_
  refine Wp.steps 2 (pc1 := 8) (lo1 := [some (.ref 25), some (.int x1), some (.int x2), some (.int (g 26 k1)), none, none]) (st1 := [.int (g 26 k1)]) (h1 := mk g) rfl ?_
  rcases zb_if e with ⟨hc2, e⟩ | ⟨hc2, e⟩
  · skip
    refine Wp.iT (pc1 := 13) rfl hc2 rfl ?_
    refine Wp.steps 6 (pc1 := 22) (lo1 := [some (.ref 25), some (.int x1), some (.int x2), some (.int (g 26 k1)), some (.int (x1 * 6)), some (.int 0)]) (st1 := []) (h1 := mk g) rfl ?_
    refine Wp.fg [some (.ref 25), none, some (.int x2), some (.int (g 26 k1)), some (.int (x1 * 6)), some (.int 0)] (zm_lle_s (zm_lle_n (zm_lle_s (zm_lle_s (zm_lle_s (zm_lle_s zm_lle_0)))))) ?_
    exact w_4_22 (sc := sc) (d := d) x2 (x1 * 6) g 300 (g 26 k1) 0 _ e Q K
  · skip
    refine Wp.iF (pc1 := 11) rfl hc2 rfl ?_
    refine Wp.steps 1 (pc1 := 12) (lo1 := [some (.ref 25), some (.int x1), some (.int x2), some (.int (g 26 k1)), none, none]) (st1 := [.int 0]) (h1 := mk g) rfl ?_
    have e1 := zb_r1 e
    subst e1
    exact Wp.ret rfl rfl rfl (K _)
def d_5_5 (x1 : Int32) (x2 : Int32) (g : G) : Nat → Int32 → Int32 → Option Int32
  | 0, _, _ => none
  | f + 1, x3, x4 =>
    bif zm_cmp .ge x4 (g 25 3) then (
      some x3) else
    zb_l (d_90 x2 x4) fun v2 =>
    bif v2 then (
      Option.bind (d_4 x4 x1 g) fun v4 =>
      bif zm_cmp .ne v4 0 then (
        d_5_5 x1 x2 g f x3 (x4 + 1)) else
      d_5_5 x1 x2 g f (x3 ||| ((1 : Int32) <<< (x4 &&& 31))) (x4 + 1)) else
    d_5_5 x1 x2 g f x3 (x4 + 1)
set_option maxRecDepth 100000 in
set_option maxHeartbeats 4000000 in
theorem w_5_5 {sc : Option (List Int32)} {d : Nat} (x1 : Int32) (x2 : Int32) (g : G) : ∀ (f : Nat) (x3 : Int32) (x4 : Int32) (r : Int32), d_5_5 x1 x2 g f x3 x4 = some r → zB sc (d + 1) 5 5 [some (.ref 25), some (.int x1), some (.int x2), some (.int x3), some (.int x4)] [] (mk g) [.int r] (mk g) := by
  intro f
  induction f with
  | zero =>
    intro x3 x4 r e
    rw [d_5_5.eq_1] at e
    cases e
  | succ f ih =>
    intro x3 x4 r e
    rw [d_5_5.eq_2] at e
    intro Q K
    refine Wp.steps 2 (pc1 := 8) (lo1 := [some (.ref 25), some (.int x1), some (.int x2), some (.int x3), some (.int x4)]) (st1 := [.ref 25, .int x4]) (h1 := mk g) rfl ?_
    refine Wp.gf (pc1 := 11) (v := .int (g 25 3)) rfl rfl rfl rfl rfl ?_
    rcases zb_if e with ⟨hc1, e⟩ | ⟨hc1, e⟩
    · skip
      refine Wp.cT (pc1 := 46) rfl hc1 rfl ?_
      refine Wp.steps 1 (pc1 := 47) (lo1 := [some (.ref 25), some (.int x1), some (.int x2), some (.int x3), some (.int x4)]) (st1 := [.int x3]) (h1 := mk g) rfl ?_
      have e1 := zb_r1 e
      subst e1
      exact Wp.ret rfl rfl rfl (K _)
    · skip
      refine Wp.cF (pc1 := 14) rfl hc1 rfl ?_
      refine Wp.steps 2 (pc1 := 17) (lo1 := [some (.ref 25), some (.int x1), some (.int x2), some (.int x3), some (.int x4)]) (st1 := [.int x4, .int x2]) (h1 := mk g) rfl ?_
      obtain ⟨v2, hvv2, e⟩ := zb_let e
      refine Wp.ca (m := 90) (d1 := d) (as := [.int x2, .int x4]) (rest := []) (st1 := [.int (zb_i v2)]) (pc1 := 20) rfl rfl rfl rfl rfl rfl rfl rfl rfl rfl rfl rfl (w_90 (sc := sc) (d := d) x2 x4 g hvv2) ?_
      rcases zb_if e with ⟨hc3, e⟩ | ⟨hc3, e⟩
      · skip
        refine Wp.iF (pc1 := 23) rfl (zb_eqF hc3) rfl ?_
        refine Wp.steps 3 (pc1 := 27) (lo1 := [some (.ref 25), some (.int x1), some (.int x2), some (.int x3), some (.int x4)]) (st1 := [.int x1, .int x4, .ref 25]) (h1 := mk g) rfl ?_
        obtain ⟨v4, hvv4, e⟩ := zb_bind e
        refine Wp.ca (m := 4) (d1 := d) (as := [.ref 25, .int x4, .int x1]) (rest := []) (st1 := [.int v4]) (pc1 := 30) rfl rfl rfl rfl rfl rfl rfl rfl (mk_rok rfl rfl rfl rfl) rfl rfl rfl (w_4 (sc := sc) (d := d) x4 x1 g hvv4) ?_
        rcases zb_if e with ⟨hc5, e⟩ | ⟨hc5, e⟩
        · skip
          refine Wp.iT (pc1 := 40) rfl hc5 rfl ?_
          refine Wp.steps 2 (pc1 := 5) (lo1 := [some (.ref 25), some (.int x1), some (.int x2), some (.int x3), some (.int (x4 + 1))]) (st1 := []) (h1 := mk g) rfl ?_
          exact ih _ _ _ e Q K
        · skip
          refine Wp.iF (pc1 := 33) rfl hc5 rfl ?_
          refine Wp.steps 8 (pc1 := 5) (lo1 := [some (.ref 25), some (.int x1), some (.int x2), some (.int (x3 ||| ((1 : Int32) <<< (x4 &&& 31)))), some (.int (x4 + 1))]) (st1 := []) (h1 := mk g) rfl ?_
          exact ih _ _ _ e Q K
      · skip
        refine Wp.iT (pc1 := 40) rfl (zb_eqT hc3) rfl ?_
        refine Wp.steps 2 (pc1 := 5) (lo1 := [some (.ref 25), some (.int x1), some (.int x2), some (.int x3), some (.int (x4 + 1))]) (st1 := []) (h1 := mk g) rfl ?_
        exact ih _ _ _ e Q K
/-- EveningFirst$Bonds.ableBy(II)I -/
def d_5 (x1 : Int32) (x2 : Int32) (g : G) : Option Int32 :=
  d_5_5 x1 x2 g 300 0 0
set_option maxRecDepth 100000 in
set_option maxHeartbeats 4000000 in
theorem w_5 {sc : Option (List Int32)} {d : Nat} (x1 : Int32) (x2 : Int32) (g : G) {r : Int32} (e : d_5 x1 x2 g = some r) : zB sc (d + 1) 5 0 (zm_ent (z_L 5) [.ref 25, .int x1, .int x2]) [] (mk g) [.int r] (mk g) := by
  unfold d_5 at e
  intro Q K
  show Wp sc (d + 1) 5 0 [some (.ref 25), some (.int x1), some (.int x2), none, none] [] (mk g) Q
  refine Wp.steps 4 (pc1 := 5) (lo1 := [some (.ref 25), some (.int x1), some (.int x2), some (.int 0), some (.int 0)]) (st1 := []) (h1 := mk g) rfl ?_
  exact w_5_5 (sc := sc) (d := d) x1 x2 g 300 0 0 _ e Q K
/-- EveningFirst$Bonds.hold(I)Z -/
def d_6 (x1 : Int32) (g : G) : Option Bool :=
  Option.bind (d_5 x1 x1 g) fun v1 =>
  bif zm_cmp .ne v1 x1 then (
    some false) else
  some true
set_option maxRecDepth 100000 in
set_option maxHeartbeats 4000000 in
theorem w_6 {sc : Option (List Int32)} {d : Nat} (x1 : Int32) (g : G) {r : Bool} (e : d_6 x1 g = some r) : zB sc (d + 2) 6 0 (zm_ent (z_L 6) [.ref 25, .int x1]) [] (mk g) [.int (zb_i r)] (mk g) := by
  unfold d_6 at e
  intro Q K
  show Wp sc (d + 2) 6 0 [some (.ref 25), some (.int x1)] [] (mk g) Q
  refine Wp.steps 3 (pc1 := 3) (lo1 := [some (.ref 25), some (.int x1)]) (st1 := [.int x1, .int x1, .ref 25]) (h1 := mk g) rfl ?_
  obtain ⟨v1, hvv1, e⟩ := zb_bind e
  refine Wp.ca (m := 5) (d1 := d + 1) (as := [.ref 25, .int x1, .int x1]) (rest := []) (st1 := [.int v1]) (pc1 := 6) rfl rfl rfl rfl rfl rfl rfl rfl (mk_rok rfl rfl rfl rfl) rfl rfl rfl (w_5 (sc := sc) (d := d) x1 x1 g hvv1) ?_
  refine Wp.steps 1 (pc1 := 7) (lo1 := [some (.ref 25), some (.int x1)]) (st1 := [.int x1, .int v1]) (h1 := mk g) rfl ?_
  rcases zb_if e with ⟨hc2, e⟩ | ⟨hc2, e⟩
  · skip
    refine Wp.cT (pc1 := 14) rfl hc2 rfl ?_
    refine Wp.steps 1 (pc1 := 15) (lo1 := [some (.ref 25), some (.int x1)]) (st1 := [.int 0]) (h1 := mk g) rfl ?_
    have e1 := zb_r1 e
    subst e1
    exact Wp.ret rfl rfl rfl (K _)
  · skip
    refine Wp.cF (pc1 := 10) rfl hc2 rfl ?_
    refine Wp.steps 2 (pc1 := 15) (lo1 := [some (.ref 25), some (.int x1)]) (st1 := [.int 1]) (h1 := mk g) rfl ?_
    have e1 := zb_r1 e
    subst e1
    exact Wp.ret rfl rfl rfl (K _)
/-- EveningFirst.hangs(I)I -/
def d_68 (x1 : Int32) (g : G) : Option (Int32 × G) :=
  zb_l (d_21 1 x1 g) fun v1 =>
  bif v1 then (
    Option.bind (d_2 1 g) fun g3 =>
    Option.bind (d_6 x1 g3) fun v4 =>
    bif v4 then (
      some (1, g3)) else
    some (0, g3)) else
  some ((-1), g)
set_option maxRecDepth 100000 in
set_option maxHeartbeats 4000000 in
theorem w_68 {sc : Option (List Int32)} {d : Nat} (x1 : Int32) (g : G) {r : Int32} {g' : G} (e : d_68 x1 g = some (r, g')) : zB sc (d + 4) 68 0 (zm_ent (z_L 68) [.ref 0, .int x1]) [] (mk g) [.int r] (mk g') := by
  unfold d_68 at e
  intro Q K
  show Wp sc (d + 4) 68 0 [some (.ref 0), some (.int x1)] [] (mk g) Q
  refine Wp.steps 1 (pc1 := 1) (lo1 := [some (.ref 0), some (.int x1)]) (st1 := [.ref 0]) (h1 := mk g) rfl ?_
  refine Wp.gf (pc1 := 4) (v := .ref 1) rfl rfl rfl rfl rfl ?_
  refine Wp.steps 1 (pc1 := 5) (lo1 := [some (.ref 0), some (.int x1)]) (st1 := [.int x1, .ref 1]) (h1 := mk g) rfl ?_
  obtain ⟨v1, hvv1, e⟩ := zb_let e
  refine Wp.ca (m := 21) (d1 := d + 3) (as := [.ref 1, .int x1]) (rest := []) (st1 := [.int (zb_i v1)]) (pc1 := 8) rfl rfl rfl rfl rfl rfl rfl rfl (mk_rok rfl rfl rfl rfl) rfl rfl rfl (w_21 (sc := sc) (d := d + 3) 1 x1 rfl g hvv1) ?_
  rcases zb_if e with ⟨hc2, e⟩ | ⟨hc2, e⟩
  · skip
    refine Wp.iT (pc1 := 13) rfl (zb_neT hc2) rfl ?_
    refine Wp.steps 1 (pc1 := 14) (lo1 := [some (.ref 0), some (.int x1)]) (st1 := [.ref 0]) (h1 := mk g) rfl ?_
    refine Wp.gf (pc1 := 17) (v := .ref 25) rfl rfl rfl rfl rfl ?_
    refine Wp.steps 1 (pc1 := 18) (lo1 := [some (.ref 0), some (.int x1)]) (st1 := [.ref 0, .ref 25]) (h1 := mk g) rfl ?_
    refine Wp.gf (pc1 := 21) (v := .ref 1) rfl rfl rfl rfl rfl ?_
    obtain ⟨g3, hvg3, e⟩ := zb_bind e
    refine Wp.ca (m := 2) (d1 := d + 3) (as := [.ref 25, .ref 1]) (rest := []) (st1 := []) (pc1 := 24) rfl rfl rfl rfl rfl rfl rfl rfl (mk_rok rfl rfl rfl rfl) rfl rfl rfl (w_2 (sc := sc) (d := d) 1 rfl g hvg3) ?_
    refine Wp.steps 1 (pc1 := 25) (lo1 := [some (.ref 0), some (.int x1)]) (st1 := [.ref 0]) (h1 := mk g3) rfl ?_
    refine Wp.gf (pc1 := 28) (v := .ref 25) rfl rfl rfl rfl rfl ?_
    refine Wp.steps 1 (pc1 := 29) (lo1 := [some (.ref 0), some (.int x1)]) (st1 := [.int x1, .ref 25]) (h1 := mk g3) rfl ?_
    obtain ⟨v4, hvv4, e⟩ := zb_bind e
    refine Wp.ca (m := 6) (d1 := d + 3) (as := [.ref 25, .int x1]) (rest := []) (st1 := [.int (zb_i v4)]) (pc1 := 32) rfl rfl rfl rfl rfl rfl rfl rfl (mk_rok rfl rfl rfl rfl) rfl rfl rfl (w_6 (sc := sc) (d := d + 1) x1 g3 hvv4) ?_
    rcases zb_if e with ⟨hc5, e⟩ | ⟨hc5, e⟩
    · skip
      refine Wp.iF (pc1 := 35) rfl (zb_eqF hc5) rfl ?_
      refine Wp.steps 2 (pc1 := 40) (lo1 := [some (.ref 0), some (.int x1)]) (st1 := [.int 1]) (h1 := mk g3) rfl ?_
      obtain ⟨e1, e2⟩ := zb_r2 e
      subst e1
      subst e2
      exact Wp.ret rfl rfl rfl (K _)
    · skip
      refine Wp.iT (pc1 := 39) rfl (zb_eqT hc5) rfl ?_
      refine Wp.steps 1 (pc1 := 40) (lo1 := [some (.ref 0), some (.int x1)]) (st1 := [.int 0]) (h1 := mk g3) rfl ?_
      obtain ⟨e1, e2⟩ := zb_r2 e
      subst e1
      subst e2
      exact Wp.ret rfl rfl rfl (K _)
  · skip
    refine Wp.iF (pc1 := 11) rfl (zb_neF hc2) rfl ?_
    refine Wp.steps 1 (pc1 := 12) (lo1 := [some (.ref 0), some (.int x1)]) (st1 := [.int (-1)]) (h1 := mk g) rfl ?_
    obtain ⟨e1, e2⟩ := zb_r2 e
    subst e1
    subst e2
    exact Wp.ret rfl rfl rfl (K _)
