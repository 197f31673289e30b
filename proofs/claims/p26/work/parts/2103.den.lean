/-! printed by wip/tools/den.py -/
def d_30_68 (x1 : Int32) (g : G) : Option (Int32 × G) :=
  bif zm_cmp .ne (g 28 2) 0 then (
    bif zm_cmp .ne (g 28 2) 0 then (
      some (((-10) - (g 28 3)), g)) else
    some (x1, g)) else
  Option.bind (d_27 30 g) fun v10 =>
  bif v10 then (
    bif zm_cmp .eq (((g 28 6) ||| (g 28 7)) &&& ((((1 : Int32) <<< ((g 30 2) &&& 31)) - 1) ^^^ (-1))) 0 then (
      bif zm_cmp .ne (g 28 2) 0 then (
        some (((-10) - (g 28 3)), g)) else
      some (x1, g)) else
    zb_p (d_44 6 (g 28 1) g) fun v17 g18 =>
    bif zm_cmp .ne (g18 28 2) 0 then (
      some (((-10) - (g18 28 3)), g18)) else
    some (x1, g18)) else
  zb_p (d_44 6 (g 28 1) g) fun v12 g13 =>
  bif zm_cmp .ne (g13 28 2) 0 then (
    some (((-10) - (g13 28 3)), g13)) else
  some (x1, g13)
set_option maxRecDepth 100000 in
set_option maxHeartbeats 4000000 in
theorem w_30_68 {sc : Option (List Int32)} {d : Nat} (x1 : Int32) (g : G) (r : Int32) (g' : G) (e : d_30_68 x1 g = some (r, g')) : zB sc (d + 8) 30 68 [some (.ref 28), some (.int x1), none] [] (mk g) [.int r] (mk g') := by
  unfold d_30_68 at e
  intro Q K
  refine Wp.steps 2 (pc1 := 70) (lo1 := [some (.ref 28), some (.int x1), none]) (st1 := [.ref 28, .int 1]) (h1 := mk g) rfl ?_
  refine Wp.gf (pc1 := 73) (v := .ref 30) rfl rfl rfl rfl rfl ?_
  refine Wp.gf (pc1 := 76) (v := .int (g 30 2)) rfl rfl rfl rfl rfl ?_
  refine Wp.steps 5 (pc1 := 81) (lo1 := [some (.ref 28), some (.int x1), some (.int (((1 : Int32) <<< ((g 30 2) &&& 31)) - 1))]) (st1 := [.ref 28]) (h1 := mk g) rfl ?_
  refine Wp.gf (pc1 := 84) (v := .int (g 28 2)) rfl rfl rfl rfl rfl ?_
  rcases zb_if e with ⟨hc8, e⟩ | ⟨hc8, e⟩
  · skip
    refine Wp.iT (pc1 := 124) rfl hc8 rfl ?_
    refine Wp.steps 1 (pc1 := 125) (lo1 := [some (.ref 28), some (.int x1), some (.int (((1 : Int32) <<< ((g 30 2) &&& 31)) - 1))]) (st1 := [.ref 28]) (h1 := mk g) rfl ?_
    refine Wp.gf (pc1 := 128) (v := .int (g 28 2)) rfl rfl rfl rfl rfl ?_
    rcases zb_if e with ⟨hc9, e⟩ | ⟨hc9, e⟩
    · skip
      refine Wp.iT (pc1 := 135) rfl hc9 rfl ?_
      refine Wp.steps 2 (pc1 := 138) (lo1 := [some (.ref 28), some (.int x1), some (.int (((1 : Int32) <<< ((g 30 2) &&& 31)) - 1))]) (st1 := [.ref 28, .int (-10)]) (h1 := mk g) rfl ?_
      refine Wp.gf (pc1 := 141) (v := .int (g 28 3)) rfl rfl rfl rfl rfl ?_
      refine Wp.steps 1 (pc1 := 142) (lo1 := [some (.ref 28), some (.int x1), some (.int (((1 : Int32) <<< ((g 30 2) &&& 31)) - 1))]) (st1 := [.int ((-10) - (g 28 3))]) (h1 := mk g) rfl ?_
      obtain ⟨e1, e2⟩ := zb_r2 e
      subst e1
      subst e2
      exact Wp.ret rfl rfl rfl (K _)
    · skip
      refine Wp.iF (pc1 := 131) rfl hc9 rfl ?_
      refine Wp.steps 2 (pc1 := 142) (lo1 := [some (.ref 28), some (.int x1), some (.int (((1 : Int32) <<< ((g 30 2) &&& 31)) - 1))]) (st1 := [.int x1]) (h1 := mk g) rfl ?_
      obtain ⟨e1, e2⟩ := zb_r2 e
      subst e1
      subst e2
      exact Wp.ret rfl rfl rfl (K _)
  · skip
    refine Wp.iF (pc1 := 87) rfl hc8 rfl ?_
    refine Wp.steps 1 (pc1 := 88) (lo1 := [some (.ref 28), some (.int x1), some (.int (((1 : Int32) <<< ((g 30 2) &&& 31)) - 1))]) (st1 := [.ref 28]) (h1 := mk g) rfl ?_
    refine Wp.gf (pc1 := 91) (v := .ref 30) rfl rfl rfl rfl rfl ?_
    obtain ⟨v10, hvv10, e⟩ := zb_bind e
    refine Wp.ca (m := 27) (d1 := d + 7) (as := [.ref 30]) (rest := []) (st1 := [.int (zb_i v10)]) (pc1 := 94) rfl rfl rfl rfl rfl rfl rfl rfl (mk_rok rfl rfl rfl rfl) rfl rfl rfl (w_27 (sc := sc) (d := d + 6) 30 rfl g hvv10) ?_
    rcases zb_if e with ⟨hc11, e⟩ | ⟨hc11, e⟩
    · skip
      refine Wp.iF (pc1 := 97) rfl (zb_eqF hc11) rfl ?_
      refine Wp.steps 1 (pc1 := 98) (lo1 := [some (.ref 28), some (.int x1), some (.int (((1 : Int32) <<< ((g 30 2) &&& 31)) - 1))]) (st1 := [.ref 28]) (h1 := mk g) rfl ?_
      refine Wp.gf (pc1 := 101) (v := .int (g 28 6)) rfl rfl rfl rfl rfl ?_
      refine Wp.steps 1 (pc1 := 102) (lo1 := [some (.ref 28), some (.int x1), some (.int (((1 : Int32) <<< ((g 30 2) &&& 31)) - 1))]) (st1 := [.ref 28, .int (g 28 6)]) (h1 := mk g) rfl ?_
      refine Wp.gf (pc1 := 105) (v := .int (g 28 7)) rfl rfl rfl rfl rfl ?_
      refine Wp.steps 5 (pc1 := 110) (lo1 := [some (.ref 28), some (.int x1), some (.int (((1 : Int32) <<< ((g 30 2) &&& 31)) - 1))]) (st1 := [.int (((g 28 6) ||| (g 28 7)) &&& ((((1 : Int32) <<< ((g 30 2) &&& 31)) - 1) ^^^ (-1)))]) (h1 := mk g) rfl ?_
      rcases zb_if e with ⟨hc15, e⟩ | ⟨hc15, e⟩
      · skip
        refine Wp.iT (pc1 := 124) rfl hc15 rfl ?_
        refine Wp.steps 1 (pc1 := 125) (lo1 := [some (.ref 28), some (.int x1), some (.int (((1 : Int32) <<< ((g 30 2) &&& 31)) - 1))]) (st1 := [.ref 28]) (h1 := mk g) rfl ?_
        refine Wp.gf (pc1 := 128) (v := .int (g 28 2)) rfl rfl rfl rfl rfl ?_
        rcases zb_if e with ⟨hc16, e⟩ | ⟨hc16, e⟩
        · skip
          refine Wp.iT (pc1 := 135) rfl hc16 rfl ?_
          refine Wp.steps 2 (pc1 := 138) (lo1 := [some (.ref 28), some (.int x1), some (.int (((1 : Int32) <<< ((g 30 2) &&& 31)) - 1))]) (st1 := [.ref 28, .int (-10)]) (h1 := mk g) rfl ?_
          refine Wp.gf (pc1 := 141) (v := .int (g 28 3)) rfl rfl rfl rfl rfl ?_
          refine Wp.steps 1 (pc1 := 142) (lo1 := [some (.ref 28), some (.int x1), some (.int (((1 : Int32) <<< ((g 30 2) &&& 31)) - 1))]) (st1 := [.int ((-10) - (g 28 3))]) (h1 := mk g) rfl ?_
          obtain ⟨e1, e2⟩ := zb_r2 e
          subst e1
          subst e2
          exact Wp.ret rfl rfl rfl (K _)
        · skip
          refine Wp.iF (pc1 := 131) rfl hc16 rfl ?_
          refine Wp.steps 2 (pc1 := 142) (lo1 := [some (.ref 28), some (.int x1), some (.int (((1 : Int32) <<< ((g 30 2) &&& 31)) - 1))]) (st1 := [.int x1]) (h1 := mk g) rfl ?_
          obtain ⟨e1, e2⟩ := zb_r2 e
          subst e1
          subst e2
          exact Wp.ret rfl rfl rfl (K _)
      · skip
        refine Wp.iF (pc1 := 113) rfl hc15 rfl ?_
        refine Wp.steps 3 (pc1 := 117) (lo1 := [some (.ref 28), some (.int x1), some (.int (((1 : Int32) <<< ((g 30 2) &&& 31)) - 1))]) (st1 := [.ref 28, .int 6, .ref 28]) (h1 := mk g) rfl ?_
        refine Wp.gf (pc1 := 120) (v := .int (g 28 1)) rfl rfl rfl rfl rfl ?_
        obtain ⟨v17, g18, hvv17, e⟩ := zb_pair e
        refine Wp.ca (m := 44) (d1 := d + 7) (as := [.ref 28, .int 6, .int (g 28 1)]) (rest := []) (st1 := [.int (zb_i v17)]) (pc1 := 123) rfl rfl rfl rfl rfl rfl rfl rfl (mk_rok rfl rfl rfl rfl) rfl rfl rfl (w_44 (sc := sc) (d := d + 7) 6 (g 28 1) g hvv17) ?_
        refine Wp.steps 2 (pc1 := 125) (lo1 := [some (.ref 28), some (.int x1), some (.int (((1 : Int32) <<< ((g 30 2) &&& 31)) - 1))]) (st1 := [.ref 28]) (h1 := mk g18) rfl ?_
        refine Wp.gf (pc1 := 128) (v := .int (g18 28 2)) rfl rfl rfl rfl rfl ?_
        rcases zb_if e with ⟨hc19, e⟩ | ⟨hc19, e⟩
        · skip
          refine Wp.iT (pc1 := 135) rfl hc19 rfl ?_
          refine Wp.steps 2 (pc1 := 138) (lo1 := [some (.ref 28), some (.int x1), some (.int (((1 : Int32) <<< ((g 30 2) &&& 31)) - 1))]) (st1 := [.ref 28, .int (-10)]) (h1 := mk g18) rfl ?_
          refine Wp.gf (pc1 := 141) (v := .int (g18 28 3)) rfl rfl rfl rfl rfl ?_
          refine Wp.steps 1 (pc1 := 142) (lo1 := [some (.ref 28), some (.int x1), some (.int (((1 : Int32) <<< ((g 30 2) &&& 31)) - 1))]) (st1 := [.int ((-10) - (g18 28 3))]) (h1 := mk g18) rfl ?_
          obtain ⟨e1, e2⟩ := zb_r2 e
          subst e1
          subst e2
          exact Wp.ret rfl rfl rfl (K _)
        · skip
          refine Wp.iF (pc1 := 131) rfl hc19 rfl ?_
          refine Wp.steps 2 (pc1 := 142) (lo1 := [some (.ref 28), some (.int x1), some (.int (((1 : Int32) <<< ((g 30 2) &&& 31)) - 1))]) (st1 := [.int x1]) (h1 := mk g18) rfl ?_
          obtain ⟨e1, e2⟩ := zb_r2 e
          subst e1
          subst e2
          exact Wp.ret rfl rfl rfl (K _)
    · skip
      refine Wp.iT (pc1 := 113) rfl (zb_eqT hc11) rfl ?_
      refine Wp.steps 3 (pc1 := 117) (lo1 := [some (.ref 28), some (.int x1), some (.int (((1 : Int32) <<< ((g 30 2) &&& 31)) - 1))]) (st1 := [.ref 28, .int 6, .ref 28]) (h1 := mk g) rfl ?_
      refine Wp.gf (pc1 := 120) (v := .int (g 28 1)) rfl rfl rfl rfl rfl ?_
      obtain ⟨v12, g13, hvv12, e⟩ := zb_pair e
      refine Wp.ca (m := 44) (d1 := d + 7) (as := [.ref 28, .int 6, .int (g 28 1)]) (rest := []) (st1 := [.int (zb_i v12)]) (pc1 := 123) rfl rfl rfl rfl rfl rfl rfl rfl (mk_rok rfl rfl rfl rfl) rfl rfl rfl (w_44 (sc := sc) (d := d + 7) 6 (g 28 1) g hvv12) ?_
      refine Wp.steps 2 (pc1 := 125) (lo1 := [some (.ref 28), some (.int x1), some (.int (((1 : Int32) <<< ((g 30 2) &&& 31)) - 1))]) (st1 := [.ref 28]) (h1 := mk g13) rfl ?_
      refine Wp.gf (pc1 := 128) (v := .int (g13 28 2)) rfl rfl rfl rfl rfl ?_
      rcases zb_if e with ⟨hc14, e⟩ | ⟨hc14, e⟩
      · skip
        refine Wp.iT (pc1 := 135) rfl hc14 rfl ?_
        refine Wp.steps 2 (pc1 := 138) (lo1 := [some (.ref 28), some (.int x1), some (.int (((1 : Int32) <<< ((g 30 2) &&& 31)) - 1))]) (st1 := [.ref 28, .int (-10)]) (h1 := mk g13) rfl ?_
        refine Wp.gf (pc1 := 141) (v := .int (g13 28 3)) rfl rfl rfl rfl rfl ?_
        refine Wp.steps 1 (pc1 := 142) (lo1 := [some (.ref 28), some (.int x1), some (.int (((1 : Int32) <<< ((g 30 2) &&& 31)) - 1))]) (st1 := [.int ((-10) - (g13 28 3))]) (h1 := mk g13) rfl ?_
        obtain ⟨e1, e2⟩ := zb_r2 e
        subst e1
        subst e2
        exact Wp.ret rfl rfl rfl (K _)
      · skip
        refine Wp.iF (pc1 := 131) rfl hc14 rfl ?_
        refine Wp.steps 2 (pc1 := 142) (lo1 := [some (.ref 28), some (.int x1), some (.int (((1 : Int32) <<< ((g 30 2) &&& 31)) - 1))]) (st1 := [.int x1]) (h1 := mk g13) rfl ?_
        obtain ⟨e1, e2⟩ := zb_r2 e
        subst e1
        subst e2
        exact Wp.ret rfl rfl rfl (K _)
def d_30_34 : Nat → Int32 → G → Option (Int32 × G)
  | 0, _, _ => none
  | f + 1, x1, g =>
    bif zm_cmp .gt x1 160 then (
      d_30_68 x1 g) else
    zb_bp (d_42 g) fun v20 g21 =>
    bif v20 then (
      bif zm_cmp .eq (g21 28 8) 0 then (
        d_30_68 x1 g21) else
      zb_bp (d_31 g21) fun v24 g25 =>
      bif v24 then (
        d_30_34 f (x1 + 1) g25) else
      d_30_68 x1 g25) else
    d_30_68 x1 g21
set_option maxRecDepth 100000 in
set_option maxHeartbeats 4000000 in
theorem w_30_34 {sc : Option (List Int32)} {d : Nat} : ∀ (f : Nat) (x1 : Int32) (g : G) (r : Int32) (g' : G), d_30_34 f x1 g = some (r, g') → zB sc (d + 8) 30 34 [some (.ref 28), some (.int x1), none] [] (mk g) [.int r] (mk g') := by
  intro f
  induction f with
  | zero =>
    intro x1 g r g' e
    rw [d_30_34.eq_1] at e
    cases e
  | succ f ih =>
    intro x1 g r g' e
    rw [d_30_34.eq_2] at e
    intro Q K
    refine Wp.steps 2 (pc1 := 38) (lo1 := [some (.ref 28), some (.int x1), none]) (st1 := [.int 160, .int x1]) (h1 := mk g) rfl ?_
    rcases zb_if e with ⟨hc7, e⟩ | ⟨hc7, e⟩
    · skip
      refine Wp.cT (pc1 := 68) rfl hc7 rfl ?_
      exact w_30_68 (sc := sc) (d := d) x1 g _ _ e Q K
    · skip
      refine Wp.cF (pc1 := 41) rfl hc7 rfl ?_
      refine Wp.steps 1 (pc1 := 42) (lo1 := [some (.ref 28), some (.int x1), none]) (st1 := [.ref 28]) (h1 := mk g) rfl ?_
      obtain ⟨v20, g21, hvv20, e⟩ := zb_bpair e
      refine Wp.ca (m := 42) (d1 := d + 7) (as := [.ref 28]) (rest := []) (st1 := [.int (zb_i v20)]) (pc1 := 45) rfl rfl rfl rfl rfl rfl rfl rfl (mk_rok rfl rfl rfl rfl) rfl rfl rfl (w_42 (sc := sc) (d := d + 6)  g hvv20) ?_
      rcases zb_if e with ⟨hc22, e⟩ | ⟨hc22, e⟩
      · skip
        refine Wp.iF (pc1 := 48) rfl (zb_eqF hc22) rfl ?_
        refine Wp.steps 1 (pc1 := 49) (lo1 := [some (.ref 28), some (.int x1), none]) (st1 := [.ref 28]) (h1 := mk g21) rfl ?_
        refine Wp.gf (pc1 := 52) (v := .int (g21 28 8)) rfl rfl rfl rfl rfl ?_
        rcases zb_if e with ⟨hc23, e⟩ | ⟨hc23, e⟩
        · skip
          refine Wp.iT (pc1 := 68) rfl hc23 rfl ?_
          exact w_30_68 (sc := sc) (d := d) x1 g21 _ _ e Q K
        · skip
          refine Wp.iF (pc1 := 55) rfl hc23 rfl ?_
          refine Wp.steps 1 (pc1 := 56) (lo1 := [some (.ref 28), some (.int x1), none]) (st1 := [.ref 28]) (h1 := mk g21) rfl ?_
          obtain ⟨v24, g25, hvv24, e⟩ := zb_bpair e
          refine Wp.ca (m := 31) (d1 := d + 7) (as := [.ref 28]) (rest := []) (st1 := [.int (zb_i v24)]) (pc1 := 59) rfl rfl rfl rfl rfl rfl rfl rfl (mk_rok rfl rfl rfl rfl) rfl rfl rfl (w_31 (sc := sc) (d := d)  g21 hvv24) ?_
          rcases zb_if e with ⟨hc26, e⟩ | ⟨hc26, e⟩
          · skip
            refine Wp.iF (pc1 := 62) rfl (zb_eqF hc26) rfl ?_
            refine Wp.steps 2 (pc1 := 34) (lo1 := [some (.ref 28), some (.int (x1 + 1)), none]) (st1 := []) (h1 := mk g25) rfl ?_
            exact ih _ _ _ _ e Q K
          · skip
            refine Wp.iT (pc1 := 68) rfl (zb_eqT hc26) rfl ?_
            exact w_30_68 (sc := sc) (d := d) x1 g25 _ _ e Q K
      · skip
        refine Wp.iT (pc1 := 68) rfl (zb_eqT hc22) rfl ?_
        exact w_30_68 (sc := sc) (d := d) x1 g21 _ _ e Q K
/-- EveningFirst$Reader.tell()I -/
def d_30 (g : G) : Option (Int32 × G) :=
  Option.bind (d_16 30 g) fun g1 =>
  zb_l (zg_up g1 28 5 0) fun g2 =>
  zb_l (zg_up g2 28 6 0) fun g3 =>
  zb_l (zg_up g3 28 7 0) fun g4 =>
  zb_l (zg_up g4 28 2 0) fun g5 =>
  zb_l (zg_up g5 28 10 0) fun g6 =>
  d_30_34 300 0 g6
set_option maxRecDepth 100000 in
set_option maxHeartbeats 4000000 in
theorem w_30 {sc : Option (List Int32)} {d : Nat} (g : G) {r : Int32} {g' : G} (e : d_30 g = some (r, g')) : zB sc (d + 8) 30 0 (zm_ent (z_L 30) [.ref 28]) [] (mk g) [.int r] (mk g') := by
  unfold d_30 at e
  intro Q K
  show Wp sc (d + 8) 30 0 [some (.ref 28), none, none] [] (mk g) Q
  refine Wp.steps 1 (pc1 := 1) (lo1 := [some (.ref 28), none, none]) (st1 := [.ref 28]) (h1 := mk g) rfl ?_
  refine Wp.gf (pc1 := 4) (v := .ref 30) rfl rfl rfl rfl rfl ?_
  obtain ⟨g1, hvg1, e⟩ := zb_bind e
  refine Wp.ca (m := 16) (d1 := d + 7) (as := [.ref 30]) (rest := []) (st1 := []) (pc1 := 7) rfl rfl rfl rfl rfl rfl rfl rfl (mk_rok rfl rfl rfl rfl) rfl rfl rfl (w_16 (sc := sc) (d := d + 7) 30 rfl g hvg1) ?_
  refine Wp.steps 2 (pc1 := 9) (lo1 := [some (.ref 28), none, none]) (st1 := [.int 0, .ref 28]) (h1 := mk g1) rfl ?_
  obtain ⟨g2, hg2, e⟩ := zb_let e
  refine Wp.pf (pc1 := 12) rfl rfl rfl rfl rfl rfl hg2 rfl ?_
  refine Wp.steps 2 (pc1 := 14) (lo1 := [some (.ref 28), none, none]) (st1 := [.int 0, .ref 28]) (h1 := mk g2) rfl ?_
  obtain ⟨g3, hg3, e⟩ := zb_let e
  refine Wp.pf (pc1 := 17) rfl rfl rfl rfl rfl rfl hg3 rfl ?_
  refine Wp.steps 2 (pc1 := 19) (lo1 := [some (.ref 28), none, none]) (st1 := [.int 0, .ref 28]) (h1 := mk g3) rfl ?_
  obtain ⟨g4, hg4, e⟩ := zb_let e
  refine Wp.pf (pc1 := 22) rfl rfl rfl rfl rfl rfl hg4 rfl ?_
  refine Wp.steps 2 (pc1 := 24) (lo1 := [some (.ref 28), none, none]) (st1 := [.int 0, .ref 28]) (h1 := mk g4) rfl ?_
  obtain ⟨g5, hg5, e⟩ := zb_let e
  refine Wp.pf (pc1 := 27) rfl rfl rfl rfl rfl rfl hg5 rfl ?_
  refine Wp.steps 2 (pc1 := 29) (lo1 := [some (.ref 28), none, none]) (st1 := [.int 0, .ref 28]) (h1 := mk g5) rfl ?_
  obtain ⟨g6, hg6, e⟩ := zb_let e
  refine Wp.pf (pc1 := 32) rfl rfl rfl rfl rfl rfl hg6 rfl ?_
  refine Wp.steps 2 (pc1 := 34) (lo1 := [some (.ref 28), some (.int 0), none]) (st1 := []) (h1 := mk g6) rfl ?_
  exact w_30_34 (sc := sc) (d := d) 300 0 g6 _ _ e Q K
/-- EveningFirst$Deed.become(LEveningFirst$Deed;)V -/
def d_13 (r0 : Nat) (r1 : Nat) (g : G) : G :=
  zb_l (zg_up g r0 0 (g r1 0)) fun g1 =>
  zb_l (zg_up g1 r0 1 (g1 r1 1)) fun g2 =>
  zb_l (zg_up g2 r0 2 (g2 r1 2)) fun g3 =>
  zb_l (zg_up g3 r0 3 (g3 r1 3)) fun g4 =>
  zb_l (zg_up g4 r0 4 (g4 r1 4)) fun g5 =>
  zb_l (zg_up g5 r0 5 (g5 r1 5)) fun g6 =>
  zb_l (zg_up g6 r0 6 (g6 r1 6)) fun g7 =>
  g7
set_option maxRecDepth 100000 in
set_option maxHeartbeats 4000000 in
theorem w_13 {sc : Option (List Int32)} {d : Nat} (r0 : Nat) (r1 : Nat) (h0 : zg_cl r0 = 1) (h1 : zg_cl r1 = 1) (g : G) {g' : G} (e : d_13 r0 r1 g = g') : zB sc (d) 13 0 (zm_ent (z_L 13) [.ref r0, .ref r1]) [] (mk g) [] (mk g') := by
  unfold d_13 at e
  intro Q K
  show Wp sc (d) 13 0 [some (.ref r0), some (.ref r1)] [] (mk g) Q
  refine Wp.steps 2 (pc1 := 2) (lo1 := [some (.ref r0), some (.ref r1)]) (st1 := [.ref r1, .ref r0]) (h1 := mk g) rfl ?_
  refine Wp.gf (pc1 := 5) (v := .int (g r1 0)) rfl h1 rfl rfl rfl ?_
  obtain ⟨g1, hg1, e⟩ := zb_let e
  refine Wp.pf (pc1 := 8) rfl h0 rfl rfl rfl rfl hg1 rfl ?_
  refine Wp.steps 2 (pc1 := 10) (lo1 := [some (.ref r0), some (.ref r1)]) (st1 := [.ref r1, .ref r0]) (h1 := mk g1) rfl ?_
  refine Wp.gf (pc1 := 13) (v := .int (g1 r1 1)) rfl h1 rfl rfl rfl ?_
  obtain ⟨g2, hg2, e⟩ := zb_let e
  refine Wp.pf (pc1 := 16) rfl h0 rfl rfl rfl rfl hg2 rfl ?_
  refine Wp.steps 2 (pc1 := 18) (lo1 := [some (.ref r0), some (.ref r1)]) (st1 := [.ref r1, .ref r0]) (h1 := mk g2) rfl ?_
  refine Wp.gf (pc1 := 21) (v := .int (g2 r1 2)) rfl h1 rfl rfl rfl ?_
  obtain ⟨g3, hg3, e⟩ := zb_let e
  refine Wp.pf (pc1 := 24) rfl h0 rfl rfl rfl rfl hg3 rfl ?_
  refine Wp.steps 2 (pc1 := 26) (lo1 := [some (.ref r0), some (.ref r1)]) (st1 := [.ref r1, .ref r0]) (h1 := mk g3) rfl ?_
  refine Wp.gf (pc1 := 29) (v := .int (g3 r1 3)) rfl h1 rfl rfl rfl ?_
  obtain ⟨g4, hg4, e⟩ := zb_let e
  refine Wp.pf (pc1 := 32) rfl h0 rfl rfl rfl rfl hg4 rfl ?_
  refine Wp.steps 2 (pc1 := 34) (lo1 := [some (.ref r0), some (.ref r1)]) (st1 := [.ref r1, .ref r0]) (h1 := mk g4) rfl ?_
  refine Wp.gf (pc1 := 37) (v := .int (g4 r1 4)) rfl h1 rfl rfl rfl ?_
  obtain ⟨g5, hg5, e⟩ := zb_let e
  refine Wp.pf (pc1 := 40) rfl h0 rfl rfl rfl rfl hg5 rfl ?_
  refine Wp.steps 2 (pc1 := 42) (lo1 := [some (.ref r0), some (.ref r1)]) (st1 := [.ref r1, .ref r0]) (h1 := mk g5) rfl ?_
  refine Wp.gf (pc1 := 45) (v := .int (g5 r1 5)) rfl h1 rfl rfl rfl ?_
  obtain ⟨g6, hg6, e⟩ := zb_let e
  refine Wp.pf (pc1 := 48) rfl h0 rfl rfl rfl rfl hg6 rfl ?_
  refine Wp.steps 2 (pc1 := 50) (lo1 := [some (.ref r0), some (.ref r1)]) (st1 := [.ref r1, .ref r0]) (h1 := mk g6) rfl ?_
  refine Wp.gf (pc1 := 53) (v := .int (g6 r1 6)) rfl h1 rfl rfl rfl ?_
  obtain ⟨g7, hg7, e⟩ := zb_let e
  refine Wp.pf (pc1 := 56) rfl h0 rfl rfl rfl rfl hg7 rfl ?_
  have e1 := e
  subst e1
  exact Wp.ret rfl rfl rfl (K _)
def d_17_112 (r0 : Nat) (r1 : Nat) : Nat → Int32 → G → Option G
  | 0, _, _ => none
  | f + 1, x2, g =>
    bif zm_cmp .ge x2 8 then (
      some g) else
    Option.bind (zm_ix x2 8) fun k8 =>
    Option.bind (zm_ix x2 8) fun k9 =>
    zb_l (zg_up g (r0 + 16 + k8) 0 (g (r1 + 16 + k9) 0)) fun g10 =>
    Option.bind (zm_ix x2 8) fun k11 =>
    Option.bind (zm_ix x2 8) fun k12 =>
    zb_l (zg_up g10 (r0 + 16 + k11) 1 (g10 (r1 + 16 + k12) 1)) fun g13 =>
    Option.bind (zm_ix x2 8) fun k14 =>
    Option.bind (zm_ix x2 8) fun k15 =>
    zb_l (zg_up g13 (r0 + 16 + k14) 2 (g13 (r1 + 16 + k15) 2)) fun g16 =>
    Option.bind (zm_ix x2 8) fun k17 =>
    Option.bind (zm_ix x2 8) fun k18 =>
    bif (g16 (r1 + 16 + k18) 3) == 0 || (g16 (r1 + 16 + k18) 3) == 1 then (
      zb_l (zg_up g16 (r0 + 16 + k17) 3 (g16 (r1 + 16 + k18) 3)) fun g19 =>
      d_17_112 r0 r1 f (x2 + 1) g19) else none
set_option maxRecDepth 100000 in
set_option maxHeartbeats 4000000 in
theorem w_17_112 {sc : Option (List Int32)} {d : Nat} (r0 : Nat) (r1 : Nat) (h0 : zg_cl r0 = 2) (h1 : zg_cl r1 = 2) : ∀ (f : Nat) (x2 : Int32) (g : G) (g' : G), d_17_112 r0 r1 f x2 g = some g' → zB sc (d + 1) 17 112 [some (.ref r0), some (.ref r1), some (.int x2)] [] (mk g) [] (mk g') := by
  intro f
  induction f with
  | zero =>
    intro x2 g g' e
    rw [d_17_112.eq_1] at e
    cases e
  | succ f ih =>
    intro x2 g g' e
    rw [d_17_112.eq_2] at e
    intro Q K
    refine Wp.steps 2 (pc1 := 115) (lo1 := [some (.ref r0), some (.ref r1), some (.int x2)]) (st1 := [.int 8, .int x2]) (h1 := mk g) rfl ?_
    rcases zb_if e with ⟨hc7, e⟩ | ⟨hc7, e⟩
    · skip
      refine Wp.cT (pc1 := 196) rfl hc7 rfl ?_
      have e1 := zb_r1 e
      subst e1
      exact Wp.ret rfl rfl rfl (K _)
    · skip
      refine Wp.cF (pc1 := 118) rfl hc7 rfl ?_
      refine Wp.steps 1 (pc1 := 119) (lo1 := [some (.ref r0), some (.ref r1), some (.int x2)]) (st1 := [.ref r0]) (h1 := mk g) rfl ?_
      refine Wp.gf (pc1 := 122) (v := .ref (r0 + 3)) rfl h0 rfl rfl rfl ?_
      refine Wp.steps 1 (pc1 := 123) (lo1 := [some (.ref r0), some (.ref r1), some (.int x2)]) (st1 := [.int x2, .ref (r0 + 3)]) (h1 := mk g) rfl ?_
      obtain ⟨k8, hk8, e⟩ := zb_bind e
      refine Wp.aa (pc1 := 124) (v := (r0 + 16 + k8)) rfl (zg_rseen (b := r0) h0) rfl hk8 (by omega) rfl ?_
      refine Wp.steps 1 (pc1 := 125) (lo1 := [some (.ref r0), some (.ref r1), some (.int x2)]) (st1 := [.ref r1, .ref (r0 + 16 + k8)]) (h1 := mk g) rfl ?_
      refine Wp.gf (pc1 := 128) (v := .ref (r1 + 3)) rfl h1 rfl rfl rfl ?_
      refine Wp.steps 1 (pc1 := 129) (lo1 := [some (.ref r0), some (.ref r1), some (.int x2)]) (st1 := [.int x2, .ref (r1 + 3), .ref (r0 + 16 + k8)]) (h1 := mk g) rfl ?_
      obtain ⟨k9, hk9, e⟩ := zb_bind e
      refine Wp.aa (pc1 := 130) (v := (r1 + 16 + k9)) rfl (zg_rseen (b := r1) h1) rfl hk9 (by omega) rfl ?_
      refine Wp.gf (pc1 := 133) (v := .int (g (r1 + 16 + k9) 0)) rfl (zg_seen (b := r1) h1 hk9) rfl rfl rfl ?_
      obtain ⟨g10, hg10, e⟩ := zb_let e
      refine Wp.pf (pc1 := 136) rfl (zg_seen (b := r0) h0 hk8) rfl rfl rfl rfl hg10 rfl ?_
      refine Wp.steps 1 (pc1 := 137) (lo1 := [some (.ref r0), some (.ref r1), some (.int x2)]) (st1 := [.ref r0]) (h1 := mk g10) rfl ?_
      refine Wp.gf (pc1 := 140) (v := .ref (r0 + 3)) rfl h0 rfl rfl rfl ?_
      refine Wp.steps 1 (pc1 := 141) (lo1 := [some (.ref r0), some (.ref r1), some (.int x2)]) (st1 := [.int x2, .ref (r0 + 3)]) (h1 := mk g10) rfl ?_
      obtain ⟨k11, hk11, e⟩ := zb_bind e
      refine Wp.aa (pc1 := 142) (v := (r0 + 16 + k11)) rfl (zg_rseen (b := r0) h0) rfl hk11 (by omega) rfl ?_
      refine Wp.steps 1 (pc1 := 143) (lo1 := [some (.ref r0), some (.ref r1), some (.int x2)]) (st1 := [.ref r1, .ref (r0 + 16 + k11)]) (h1 := mk g10) rfl ?_
      refine Wp.gf (pc1 := 146) (v := .ref (r1 + 3)) rfl h1 rfl rfl rfl ?_
      refine Wp.steps 1 (pc1 := 147) (lo1 := [some (.ref r0), some (.ref r1), some (.int x2)]) (st1 := [.int x2, .ref (r1 + 3), .ref (r0 + 16 + k11)]) (h1 := mk g10) rfl ?_
      obtain ⟨k12, hk12, e⟩ := zb_bind e
      refine Wp.aa (pc1 := 148) (v := (r1 + 16 + k12)) rfl (zg_rseen (b := r1) h1) rfl hk12 (by omega) rfl ?_
      refine Wp.gf (pc1 := 151) (v := .int (g10 (r1 + 16 + k12) 1)) rfl (zg_seen (b := r1) h1 hk12) rfl rfl rfl ?_
      obtain ⟨g13, hg13, e⟩ := zb_let e
      refine Wp.pf (pc1 := 154) rfl (zg_seen (b := r0) h0 hk11) rfl rfl rfl rfl hg13 rfl ?_
      refine Wp.steps 1 (pc1 := 155) (lo1 := [some (.ref r0), some (.ref r1), some (.int x2)]) (st1 := [.ref r0]) (h1 := mk g13) rfl ?_
      refine Wp.gf (pc1 := 158) (v := .ref (r0 + 3)) rfl h0 rfl rfl rfl ?_
      refine Wp.steps 1 (pc1 := 159) (lo1 := [some (.ref r0), some (.ref r1), some (.int x2)]) (st1 := [.int x2, .ref (r0 + 3)]) (h1 := mk g13) rfl ?_
      obtain ⟨k14, hk14, e⟩ := zb_bind e
      refine Wp.aa (pc1 := 160) (v := (r0 + 16 + k14)) rfl (zg_rseen (b := r0) h0) rfl hk14 (by omega) rfl ?_
      refine Wp.steps 1 (pc1 := 161) (lo1 := [some (.ref r0), some (.ref r1), some (.int x2)]) (st1 := [.ref r1, .ref (r0 + 16 + k14)]) (h1 := mk g13) rfl ?_
      refine Wp.gf (pc1 := 164) (v := .ref (r1 + 3)) rfl h1 rfl rfl rfl ?_
      refine Wp.steps 1 (pc1 := 165) (lo1 := [some (.ref r0), some (.ref r1), some (.int x2)]) (st1 := [.int x2, .ref (r1 + 3), .ref (r0 + 16 + k14)]) (h1 := mk g13) rfl ?_
      obtain ⟨k15, hk15, e⟩ := zb_bind e
      refine Wp.aa (pc1 := 166) (v := (r1 + 16 + k15)) rfl (zg_rseen (b := r1) h1) rfl hk15 (by omega) rfl ?_
      refine Wp.gf (pc1 := 169) (v := .int (g13 (r1 + 16 + k15) 2)) rfl (zg_seen (b := r1) h1 hk15) rfl rfl rfl ?_
      obtain ⟨g16, hg16, e⟩ := zb_let e
      refine Wp.pf (pc1 := 172) rfl (zg_seen (b := r0) h0 hk14) rfl rfl rfl rfl hg16 rfl ?_
      refine Wp.steps 1 (pc1 := 173) (lo1 := [some (.ref r0), some (.ref r1), some (.int x2)]) (st1 := [.ref r0]) (h1 := mk g16) rfl ?_
      refine Wp.gf (pc1 := 176) (v := .ref (r0 + 3)) rfl h0 rfl rfl rfl ?_
      refine Wp.steps 1 (pc1 := 177) (lo1 := [some (.ref r0), some (.ref r1), some (.int x2)]) (st1 := [.int x2, .ref (r0 + 3)]) (h1 := mk g16) rfl ?_
      obtain ⟨k17, hk17, e⟩ := zb_bind e
      refine Wp.aa (pc1 := 178) (v := (r0 + 16 + k17)) rfl (zg_rseen (b := r0) h0) rfl hk17 (by omega) rfl ?_
      refine Wp.steps 1 (pc1 := 179) (lo1 := [some (.ref r0), some (.ref r1), some (.int x2)]) (st1 := [.ref r1, .ref (r0 + 16 + k17)]) (h1 := mk g16) rfl ?_
      refine Wp.gf (pc1 := 182) (v := .ref (r1 + 3)) rfl h1 rfl rfl rfl ?_
      refine Wp.steps 1 (pc1 := 183) (lo1 := [some (.ref r0), some (.ref r1), some (.int x2)]) (st1 := [.int x2, .ref (r1 + 3), .ref (r0 + 16 + k17)]) (h1 := mk g16) rfl ?_
      obtain ⟨k18, hk18, e⟩ := zb_bind e
      refine Wp.aa (pc1 := 184) (v := (r1 + 16 + k18)) rfl (zg_rseen (b := r1) h1) rfl hk18 (by omega) rfl ?_
      refine Wp.gf (pc1 := 187) (v := .int (g16 (r1 + 16 + k18) 3)) rfl (zg_seen (b := r1) h1 hk18) rfl rfl rfl ?_
      rcases zb_if e with ⟨hc20, e⟩ | ⟨hc20, e⟩
      · skip
        obtain ⟨g19, hg19, e⟩ := zb_let e
        refine Wp.pf (pc1 := 190) rfl (zg_seen (b := r0) h0 hk17) rfl rfl rfl hc20 hg19 rfl ?_
        refine Wp.steps 2 (pc1 := 112) (lo1 := [some (.ref r0), some (.ref r1), some (.int (x2 + 1))]) (st1 := []) (h1 := mk g19) rfl ?_
        exact ih _ _ _ e Q K
      · cases e
def d_17_83 (r0 : Nat) (r1 : Nat) : Nat → Int32 → G → Option G
  | 0, _, _ => none
  | f + 1, x2, g =>
    bif zm_cmp .ge x2 8 then (
      d_17_112 r0 r1 300 0 g) else
    Option.bind (zm_ix x2 8) fun k21 =>
    Option.bind (zm_ix x2 8) fun k22 =>
    zb_l (d_13 (r0 + 8 + k21) (r1 + 8 + k22) g) fun g23 =>
    d_17_83 r0 r1 f (x2 + 1) g23
set_option maxRecDepth 100000 in
set_option maxHeartbeats 4000000 in
theorem w_17_83 {sc : Option (List Int32)} {d : Nat} (r0 : Nat) (r1 : Nat) (h0 : zg_cl r0 = 2) (h1 : zg_cl r1 = 2) : ∀ (f : Nat) (x2 : Int32) (g : G) (g' : G), d_17_83 r0 r1 f x2 g = some g' → zB sc (d + 1) 17 83 [some (.ref r0), some (.ref r1), some (.int x2)] [] (mk g) [] (mk g') := by
  intro f
  induction f with
  | zero =>
    intro x2 g g' e
    rw [d_17_83.eq_1] at e
    cases e
  | succ f ih =>
    intro x2 g g' e
    rw [d_17_83.eq_2] at e
    intro Q K
    refine Wp.steps 2 (pc1 := 86) (lo1 := [some (.ref r0), some (.ref r1), some (.int x2)]) (st1 := [.int 8, .int x2]) (h1 := mk g) rfl ?_
    rcases zb_if e with ⟨hc6, e⟩ | ⟨hc6, e⟩
    · skip
      refine Wp.cT (pc1 := 110) rfl hc6 rfl ?_
      refine Wp.steps 2 (pc1 := 112) (lo1 := [some (.ref r0), some (.ref r1), some (.int 0)]) (st1 := []) (h1 := mk g) rfl ?_
      exact w_17_112 (sc := sc) (d := d) r0 r1 h0 h1 300 0 g _ e Q K
    · skip
      refine Wp.cF (pc1 := 89) rfl hc6 rfl ?_
      refine Wp.steps 1 (pc1 := 90) (lo1 := [some (.ref r0), some (.ref r1), some (.int x2)]) (st1 := [.ref r0]) (h1 := mk g) rfl ?_
      refine Wp.gf (pc1 := 93) (v := .ref (r0 + 2)) rfl h0 rfl rfl rfl ?_
      refine Wp.steps 1 (pc1 := 94) (lo1 := [some (.ref r0), some (.ref r1), some (.int x2)]) (st1 := [.int x2, .ref (r0 + 2)]) (h1 := mk g) rfl ?_
      obtain ⟨k21, hk21, e⟩ := zb_bind e
      refine Wp.aa (pc1 := 95) (v := (r0 + 8 + k21)) rfl (zg_rdeeds (b := r0) h0) rfl hk21 (by omega) rfl ?_
      refine Wp.steps 1 (pc1 := 96) (lo1 := [some (.ref r0), some (.ref r1), some (.int x2)]) (st1 := [.ref r1, .ref (r0 + 8 + k21)]) (h1 := mk g) rfl ?_
      refine Wp.gf (pc1 := 99) (v := .ref (r1 + 2)) rfl h1 rfl rfl rfl ?_
      refine Wp.steps 1 (pc1 := 100) (lo1 := [some (.ref r0), some (.ref r1), some (.int x2)]) (st1 := [.int x2, .ref (r1 + 2), .ref (r0 + 8 + k21)]) (h1 := mk g) rfl ?_
      obtain ⟨k22, hk22, e⟩ := zb_bind e
      refine Wp.aa (pc1 := 101) (v := (r1 + 8 + k22)) rfl (zg_rdeeds (b := r1) h1) rfl hk22 (by omega) rfl ?_
      obtain ⟨g23, hvg23, e⟩ := zb_let e
      refine Wp.ca (m := 13) (d1 := d) (as := [.ref (r0 + 8 + k21), .ref (r1 + 8 + k22)]) (rest := []) (st1 := []) (pc1 := 104) rfl rfl rfl rfl rfl rfl rfl rfl (mk_rok (zg_deed (b := r0) h0 hk21) rfl rfl rfl) rfl rfl rfl (w_13 (sc := sc) (d := d) (r0 + 8 + k21) (r1 + 8 + k22) (zg_deed (b := r0) h0 hk21) (zg_deed (b := r1) h1 hk22) g hvg23) ?_
      refine Wp.steps 2 (pc1 := 83) (lo1 := [some (.ref r0), some (.ref r1), some (.int (x2 + 1))]) (st1 := []) (h1 := mk g23) rfl ?_
      exact ih _ _ _ e Q K
def d_17_34 (r0 : Nat) (r1 : Nat) : Nat → Int32 → G → Option G
  | 0, _, _ => none
  | f + 1, x2, g =>
    bif zm_cmp .ge x2 4 then (
      d_17_83 r0 r1 300 0 g) else
    Option.bind (zm_ix x2 4) fun k24 =>
    Option.bind (zm_ix x2 4) fun k25 =>
    zb_l (zg_up g (r0 + 4 + k24) 0 (g (r1 + 4 + k25) 0)) fun g26 =>
    Option.bind (zm_ix x2 4) fun k27 =>
    Option.bind (zm_ix x2 4) fun k28 =>
    zb_l (zg_up g26 (r0 + 4 + k27) 1 (g26 (r1 + 4 + k28) 1)) fun g29 =>
    d_17_34 r0 r1 f (x2 + 1) g29
set_option maxRecDepth 100000 in
set_option maxHeartbeats 4000000 in
theorem w_17_34 {sc : Option (List Int32)} {d : Nat} (r0 : Nat) (r1 : Nat) (h0 : zg_cl r0 = 2) (h1 : zg_cl r1 = 2) : ∀ (f : Nat) (x2 : Int32) (g : G) (g' : G), d_17_34 r0 r1 f x2 g = some g' → zB sc (d + 1) 17 34 [some (.ref r0), some (.ref r1), some (.int x2)] [] (mk g) [] (mk g') := by
  intro f
  induction f with
  | zero =>
    intro x2 g g' e
    rw [d_17_34.eq_1] at e
    cases e
  | succ f ih =>
    intro x2 g g' e
    rw [d_17_34.eq_2] at e
    intro Q K
    refine Wp.steps 2 (pc1 := 36) (lo1 := [some (.ref r0), some (.ref r1), some (.int x2)]) (st1 := [.int 4, .int x2]) (h1 := mk g) rfl ?_
    rcases zb_if e with ⟨hc5, e⟩ | ⟨hc5, e⟩
    · skip
      refine Wp.cT (pc1 := 81) rfl hc5 rfl ?_
      refine Wp.steps 2 (pc1 := 83) (lo1 := [some (.ref r0), some (.ref r1), some (.int 0)]) (st1 := []) (h1 := mk g) rfl ?_
      exact w_17_83 (sc := sc) (d := d) r0 r1 h0 h1 300 0 g _ e Q K
    · skip
      refine Wp.cF (pc1 := 39) rfl hc5 rfl ?_
      refine Wp.steps 1 (pc1 := 40) (lo1 := [some (.ref r0), some (.ref r1), some (.int x2)]) (st1 := [.ref r0]) (h1 := mk g) rfl ?_
      refine Wp.gf (pc1 := 43) (v := .ref (r0 + 1)) rfl h0 rfl rfl rfl ?_
      refine Wp.steps 1 (pc1 := 44) (lo1 := [some (.ref r0), some (.ref r1), some (.int x2)]) (st1 := [.int x2, .ref (r0 + 1)]) (h1 := mk g) rfl ?_
      obtain ⟨k24, hk24, e⟩ := zb_bind e
      refine Wp.aa (pc1 := 45) (v := (r0 + 4 + k24)) rfl (zg_rones (b := r0) h0) rfl hk24 (by omega) rfl ?_
      refine Wp.steps 1 (pc1 := 46) (lo1 := [some (.ref r0), some (.ref r1), some (.int x2)]) (st1 := [.ref r1, .ref (r0 + 4 + k24)]) (h1 := mk g) rfl ?_
      refine Wp.gf (pc1 := 49) (v := .ref (r1 + 1)) rfl h1 rfl rfl rfl ?_
      refine Wp.steps 1 (pc1 := 50) (lo1 := [some (.ref r0), some (.ref r1), some (.int x2)]) (st1 := [.int x2, .ref (r1 + 1), .ref (r0 + 4 + k24)]) (h1 := mk g) rfl ?_
      obtain ⟨k25, hk25, e⟩ := zb_bind e
      refine Wp.aa (pc1 := 51) (v := (r1 + 4 + k25)) rfl (zg_rones (b := r1) h1) rfl hk25 (by omega) rfl ?_
      refine Wp.gf (pc1 := 54) (v := .int (g (r1 + 4 + k25) 0)) rfl (zg_one (b := r1) h1 hk25) rfl rfl rfl ?_
      obtain ⟨g26, hg26, e⟩ := zb_let e
      refine Wp.pf (pc1 := 57) rfl (zg_one (b := r0) h0 hk24) rfl rfl rfl rfl hg26 rfl ?_
      refine Wp.steps 1 (pc1 := 58) (lo1 := [some (.ref r0), some (.ref r1), some (.int x2)]) (st1 := [.ref r0]) (h1 := mk g26) rfl ?_
      refine Wp.gf (pc1 := 61) (v := .ref (r0 + 1)) rfl h0 rfl rfl rfl ?_
      refine Wp.steps 1 (pc1 := 62) (lo1 := [some (.ref r0), some (.ref r1), some (.int x2)]) (st1 := [.int x2, .ref (r0 + 1)]) (h1 := mk g26) rfl ?_
      obtain ⟨k27, hk27, e⟩ := zb_bind e
      refine Wp.aa (pc1 := 63) (v := (r0 + 4 + k27)) rfl (zg_rones (b := r0) h0) rfl hk27 (by omega) rfl ?_
      refine Wp.steps 1 (pc1 := 64) (lo1 := [some (.ref r0), some (.ref r1), some (.int x2)]) (st1 := [.ref r1, .ref (r0 + 4 + k27)]) (h1 := mk g26) rfl ?_
      refine Wp.gf (pc1 := 67) (v := .ref (r1 + 1)) rfl h1 rfl rfl rfl ?_
      refine Wp.steps 1 (pc1 := 68) (lo1 := [some (.ref r0), some (.ref r1), some (.int x2)]) (st1 := [.int x2, .ref (r1 + 1), .ref (r0 + 4 + k27)]) (h1 := mk g26) rfl ?_
      obtain ⟨k28, hk28, e⟩ := zb_bind e
      refine Wp.aa (pc1 := 69) (v := (r1 + 4 + k28)) rfl (zg_rones (b := r1) h1) rfl hk28 (by omega) rfl ?_
      refine Wp.gf (pc1 := 72) (v := .int (g26 (r1 + 4 + k28) 1)) rfl (zg_one (b := r1) h1 hk28) rfl rfl rfl ?_
      obtain ⟨g29, hg29, e⟩ := zb_let e
      refine Wp.pf (pc1 := 75) rfl (zg_one (b := r0) h0 hk27) rfl rfl rfl rfl hg29 rfl ?_
      refine Wp.steps 2 (pc1 := 34) (lo1 := [some (.ref r0), some (.ref r1), some (.int (x2 + 1))]) (st1 := []) (h1 := mk g29) rfl ?_
      exact ih _ _ _ e Q K
/-- EveningFirst$Family.become(LEveningFirst$Family;)V -/
def d_17 (r0 : Nat) (r1 : Nat) (g : G) : Option G :=
  zb_l (zg_up g r0 0 (g r1 0)) fun g1 =>
  zb_l (zg_up g1 r0 1 (g1 r1 1)) fun g2 =>
  zb_l (zg_up g2 r0 2 (g2 r1 2)) fun g3 =>
  zb_l (zg_up g3 r0 3 (g3 r1 3)) fun g4 =>
  d_17_34 r0 r1 300 0 g4
set_option maxRecDepth 100000 in
set_option maxHeartbeats 4000000 in
theorem w_17 {sc : Option (List Int32)} {d : Nat} (r0 : Nat) (r1 : Nat) (h0 : zg_cl r0 = 2) (h1 : zg_cl r1 = 2) (g : G) {g' : G} (e : d_17 r0 r1 g = some g') : zB sc (d + 1) 17 0 (zm_ent (z_L 17) [.ref r0, .ref r1]) [] (mk g) [] (mk g') := by
  unfold d_17 at e
  intro Q K
  show Wp sc (d + 1) 17 0 [some (.ref r0), some (.ref r1), none] [] (mk g) Q
  refine Wp.steps 2 (pc1 := 2) (lo1 := [some (.ref r0), some (.ref r1), none]) (st1 := [.ref r1, .ref r0]) (h1 := mk g) rfl ?_
  refine Wp.gf (pc1 := 5) (v := .int (g r1 0)) rfl h1 rfl rfl rfl ?_
  obtain ⟨g1, hg1, e⟩ := zb_let e
  refine Wp.pf (pc1 := 8) rfl h0 rfl rfl rfl rfl hg1 rfl ?_
  refine Wp.steps 2 (pc1 := 10) (lo1 := [some (.ref r0), some (.ref r1), none]) (st1 := [.ref r1, .ref r0]) (h1 := mk g1) rfl ?_
  refine Wp.gf (pc1 := 13) (v := .int (g1 r1 1)) rfl h1 rfl rfl rfl ?_
  obtain ⟨g2, hg2, e⟩ := zb_let e
  refine Wp.pf (pc1 := 16) rfl h0 rfl rfl rfl rfl hg2 rfl ?_
  refine Wp.steps 2 (pc1 := 18) (lo1 := [some (.ref r0), some (.ref r1), none]) (st1 := [.ref r1, .ref r0]) (h1 := mk g2) rfl ?_
  refine Wp.gf (pc1 := 21) (v := .int (g2 r1 2)) rfl h1 rfl rfl rfl ?_
  obtain ⟨g3, hg3, e⟩ := zb_let e
  refine Wp.pf (pc1 := 24) rfl h0 rfl rfl rfl rfl hg3 rfl ?_
  refine Wp.steps 2 (pc1 := 26) (lo1 := [some (.ref r0), some (.ref r1), none]) (st1 := [.ref r1, .ref r0]) (h1 := mk g3) rfl ?_
  refine Wp.gf (pc1 := 29) (v := .int (g3 r1 3)) rfl h1 rfl rfl rfl ?_
  obtain ⟨g4, hg4, e⟩ := zb_let e
  refine Wp.pf (pc1 := 32) rfl h0 rfl rfl rfl rfl hg4 rfl ?_
  refine Wp.steps 2 (pc1 := 34) (lo1 := [some (.ref r0), some (.ref r1), some (.int 0)]) (st1 := []) (h1 := mk g4) rfl ?_
  exact w_17_34 (sc := sc) (d := d) r0 r1 h0 h1 300 0 g4 _ e Q K
def d_56_42 (x1 : Int32) : Nat → Int32 → G → Option (Int32 × G)
  | 0, _, _ => none
  | f + 1, x2, g =>
    bif zm_cmp .ge x2 2 then (
      some (x1, g)) else
    Option.bind (zm_ix x2 2) fun k8 =>
    zb_l (zg_up g 55 k8 (zm_nar 2 0)) fun g7 =>
    d_56_42 x1 f (x2 + 1) g7
set_option maxRecDepth 100000 in
set_option maxHeartbeats 4000000 in
theorem w_56_42 {sc : Option (List Int32)} {d : Nat} (x1 : Int32) : ∀ (f : Nat) (x2 : Int32) (g : G) (r : Int32) (g' : G), d_56_42 x1 f x2 g = some (r, g') → zB sc (d + 9) 56 42 [some (.ref 0), some (.int x1), some (.int x2)] [] (mk g) [.int r] (mk g') := by
  intro f
  induction f with
  | zero =>
    intro x2 g r g' e
    rw [d_56_42.eq_1] at e
    cases e
  | succ f ih =>
    intro x2 g r g' e
    rw [d_56_42.eq_2] at e
    intro Q K
    refine Wp.steps 2 (pc1 := 44) (lo1 := [some (.ref 0), some (.int x1), some (.int x2)]) (st1 := [.int 2, .int x2]) (h1 := mk g) rfl ?_
    rcases zb_if e with ⟨hc6, e⟩ | ⟨hc6, e⟩
    · skip
      refine Wp.cT (pc1 := 60) rfl hc6 rfl ?_
      refine Wp.steps 1 (pc1 := 61) (lo1 := [some (.ref 0), some (.int x1), some (.int x2)]) (st1 := [.int x1]) (h1 := mk g) rfl ?_
      obtain ⟨e1, e2⟩ := zb_r2 e
      subst e1
      subst e2
      exact Wp.ret rfl rfl rfl (K _)
    · skip
      refine Wp.cF (pc1 := 47) rfl hc6 rfl ?_
      refine Wp.steps 1 (pc1 := 48) (lo1 := [some (.ref 0), some (.int x1), some (.int x2)]) (st1 := [.ref 0]) (h1 := mk g) rfl ?_
      refine Wp.gf (pc1 := 51) (v := .ref 55) rfl rfl rfl rfl rfl ?_
      refine Wp.steps 2 (pc1 := 53) (lo1 := [some (.ref 0), some (.int x1), some (.int x2)]) (st1 := [.int 0, .int x2, .ref 55]) (h1 := mk g) rfl ?_
      obtain ⟨k8, hk8, e⟩ := zb_bind e
      obtain ⟨g7, hg7, e⟩ := zb_let e
      refine Wp.bas (pc1 := 54) rfl rfl rfl hk8 hg7 rfl ?_
      refine Wp.steps 2 (pc1 := 42) (lo1 := [some (.ref 0), some (.int x1), some (.int (x2 + 1))]) (st1 := []) (h1 := mk g7) rfl ?_
      exact ih _ _ _ _ e Q K
/-- EveningFirst.text()I -/
def d_56 (g : G) : Option (Int32 × G) :=
  zb_bp (d_30 g) fun v1 g2 =>
  zb_l (zg_up g2 28 1 0) fun g3 =>
  bif zm_cmp .ne (g3 28 2) 0 then (
    some (v1, g3)) else
  Option.bind (d_17 1 30 g3) fun g5 =>
  d_56_42 v1 300 0 g5
set_option maxRecDepth 100000 in
set_option maxHeartbeats 4000000 in
theorem w_56 {sc : Option (List Int32)} {d : Nat} (g : G) {r : Int32} {g' : G} (e : d_56 g = some (r, g')) : zB sc (d + 9) 56 0 (zm_ent (z_L 56) [.ref 0]) [] (mk g) [.int r] (mk g') := by
  unfold d_56 at e
  intro Q K
  show Wp sc (d + 9) 56 0 [some (.ref 0), none, none] [] (mk g) Q
  refine Wp.steps 1 (pc1 := 1) (lo1 := [some (.ref 0), none, none]) (st1 := [.ref 0]) (h1 := mk g) rfl ?_
  refine Wp.gf (pc1 := 4) (v := .ref 28) rfl rfl rfl rfl rfl ?_
  obtain ⟨v1, g2, hvv1, e⟩ := zb_bpair e
  refine Wp.ca (m := 30) (d1 := d + 8) (as := [.ref 28]) (rest := []) (st1 := [.int v1]) (pc1 := 7) rfl rfl rfl rfl rfl rfl rfl rfl (mk_rok rfl rfl rfl rfl) rfl rfl rfl (w_30 (sc := sc) (d := d)  g hvv1) ?_
  refine Wp.steps 2 (pc1 := 9) (lo1 := [some (.ref 0), some (.int v1), none]) (st1 := [.ref 0]) (h1 := mk g2) rfl ?_
  refine Wp.gf (pc1 := 12) (v := .ref 28) rfl rfl rfl rfl rfl ?_
  refine Wp.steps 1 (pc1 := 13) (lo1 := [some (.ref 0), some (.int v1), none]) (st1 := [.int 0, .ref 28]) (h1 := mk g2) rfl ?_
  obtain ⟨g3, hg3, e⟩ := zb_let e
  refine Wp.pf (pc1 := 16) rfl rfl rfl rfl rfl rfl hg3 rfl ?_
  refine Wp.steps 1 (pc1 := 17) (lo1 := [some (.ref 0), some (.int v1), none]) (st1 := [.ref 0]) (h1 := mk g3) rfl ?_
  refine Wp.gf (pc1 := 20) (v := .ref 28) rfl rfl rfl rfl rfl ?_
  refine Wp.gf (pc1 := 23) (v := .int (g3 28 2)) rfl rfl rfl rfl rfl ?_
  rcases zb_if e with ⟨hc4, e⟩ | ⟨hc4, e⟩
  · skip
    refine Wp.iT (pc1 := 60) rfl hc4 rfl ?_
    refine Wp.steps 1 (pc1 := 61) (lo1 := [some (.ref 0), some (.int v1), none]) (st1 := [.int v1]) (h1 := mk g3) rfl ?_
    obtain ⟨e1, e2⟩ := zb_r2 e
    subst e1
    subst e2
    exact Wp.ret rfl rfl rfl (K _)
  · skip
    refine Wp.iF (pc1 := 26) rfl hc4 rfl ?_
    refine Wp.steps 1 (pc1 := 27) (lo1 := [some (.ref 0), some (.int v1), none]) (st1 := [.ref 0]) (h1 := mk g3) rfl ?_
    refine Wp.gf (pc1 := 30) (v := .ref 1) rfl rfl rfl rfl rfl ?_
    refine Wp.steps 1 (pc1 := 31) (lo1 := [some (.ref 0), some (.int v1), none]) (st1 := [.ref 0, .ref 1]) (h1 := mk g3) rfl ?_
    refine Wp.gf (pc1 := 34) (v := .ref 28) rfl rfl rfl rfl rfl ?_
    refine Wp.gf (pc1 := 37) (v := .ref 30) rfl rfl rfl rfl rfl ?_
    obtain ⟨g5, hvg5, e⟩ := zb_bind e
    refine Wp.ca (m := 17) (d1 := d + 8) (as := [.ref 1, .ref 30]) (rest := []) (st1 := []) (pc1 := 40) rfl rfl rfl rfl rfl rfl rfl rfl (mk_rok rfl rfl rfl rfl) rfl rfl rfl (w_17 (sc := sc) (d := d + 7) 1 30 rfl rfl g3 hvg5) ?_
    refine Wp.steps 2 (pc1 := 42) (lo1 := [some (.ref 0), some (.int v1), some (.int 0)]) (st1 := []) (h1 := mk g5) rfl ?_
    exact w_56_42 (sc := sc) (d := d) v1 300 0 g5 _ _ e Q K
def d_109_23 : Nat → Int32 → G → Option G
  | 0, _, _ => none
  | f + 1, x1, g =>
    bif zm_cmp .ge x1 8 then (
      zb_l (zg_up g 113 5 4) fun g3 =>
      zb_l (zg_up g3 113 6 0) fun g4 =>
      zb_l (zg_up g4 113 7 0) fun g5 =>
      zb_l (zg_up g5 113 8 0) fun g6 =>
      zb_l (zg_up g6 113 9 0) fun g7 =>
      zb_l (zg_up g7 113 10 (-4)) fun g8 =>
      zb_l (zg_up g8 113 11 (-4)) fun g9 =>
      zb_l (zg_up g9 113 12 (-4)) fun g10 =>
      some g10) else
    Option.bind (zm_ix ((9 + (7 * x1)) + 6) 98) fun k12 =>
    zb_l (zg_up g 116 k12 10) fun g11 =>
    d_109_23 f (x1 + 1) g11
set_option maxRecDepth 100000 in
set_option maxHeartbeats 4000000 in
theorem w_109_23 {sc : Option (List Int32)} {d : Nat} : ∀ (f : Nat) (x1 : Int32) (g : G) (g' : G), d_109_23 f x1 g = some g' → zB sc (d) 109 23 [some (.ref 113), some (.int x1)] [] (mk g) [] (mk g') := by
  intro f
  induction f with
  | zero =>
    intro x1 g g' e
    rw [d_109_23.eq_1] at e
    cases e
  | succ f ih =>
    intro x1 g g' e
    rw [d_109_23.eq_2] at e
    intro Q K
    refine Wp.steps 2 (pc1 := 26) (lo1 := [some (.ref 113), some (.int x1)]) (st1 := [.int 8, .int x1]) (h1 := mk g) rfl ?_
    rcases zb_if e with ⟨hc2, e⟩ | ⟨hc2, e⟩
    · skip
      refine Wp.cT (pc1 := 52) rfl hc2 rfl ?_
      refine Wp.steps 2 (pc1 := 54) (lo1 := [some (.ref 113), some (.int x1)]) (st1 := [.int 4, .ref 113]) (h1 := mk g) rfl ?_
      obtain ⟨g3, hg3, e⟩ := zb_let e
      refine Wp.pf (pc1 := 57) rfl rfl rfl rfl rfl rfl hg3 rfl ?_
      refine Wp.steps 2 (pc1 := 59) (lo1 := [some (.ref 113), some (.int x1)]) (st1 := [.int 0, .ref 113]) (h1 := mk g3) rfl ?_
      obtain ⟨g4, hg4, e⟩ := zb_let e
      refine Wp.pf (pc1 := 62) rfl rfl rfl rfl rfl rfl hg4 rfl ?_
      refine Wp.steps 2 (pc1 := 64) (lo1 := [some (.ref 113), some (.int x1)]) (st1 := [.int 0, .ref 113]) (h1 := mk g4) rfl ?_
      obtain ⟨g5, hg5, e⟩ := zb_let e
      refine Wp.pf (pc1 := 67) rfl rfl rfl rfl rfl rfl hg5 rfl ?_
      refine Wp.steps 2 (pc1 := 69) (lo1 := [some (.ref 113), some (.int x1)]) (st1 := [.int 0, .ref 113]) (h1 := mk g5) rfl ?_
      obtain ⟨g6, hg6, e⟩ := zb_let e
      refine Wp.pf (pc1 := 72) rfl rfl rfl rfl rfl rfl hg6 rfl ?_
      refine Wp.steps 2 (pc1 := 74) (lo1 := [some (.ref 113), some (.int x1)]) (st1 := [.int 0, .ref 113]) (h1 := mk g6) rfl ?_
      obtain ⟨g7, hg7, e⟩ := zb_let e
      refine Wp.pf (pc1 := 77) rfl rfl rfl rfl rfl rfl hg7 rfl ?_
      refine Wp.steps 2 (pc1 := 80) (lo1 := [some (.ref 113), some (.int x1)]) (st1 := [.int (-4), .ref 113]) (h1 := mk g7) rfl ?_
      obtain ⟨g8, hg8, e⟩ := zb_let e
      refine Wp.pf (pc1 := 83) rfl rfl rfl rfl rfl rfl hg8 rfl ?_
      refine Wp.steps 2 (pc1 := 86) (lo1 := [some (.ref 113), some (.int x1)]) (st1 := [.int (-4), .ref 113]) (h1 := mk g8) rfl ?_
      obtain ⟨g9, hg9, e⟩ := zb_let e
      refine Wp.pf (pc1 := 89) rfl rfl rfl rfl rfl rfl hg9 rfl ?_
      refine Wp.steps 2 (pc1 := 92) (lo1 := [some (.ref 113), some (.int x1)]) (st1 := [.int (-4), .ref 113]) (h1 := mk g9) rfl ?_
      obtain ⟨g10, hg10, e⟩ := zb_let e
      refine Wp.pf (pc1 := 95) rfl rfl rfl rfl rfl rfl hg10 rfl ?_
      have e1 := zb_r1 e
      subst e1
      exact Wp.ret rfl rfl rfl (K _)
    · skip
      refine Wp.cF (pc1 := 29) rfl hc2 rfl ?_
      refine Wp.steps 1 (pc1 := 30) (lo1 := [some (.ref 113), some (.int x1)]) (st1 := [.ref 113]) (h1 := mk g) rfl ?_
      refine Wp.gf (pc1 := 33) (v := .ref 116) rfl rfl rfl rfl rfl ?_
      refine Wp.steps 8 (pc1 := 45) (lo1 := [some (.ref 113), some (.int x1)]) (st1 := [.int 10, .int ((9 + (7 * x1)) + 6), .ref 116]) (h1 := mk g) rfl ?_
      obtain ⟨k12, hk12, e⟩ := zb_bind e
      obtain ⟨g11, hg11, e⟩ := zb_let e
      refine Wp.ias (pc1 := 46) rfl rfl rfl hk12 hg11 rfl ?_
      refine Wp.steps 2 (pc1 := 23) (lo1 := [some (.ref 113), some (.int (x1 + 1))]) (st1 := []) (h1 := mk g11) rfl ?_
      exact ih _ _ _ e Q K
def d_109_2 : Nat → Int32 → G → Option G
  | 0, _, _ => none
  | f + 1, x1, g =>
    bif zm_cmp .ge x1 98 then (
      d_109_23 300 0 g) else
    Option.bind (zm_ix x1 98) fun k14 =>
    zb_l (zg_up g 116 k14 0) fun g13 =>
    d_109_2 f (x1 + 1) g13
set_option maxRecDepth 100000 in
set_option maxHeartbeats 4000000 in
theorem w_109_2 {sc : Option (List Int32)} {d : Nat} : ∀ (f : Nat) (x1 : Int32) (g : G) (g' : G), d_109_2 f x1 g = some g' → zB sc (d) 109 2 [some (.ref 113), some (.int x1)] [] (mk g) [] (mk g') := by
  intro f
  induction f with
  | zero =>
    intro x1 g g' e
    rw [d_109_2.eq_1] at e
    cases e
  | succ f ih =>
    intro x1 g g' e
    rw [d_109_2.eq_2] at e
    intro Q K
    refine Wp.steps 2 (pc1 := 5) (lo1 := [some (.ref 113), some (.int x1)]) (st1 := [.int 98, .int x1]) (h1 := mk g) rfl ?_
    rcases zb_if e with ⟨hc1, e⟩ | ⟨hc1, e⟩
    · skip
      refine Wp.cT (pc1 := 21) rfl hc1 rfl ?_
      refine Wp.steps 2 (pc1 := 23) (lo1 := [some (.ref 113), some (.int 0)]) (st1 := []) (h1 := mk g) rfl ?_
      exact w_109_23 (sc := sc) (d := d) 300 0 g _ e Q K
    · skip
      refine Wp.cF (pc1 := 8) rfl hc1 rfl ?_
      refine Wp.steps 1 (pc1 := 9) (lo1 := [some (.ref 113), some (.int x1)]) (st1 := [.ref 113]) (h1 := mk g) rfl ?_
      refine Wp.gf (pc1 := 12) (v := .ref 116) rfl rfl rfl rfl rfl ?_
      refine Wp.steps 2 (pc1 := 14) (lo1 := [some (.ref 113), some (.int x1)]) (st1 := [.int 0, .int x1, .ref 116]) (h1 := mk g) rfl ?_
      obtain ⟨k14, hk14, e⟩ := zb_bind e
      obtain ⟨g13, hg13, e⟩ := zb_let e
      refine Wp.ias (pc1 := 15) rfl rfl rfl hk14 hg13 rfl ?_
      refine Wp.steps 2 (pc1 := 2) (lo1 := [some (.ref 113), some (.int (x1 + 1))]) (st1 := []) (h1 := mk g13) rfl ?_
      exact ih _ _ _ e Q K
/-- EveningFirstModel.firstDraft()V -/
def d_109 (g : G) : Option G :=
  d_109_2 300 0 g
set_option maxRecDepth 100000 in
set_option maxHeartbeats 4000000 in
theorem w_109 {sc : Option (List Int32)} {d : Nat} (g : G) {g' : G} (e : d_109 g = some g') : zB sc (d) 109 0 (zm_ent (z_L 109) [.ref 113]) [] (mk g) [] (mk g') := by
  unfold d_109 at e
  intro Q K
  show Wp sc (d) 109 0 [some (.ref 113), none] [] (mk g) Q
  refine Wp.steps 2 (pc1 := 2) (lo1 := [some (.ref 113), some (.int 0)]) (st1 := []) (h1 := mk g) rfl ?_
  exact w_109_2 (sc := sc) (d := d) 300 0 g _ e Q K
