/-! printed by wip/tools/den.py -/
def d_70_46 (x1 : Int32) (g : G) : Nat → Int32 → Int32 → Int32 → Int32 → Int32 → Int32 → Option (Int32 × G)
  | 0, _, _, _, _, _, _ => none
  | f + 1, x2, x3, x4, x5, x6, x7 =>
    bif zm_cmp .gt x7 (g 25 0) then (
      bif zm_cmp .ne x1 0 then (
        bif zm_cmp .ne x2 0 then (
          bif x1 == 1 then (
            some (x3, g)) else
          bif x1 == 2 then (
            some (x4, g)) else
          bif x1 == 3 then (
            some (x5, g)) else
          some (((g 25 0) &&& (x6 ^^^ (-1))), g)) else
        some ((-4), g)) else
      some (x2, g)) else
    Option.bind (d_7 x7 g) fun v10 =>
    bif v10 then (
      bif zm_cmp .ne x2 0 then (
        d_70_46 x1 g f (x2 + 1) x3 x7 (x5 &&& x7) (x6 ||| x7) (x7 + 1)) else
      d_70_46 x1 g f (x2 + 1) x7 x7 (x5 &&& x7) (x6 ||| x7) (x7 + 1)) else
    d_70_46 x1 g f x2 x3 x4 x5 x6 (x7 + 1)
set_option maxRecDepth 100000 in
set_option maxHeartbeats 4000000 in
theorem w_70_46 {sc : Option (List Int32)} {d : Nat} (x1 : Int32) (g : G) : ∀ (f : Nat) (x2 : Int32) (x3 : Int32) (x4 : Int32) (x5 : Int32) (x6 : Int32) (x7 : Int32) (r : Int32) (g' : G), d_70_46 x1 g f x2 x3 x4 x5 x6 x7 = some (r, g') → zB sc (d + 4) 70 46 [some (.ref 0), some (.int x1), some (.int x2), some (.int x3), some (.int x4), some (.int x5), some (.int x6), some (.int x7)] [] (mk g) [.int r] (mk g') := by
  intro f
  induction f with
  | zero =>
    intro x2 x3 x4 x5 x6 x7 r g' e
    rw [d_70_46.eq_1] at e
    cases e
  | succ f ih =>
    intro x2 x3 x4 x5 x6 x7 r g' e
    rw [d_70_46.eq_2] at e
    intro Q K
    refine Wp.steps 2 (pc1 := 49) (lo1 := [some (.ref 0), some (.int x1), some (.int x2), some (.int x3), some (.int x4), some (.int x5), some (.int x6), some (.int x7)]) (st1 := [.ref 0, .int x7]) (h1 := mk g) rfl ?_
    refine Wp.gf (pc1 := 52) (v := .ref 25) rfl rfl rfl rfl rfl ?_
    refine Wp.gf (pc1 := 55) (v := .int (g 25 0)) rfl rfl rfl rfl rfl ?_
    rcases zb_if e with ⟨hc4, e⟩ | ⟨hc4, e⟩
    · skip
      refine Wp.cT (pc1 := 108) rfl hc4 rfl ?_
      refine Wp.steps 1 (pc1 := 109) (lo1 := [some (.ref 0), some (.int x1), some (.int x2), some (.int x3), some (.int x4), some (.int x5), some (.int x6), some (.int x7)]) (st1 := [.int x1]) (h1 := mk g) rfl ?_
      rcases zb_if e with ⟨hc5, e⟩ | ⟨hc5, e⟩
      · skip
        refine Wp.iT (pc1 := 114) rfl hc5 rfl ?_
        refine Wp.steps 1 (pc1 := 115) (lo1 := [some (.ref 0), some (.int x1), some (.int x2), some (.int x3), some (.int x4), some (.int x5), some (.int x6), some (.int x7)]) (st1 := [.int x2]) (h1 := mk g) rfl ?_
        rcases zb_if e with ⟨hc6, e⟩ | ⟨hc6, e⟩
        · skip
          refine Wp.iT (pc1 := 121) rfl hc6 rfl ?_
          refine Wp.steps 1 (pc1 := 122) (lo1 := [some (.ref 0), some (.int x1), some (.int x2), some (.int x3), some (.int x4), some (.int x5), some (.int x6), some (.int x7)]) (st1 := [.int x1]) (h1 := mk g) rfl ?_
          rcases zb_if e with ⟨hc7, e⟩ | ⟨hc7, e⟩
          · skip
            refine Wp.swT (pc1 := 148) (w := 1) rfl hc7 rfl ?_
            refine Wp.steps 1 (pc1 := 149) (lo1 := [some (.ref 0), some (.int x1), some (.int x2), some (.int x3), some (.int x4), some (.int x5), some (.int x6), some (.int x7)]) (st1 := [.int x3]) (h1 := mk g) rfl ?_
            obtain ⟨e1, e2⟩ := zb_r2 e
            subst e1
            subst e2
            exact Wp.ret rfl rfl rfl (K _)
          · skip
            rcases zb_if e with ⟨hc8, e⟩ | ⟨hc8, e⟩
            · skip
              refine Wp.swT (pc1 := 150) (w := 2) rfl hc8 rfl ?_
              refine Wp.steps 1 (pc1 := 152) (lo1 := [some (.ref 0), some (.int x1), some (.int x2), some (.int x3), some (.int x4), some (.int x5), some (.int x6), some (.int x7)]) (st1 := [.int x4]) (h1 := mk g) rfl ?_
              obtain ⟨e1, e2⟩ := zb_r2 e
              subst e1
              subst e2
              exact Wp.ret rfl rfl rfl (K _)
            · skip
              rcases zb_if e with ⟨hc9, e⟩ | ⟨hc9, e⟩
              · skip
                refine Wp.swT (pc1 := 153) (w := 3) rfl hc9 rfl ?_
                refine Wp.steps 1 (pc1 := 155) (lo1 := [some (.ref 0), some (.int x1), some (.int x2), some (.int x3), some (.int x4), some (.int x5), some (.int x6), some (.int x7)]) (st1 := [.int x5]) (h1 := mk g) rfl ?_
                obtain ⟨e1, e2⟩ := zb_r2 e
                subst e1
                subst e2
                exact Wp.ret rfl rfl rfl (K _)
              · skip
                refine Wp.swD (pc1 := 156) [1, 2, 3] rfl (by simp only [List.all_cons, List.all_nil, hc7, hc8, hc9, Bool.not_false, Bool.and_true]) (by decide) rfl ?_
                refine Wp.steps 1 (pc1 := 157) (lo1 := [some (.ref 0), some (.int x1), some (.int x2), some (.int x3), some (.int x4), some (.int x5), some (.int x6), some (.int x7)]) (st1 := [.ref 0]) (h1 := mk g) rfl ?_
                refine Wp.gf (pc1 := 160) (v := .ref 25) rfl rfl rfl rfl rfl ?_
                refine Wp.gf (pc1 := 163) (v := .int (g 25 0)) rfl rfl rfl rfl rfl ?_
                refine Wp.steps 4 (pc1 := 168) (lo1 := [some (.ref 0), some (.int x1), some (.int x2), some (.int x3), some (.int x4), some (.int x5), some (.int x6), some (.int x7)]) (st1 := [.int ((g 25 0) &&& (x6 ^^^ (-1)))]) (h1 := mk g) rfl ?_
                obtain ⟨e1, e2⟩ := zb_r2 e
                subst e1
                subst e2
                exact Wp.ret rfl rfl rfl (K _)
        · skip
          refine Wp.iF (pc1 := 118) rfl hc6 rfl ?_
          refine Wp.steps 1 (pc1 := 120) (lo1 := [some (.ref 0), some (.int x1), some (.int x2), some (.int x3), some (.int x4), some (.int x5), some (.int x6), some (.int x7)]) (st1 := [.int (-4)]) (h1 := mk g) rfl ?_
          obtain ⟨e1, e2⟩ := zb_r2 e
          subst e1
          subst e2
          exact Wp.ret rfl rfl rfl (K _)
      · skip
        refine Wp.iF (pc1 := 112) rfl hc5 rfl ?_
        refine Wp.steps 1 (pc1 := 113) (lo1 := [some (.ref 0), some (.int x1), some (.int x2), some (.int x3), some (.int x4), some (.int x5), some (.int x6), some (.int x7)]) (st1 := [.int x2]) (h1 := mk g) rfl ?_
        obtain ⟨e1, e2⟩ := zb_r2 e
        subst e1
        subst e2
        exact Wp.ret rfl rfl rfl (K _)
    · skip
      refine Wp.cF (pc1 := 58) rfl hc4 rfl ?_
      refine Wp.steps 1 (pc1 := 59) (lo1 := [some (.ref 0), some (.int x1), some (.int x2), some (.int x3), some (.int x4), some (.int x5), some (.int x6), some (.int x7)]) (st1 := [.ref 0]) (h1 := mk g) rfl ?_
      refine Wp.gf (pc1 := 62) (v := .ref 25) rfl rfl rfl rfl rfl ?_
      refine Wp.steps 1 (pc1 := 64) (lo1 := [some (.ref 0), some (.int x1), some (.int x2), some (.int x3), some (.int x4), some (.int x5), some (.int x6), some (.int x7)]) (st1 := [.int x7, .ref 25]) (h1 := mk g) rfl ?_
      obtain ⟨v10, hvv10, e⟩ := zb_bind e
      refine Wp.ca (m := 7) (d1 := d + 3) (as := [.ref 25, .int x7]) (rest := []) (st1 := [.int (zb_i v10)]) (pc1 := 67) rfl rfl rfl rfl rfl rfl rfl rfl (mk_rok rfl rfl rfl rfl) rfl rfl rfl (w_7 (sc := sc) (d := d) x7 g hvv10) ?_
      rcases zb_if e with ⟨hc11, e⟩ | ⟨hc11, e⟩
      · skip
        refine Wp.iF (pc1 := 70) rfl (zb_eqF hc11) rfl ?_
        refine Wp.steps 1 (pc1 := 71) (lo1 := [some (.ref 0), some (.int x1), some (.int x2), some (.int x3), some (.int x4), some (.int x5), some (.int x6), some (.int x7)]) (st1 := [.int x2]) (h1 := mk g) rfl ?_
        rcases zb_if e with ⟨hc12, e⟩ | ⟨hc12, e⟩
        · skip
          refine Wp.iT (pc1 := 79) rfl hc12 rfl ?_
          refine Wp.steps 8 (pc1 := 92) (lo1 := [some (.ref 0), some (.int x1), some (.int x2), some (.int x3), some (.int x7), some (.int (x5 &&& x7)), some (.int x6), some (.int x7)]) (st1 := []) (h1 := mk g) rfl ?_
          refine Wp.steps 7 (pc1 := 46) (lo1 := [some (.ref 0), some (.int x1), some (.int (x2 + 1)), some (.int x3), some (.int x7), some (.int (x5 &&& x7)), some (.int (x6 ||| x7)), some (.int (x7 + 1))]) (st1 := []) (h1 := mk g) rfl ?_
          exact ih _ _ _ _ _ _ _ _ e Q K
        · skip
          refine Wp.iF (pc1 := 74) rfl hc12 rfl ?_
          refine Wp.steps 8 (pc1 := 90) (lo1 := [some (.ref 0), some (.int x1), some (.int x2), some (.int x7), some (.int x7), some (.int x5), some (.int x6), some (.int x7)]) (st1 := [.int (x5 &&& x7)]) (h1 := mk g) rfl ?_
          refine Wp.steps 8 (pc1 := 46) (lo1 := [some (.ref 0), some (.int x1), some (.int (x2 + 1)), some (.int x7), some (.int x7), some (.int (x5 &&& x7)), some (.int (x6 ||| x7)), some (.int (x7 + 1))]) (st1 := []) (h1 := mk g) rfl ?_
          exact ih _ _ _ _ _ _ _ _ e Q K
      · skip
        refine Wp.iT (pc1 := 102) rfl (zb_eqT hc11) rfl ?_
        refine Wp.steps 2 (pc1 := 46) (lo1 := [some (.ref 0), some (.int x1), some (.int x2), some (.int x3), some (.int x4), some (.int x5), some (.int x6), some (.int (x7 + 1))]) (st1 := []) (h1 := mk g) rfl ?_
        exact ih _ _ _ _ _ _ _ _ e Q K
/-- EveningFirst.days(I)I -/
def d_70 (x1 : Int32) (g : G) : Option (Int32 × G) :=
  bif zm_cmp .lt x1 0 then (
    some ((-1), g)) else
  bif zm_cmp .le x1 4 then (
    Option.bind (d_2 1 g) fun g3 =>
    d_70_46 x1 g3 300 0 (-4) (-4) (g3 25 0) 0 0) else
  some ((-1), g)
set_option maxRecDepth 100000 in
set_option maxHeartbeats 4000000 in
theorem w_70 {sc : Option (List Int32)} {d : Nat} (x1 : Int32) (g : G) {r : Int32} {g' : G} (e : d_70 x1 g = some (r, g')) : zB sc (d + 4) 70 0 (zm_ent (z_L 70) [.ref 0, .int x1]) [] (mk g) [.int r] (mk g') := by
  unfold d_70 at e
  intro Q K
  show Wp sc (d + 4) 70 0 [some (.ref 0), some (.int x1), none, none, none, none, none, none] [] (mk g) Q
  refine Wp.steps 1 (pc1 := 1) (lo1 := [some (.ref 0), some (.int x1), none, none, none, none, none, none]) (st1 := [.int x1]) (h1 := mk g) rfl ?_
  rcases zb_if e with ⟨hc1, e⟩ | ⟨hc1, e⟩
  · skip
    refine Wp.iT (pc1 := 9) rfl hc1 rfl ?_
    refine Wp.steps 1 (pc1 := 10) (lo1 := [some (.ref 0), some (.int x1), none, none, none, none, none, none]) (st1 := [.int (-1)]) (h1 := mk g) rfl ?_
    obtain ⟨e1, e2⟩ := zb_r2 e
    subst e1
    subst e2
    exact Wp.ret rfl rfl rfl (K _)
  · skip
    refine Wp.iF (pc1 := 4) rfl hc1 rfl ?_
    refine Wp.steps 2 (pc1 := 6) (lo1 := [some (.ref 0), some (.int x1), none, none, none, none, none, none]) (st1 := [.int 4, .int x1]) (h1 := mk g) rfl ?_
    rcases zb_if e with ⟨hc2, e⟩ | ⟨hc2, e⟩
    · skip
      refine Wp.cT (pc1 := 11) rfl hc2 rfl ?_
      refine Wp.steps 1 (pc1 := 12) (lo1 := [some (.ref 0), some (.int x1), none, none, none, none, none, none]) (st1 := [.ref 0]) (h1 := mk g) rfl ?_
      refine Wp.gf (pc1 := 15) (v := .ref 25) rfl rfl rfl rfl rfl ?_
      refine Wp.steps 1 (pc1 := 16) (lo1 := [some (.ref 0), some (.int x1), none, none, none, none, none, none]) (st1 := [.ref 0, .ref 25]) (h1 := mk g) rfl ?_
      refine Wp.gf (pc1 := 19) (v := .ref 1) rfl rfl rfl rfl rfl ?_
      obtain ⟨g3, hvg3, e⟩ := zb_bind e
      refine Wp.ca (m := 2) (d1 := d + 3) (as := [.ref 25, .ref 1]) (rest := []) (st1 := []) (pc1 := 22) rfl rfl rfl rfl rfl rfl rfl rfl (mk_rok rfl rfl rfl rfl) rfl rfl rfl (w_2 (sc := sc) (d := d) 1 rfl g hvg3) ?_
      refine Wp.steps 7 (pc1 := 32) (lo1 := [some (.ref 0), some (.int x1), some (.int 0), some (.int (-4)), some (.int (-4)), none, none, none]) (st1 := [.ref 0]) (h1 := mk g3) rfl ?_
      refine Wp.gf (pc1 := 35) (v := .ref 25) rfl rfl rfl rfl rfl ?_
      refine Wp.gf (pc1 := 38) (v := .int (g3 25 0)) rfl rfl rfl rfl rfl ?_
      refine Wp.steps 5 (pc1 := 46) (lo1 := [some (.ref 0), some (.int x1), some (.int 0), some (.int (-4)), some (.int (-4)), some (.int (g3 25 0)), some (.int 0), some (.int 0)]) (st1 := []) (h1 := mk g3) rfl ?_
      exact w_70_46 (sc := sc) (d := d) x1 g3 300 0 (-4) (-4) (g3 25 0) 0 0 _ _ e Q K
    · skip
      refine Wp.cF (pc1 := 9) rfl hc2 rfl ?_
      refine Wp.steps 1 (pc1 := 10) (lo1 := [some (.ref 0), some (.int x1), none, none, none, none, none, none]) (st1 := [.int (-1)]) (h1 := mk g) rfl ?_
      obtain ⟨e1, e2⟩ := zb_r2 e
      subst e1
      subst e2
      exact Wp.ret rfl rfl rfl (K _)
/-- EveningFirstModel.allDeeds()I -/
def d_158 (g : G) : Int32 :=
  (((1 : Int32) <<< ((g 114 8) &&& 31)) - 1)
set_option maxRecDepth 100000 in
set_option maxHeartbeats 4000000 in
theorem w_158 {sc : Option (List Int32)} {d : Nat} (g : G) {r : Int32} (e : d_158 g = r) : zB sc (d) 158 0 (zm_ent (z_L 158) [.ref 113]) [] (mk g) [.int r] (mk g) := by
  unfold d_158 at e
  intro Q K
  show Wp sc (d) 158 0 [some (.ref 113)] [] (mk g) Q
  refine Wp.steps 2 (pc1 := 2) (lo1 := [some (.ref 113)]) (st1 := [.ref 113, .int 1]) (h1 := mk g) rfl ?_
  refine Wp.gf (pc1 := 5) (v := .ref 114) rfl rfl rfl rfl rfl ?_
  refine Wp.steps 1 (pc1 := 7) (lo1 := [some (.ref 113)]) (st1 := [.int 8, .ref 114, .int 1]) (h1 := mk g) rfl ?_
  refine Wp.ia (pc1 := 8) (k := 8) rfl rfl rfl rfl rfl ?_
  refine Wp.steps 3 (pc1 := 11) (lo1 := [some (.ref 113)]) (st1 := [.int (((1 : Int32) <<< ((g 114 8) &&& 31)) - 1)]) (h1 := mk g) rfl ?_
  have e1 := e
  subst e1
  exact Wp.ret rfl rfl rfl (K _)
def d_157_4 (x1 : Int32) (g : G) : Nat → Int32 → Int32 → Option Int32
  | 0, _, _ => none
  | f + 1, x2, x3 =>
    bif zm_cmp .ge x3 (g 114 8) then (
      some x2) else
    Option.bind (d_136 x3 5 g) fun v2 =>
    bif zm_cmp .ne v2 x1 then (
      zb_l (d_108 0) fun v4 =>
      d_157_4 x1 g f (x2 ||| (v4 <<< (x3 &&& 31))) (x3 + 1)) else
    zb_l (d_108 1) fun v5 =>
    d_157_4 x1 g f (x2 ||| (v5 <<< (x3 &&& 31))) (x3 + 1)
set_option maxRecDepth 100000 in
set_option maxHeartbeats 4000000 in
theorem w_157_4 {sc : Option (List Int32)} {d : Nat} (x1 : Int32) (g : G) : ∀ (f : Nat) (x2 : Int32) (x3 : Int32) (r : Int32), d_157_4 x1 g f x2 x3 = some r → zB sc (d + 1) 157 4 [some (.ref 113), some (.int x1), some (.int x2), some (.int x3)] [] (mk g) [.int r] (mk g) := by
  intro f
  induction f with
  | zero =>
    intro x2 x3 r e
    rw [d_157_4.eq_1] at e
    cases e
  | succ f ih =>
    intro x2 x3 r e
    rw [d_157_4.eq_2] at e
    intro Q K
    refine Wp.steps 2 (pc1 := 6) (lo1 := [some (.ref 113), some (.int x1), some (.int x2), some (.int x3)]) (st1 := [.ref 113, .int x3]) (h1 := mk g) rfl ?_
    refine Wp.gf (pc1 := 9) (v := .ref 114) rfl rfl rfl rfl rfl ?_
    refine Wp.steps 1 (pc1 := 11) (lo1 := [some (.ref 113), some (.int x1), some (.int x2), some (.int x3)]) (st1 := [.int 8, .ref 114, .int x3]) (h1 := mk g) rfl ?_
    refine Wp.ia (pc1 := 12) (k := 8) rfl rfl rfl rfl rfl ?_
    rcases zb_if e with ⟨hc1, e⟩ | ⟨hc1, e⟩
    · skip
      refine Wp.cT (pc1 := 44) rfl hc1 rfl ?_
      refine Wp.steps 1 (pc1 := 45) (lo1 := [some (.ref 113), some (.int x1), some (.int x2), some (.int x3)]) (st1 := [.int x2]) (h1 := mk g) rfl ?_
      have e1 := zb_r1 e
      subst e1
      exact Wp.ret rfl rfl rfl (K _)
    · skip
      refine Wp.cF (pc1 := 15) rfl hc1 rfl ?_
      refine Wp.steps 4 (pc1 := 19) (lo1 := [some (.ref 113), some (.int x1), some (.int x2), some (.int x3)]) (st1 := [.int 5, .int x3, .ref 113, .int x2]) (h1 := mk g) rfl ?_
      obtain ⟨v2, hvv2, e⟩ := zb_bind e
      refine Wp.ca (m := 136) (d1 := d) (as := [.ref 113, .int x3, .int 5]) (rest := [.int x2]) (st1 := [.int v2, .int x2]) (pc1 := 22) rfl rfl rfl rfl rfl rfl rfl rfl (mk_rok rfl rfl rfl rfl) rfl rfl rfl (w_136 (sc := sc) (d := d) x3 5 g hvv2) ?_
      refine Wp.steps 1 (pc1 := 23) (lo1 := [some (.ref 113), some (.int x1), some (.int x2), some (.int x3)]) (st1 := [.int x1, .int v2, .int x2]) (h1 := mk g) rfl ?_
      rcases zb_if e with ⟨hc3, e⟩ | ⟨hc3, e⟩
      · skip
        refine Wp.cT (pc1 := 30) rfl hc3 rfl ?_
        refine Wp.steps 1 (pc1 := 31) (lo1 := [some (.ref 113), some (.int x1), some (.int x2), some (.int x3)]) (st1 := [.int 0, .int x2]) (h1 := mk g) rfl ?_
        obtain ⟨v4, hvv4, e⟩ := zb_let e
        refine Wp.ca (m := 108) (d1 := d) (as := [.int 0]) (rest := [.int x2]) (st1 := [.int v4, .int x2]) (pc1 := 34) rfl rfl rfl rfl rfl rfl rfl rfl rfl rfl rfl rfl (w_108 (sc := sc) (d := d) 0 g hvv4) ?_
        refine Wp.steps 6 (pc1 := 4) (lo1 := [some (.ref 113), some (.int x1), some (.int (x2 ||| (v4 <<< (x3 &&& 31)))), some (.int (x3 + 1))]) (st1 := []) (h1 := mk g) rfl ?_
        exact ih _ _ _ e Q K
      · skip
        refine Wp.cF (pc1 := 26) rfl hc3 rfl ?_
        refine Wp.steps 2 (pc1 := 31) (lo1 := [some (.ref 113), some (.int x1), some (.int x2), some (.int x3)]) (st1 := [.int 1, .int x2]) (h1 := mk g) rfl ?_
        obtain ⟨v5, hvv5, e⟩ := zb_let e
        refine Wp.ca (m := 108) (d1 := d) (as := [.int 1]) (rest := [.int x2]) (st1 := [.int v5, .int x2]) (pc1 := 34) rfl rfl rfl rfl rfl rfl rfl rfl rfl rfl rfl rfl (w_108 (sc := sc) (d := d) 1 g hvv5) ?_
        refine Wp.steps 6 (pc1 := 4) (lo1 := [some (.ref 113), some (.int x1), some (.int (x2 ||| (v5 <<< (x3 &&& 31)))), some (.int (x3 + 1))]) (st1 := []) (h1 := mk g) rfl ?_
        exact ih _ _ _ e Q K
/-- EveningFirstModel.marked(I)I -/
def d_157 (x1 : Int32) (g : G) : Option Int32 :=
  d_157_4 x1 g 300 0 0
set_option maxRecDepth 100000 in
set_option maxHeartbeats 4000000 in
theorem w_157 {sc : Option (List Int32)} {d : Nat} (x1 : Int32) (g : G) {r : Int32} (e : d_157 x1 g = some r) : zB sc (d + 1) 157 0 (zm_ent (z_L 157) [.ref 113, .int x1]) [] (mk g) [.int r] (mk g) := by
  unfold d_157 at e
  intro Q K
  show Wp sc (d + 1) 157 0 [some (.ref 113), some (.int x1), none, none] [] (mk g) Q
  refine Wp.steps 4 (pc1 := 4) (lo1 := [some (.ref 113), some (.int x1), some (.int 0), some (.int 0)]) (st1 := []) (h1 := mk g) rfl ?_
  exact w_157_4 (sc := sc) (d := d) x1 g 300 0 0 _ e Q K
/-- EveningFirstModel.isAllowed(I)Z -/
def d_159 (x1 : Int32) (g : G) : Option Bool :=
  Option.bind (d_157 1 g) fun v1 =>
  bif zm_cmp .ne (v1 &&& (x1 ^^^ (-1))) 0 then (
    some false) else
  Option.bind (d_157 2 g) fun v3 =>
  bif zm_cmp .ne (v3 &&& x1) 0 then (
    some false) else
  Option.bind (d_152 x1 g) fun v5 =>
  bif v5 then (
    some true) else
  some false
set_option maxRecDepth 100000 in
set_option maxHeartbeats 4000000 in
theorem w_159 {sc : Option (List Int32)} {d : Nat} (x1 : Int32) (g : G) {r : Bool} (e : d_159 x1 g = some r) : zB sc (d + 4) 159 0 (zm_ent (z_L 159) [.ref 113, .int x1]) [] (mk g) [.int (zb_i r)] (mk g) := by
  unfold d_159 at e
  intro Q K
  show Wp sc (d + 4) 159 0 [some (.ref 113), some (.int x1)] [] (mk g) Q
  refine Wp.steps 2 (pc1 := 2) (lo1 := [some (.ref 113), some (.int x1)]) (st1 := [.int 1, .ref 113]) (h1 := mk g) rfl ?_
  obtain ⟨v1, hvv1, e⟩ := zb_bind e
  refine Wp.ca (m := 157) (d1 := d + 3) (as := [.ref 113, .int 1]) (rest := []) (st1 := [.int v1]) (pc1 := 5) rfl rfl rfl rfl rfl rfl rfl rfl (mk_rok rfl rfl rfl rfl) rfl rfl rfl (w_157 (sc := sc) (d := d + 2) 1 g hvv1) ?_
  refine Wp.steps 4 (pc1 := 9) (lo1 := [some (.ref 113), some (.int x1)]) (st1 := [.int (v1 &&& (x1 ^^^ (-1)))]) (h1 := mk g) rfl ?_
  rcases zb_if e with ⟨hc2, e⟩ | ⟨hc2, e⟩
  · skip
    refine Wp.iT (pc1 := 34) rfl hc2 rfl ?_
    refine Wp.steps 1 (pc1 := 35) (lo1 := [some (.ref 113), some (.int x1)]) (st1 := [.int 0]) (h1 := mk g) rfl ?_
    have e1 := zb_r1 e
    subst e1
    exact Wp.ret rfl rfl rfl (K _)
  · skip
    refine Wp.iF (pc1 := 12) rfl hc2 rfl ?_
    refine Wp.steps 2 (pc1 := 14) (lo1 := [some (.ref 113), some (.int x1)]) (st1 := [.int 2, .ref 113]) (h1 := mk g) rfl ?_
    obtain ⟨v3, hvv3, e⟩ := zb_bind e
    refine Wp.ca (m := 157) (d1 := d + 3) (as := [.ref 113, .int 2]) (rest := []) (st1 := [.int v3]) (pc1 := 17) rfl rfl rfl rfl rfl rfl rfl rfl (mk_rok rfl rfl rfl rfl) rfl rfl rfl (w_157 (sc := sc) (d := d + 2) 2 g hvv3) ?_
    refine Wp.steps 2 (pc1 := 19) (lo1 := [some (.ref 113), some (.int x1)]) (st1 := [.int (v3 &&& x1)]) (h1 := mk g) rfl ?_
    rcases zb_if e with ⟨hc4, e⟩ | ⟨hc4, e⟩
    · skip
      refine Wp.iT (pc1 := 34) rfl hc4 rfl ?_
      refine Wp.steps 1 (pc1 := 35) (lo1 := [some (.ref 113), some (.int x1)]) (st1 := [.int 0]) (h1 := mk g) rfl ?_
      have e1 := zb_r1 e
      subst e1
      exact Wp.ret rfl rfl rfl (K _)
    · skip
      refine Wp.iF (pc1 := 22) rfl hc4 rfl ?_
      refine Wp.steps 2 (pc1 := 24) (lo1 := [some (.ref 113), some (.int x1)]) (st1 := [.int x1, .ref 113]) (h1 := mk g) rfl ?_
      obtain ⟨v5, hvv5, e⟩ := zb_bind e
      refine Wp.ca (m := 152) (d1 := d + 3) (as := [.ref 113, .int x1]) (rest := []) (st1 := [.int (zb_i v5)]) (pc1 := 27) rfl rfl rfl rfl rfl rfl rfl rfl (mk_rok rfl rfl rfl rfl) rfl rfl rfl (w_152 (sc := sc) (d := d) x1 g hvv5) ?_
      rcases zb_if e with ⟨hc6, e⟩ | ⟨hc6, e⟩
      · skip
        refine Wp.iF (pc1 := 30) rfl (zb_eqF hc6) rfl ?_
        refine Wp.steps 2 (pc1 := 35) (lo1 := [some (.ref 113), some (.int x1)]) (st1 := [.int 1]) (h1 := mk g) rfl ?_
        have e1 := zb_r1 e
        subst e1
        exact Wp.ret rfl rfl rfl (K _)
      · skip
        refine Wp.iT (pc1 := 34) rfl (zb_eqT hc6) rfl ?_
        refine Wp.steps 1 (pc1 := 35) (lo1 := [some (.ref 113), some (.int x1)]) (st1 := [.int 0]) (h1 := mk g) rfl ?_
        have e1 := zb_r1 e
        subst e1
        exact Wp.ret rfl rfl rfl (K _)
def d_160_35 (x1 : Int32) (g : G) : Nat → Int32 → Int32 → Int32 → Int32 → Int32 → Int32 → Option Int32
  | 0, _, _, _, _, _, _ => none
  | f + 1, x2, x3, x4, x5, x6, x7 =>
    zb_l (d_158 g) fun v4 =>
    bif zm_cmp .gt x7 v4 then (
      bif zm_cmp .eq x1 0 then (
        bif zm_cmp .ne x1 0 then (
          some (-4)) else
        some x2) else
      bif zm_cmp .ne x2 0 then (
        bif zm_cmp .ne x1 1 then (
          bif zm_cmp .ne x1 2 then (
            bif zm_cmp .ne x1 3 then (
              zb_l (d_158 g) fun v12 =>
              some (v12 &&& (x6 ^^^ (-1)))) else
            some x5) else
          some x4) else
        some x3) else
      bif zm_cmp .ne x1 0 then (
        some (-4)) else
      some x2) else
    Option.bind (d_159 x7 g) fun v14 =>
    bif v14 then (
      bif zm_cmp .ne x2 0 then (
        d_160_35 x1 g f (x2 + 1) x3 x7 (x5 &&& x7) (x6 ||| x7) (x7 + 1)) else
      d_160_35 x1 g f (x2 + 1) x7 x7 (x5 &&& x7) (x6 ||| x7) (x7 + 1)) else
    d_160_35 x1 g f x2 x3 x4 x5 x6 (x7 + 1)
set_option maxRecDepth 100000 in
set_option maxHeartbeats 4000000 in
theorem w_160_35 {sc : Option (List Int32)} {d : Nat} (x1 : Int32) (g : G) : ∀ (f : Nat) (x2 : Int32) (x3 : Int32) (x4 : Int32) (x5 : Int32) (x6 : Int32) (x7 : Int32) (r : Int32), d_160_35 x1 g f x2 x3 x4 x5 x6 x7 = some r → zB sc (d + 5) 160 35 [some (.ref 113), some (.int x1), some (.int x2), some (.int x3), some (.int x4), some (.int x5), some (.int x6), some (.int x7)] [] (mk g) [.int r] (mk g) := by
  intro f
  induction f with
  | zero =>
    intro x2 x3 x4 x5 x6 x7 r e
    rw [d_160_35.eq_1] at e
    cases e
  | succ f ih =>
    intro x2 x3 x4 x5 x6 x7 r e
    rw [d_160_35.eq_2] at e
    intro Q K
    refine Wp.steps 2 (pc1 := 38) (lo1 := [some (.ref 113), some (.int x1), some (.int x2), some (.int x3), some (.int x4), some (.int x5), some (.int x6), some (.int x7)]) (st1 := [.ref 113, .int x7]) (h1 := mk g) rfl ?_
    obtain ⟨v4, hvv4, e⟩ := zb_let e
    refine Wp.ca (m := 158) (d1 := d + 4) (as := [.ref 113]) (rest := [.int x7]) (st1 := [.int v4, .int x7]) (pc1 := 41) rfl rfl rfl rfl rfl rfl rfl rfl (mk_rok rfl rfl rfl rfl) rfl rfl rfl (w_158 (sc := sc) (d := d + 4)  g hvv4) ?_
    rcases zb_if e with ⟨hc5, e⟩ | ⟨hc5, e⟩
    · skip
      refine Wp.cT (pc1 := 91) rfl hc5 rfl ?_
      refine Wp.steps 1 (pc1 := 92) (lo1 := [some (.ref 113), some (.int x1), some (.int x2), some (.int x3), some (.int x4), some (.int x5), some (.int x6), some (.int x7)]) (st1 := [.int x1]) (h1 := mk g) rfl ?_
      rcases zb_if e with ⟨hc6, e⟩ | ⟨hc6, e⟩
      · skip
        refine Wp.iT (pc1 := 99) rfl hc6 rfl ?_
        refine Wp.steps 1 (pc1 := 100) (lo1 := [some (.ref 113), some (.int x1), some (.int x2), some (.int x3), some (.int x4), some (.int x5), some (.int x6), some (.int x7)]) (st1 := [.int x1]) (h1 := mk g) rfl ?_
        rcases zb_if e with ⟨hc7, e⟩ | ⟨hc7, e⟩
        · skip
          refine Wp.iT (pc1 := 107) rfl hc7 rfl ?_
          refine Wp.steps 1 (pc1 := 109) (lo1 := [some (.ref 113), some (.int x1), some (.int x2), some (.int x3), some (.int x4), some (.int x5), some (.int x6), some (.int x7)]) (st1 := [.int (-4)]) (h1 := mk g) rfl ?_
          have e1 := zb_r1 e
          subst e1
          exact Wp.ret rfl rfl rfl (K _)
        · skip
          refine Wp.iF (pc1 := 103) rfl hc7 rfl ?_
          refine Wp.steps 2 (pc1 := 109) (lo1 := [some (.ref 113), some (.int x1), some (.int x2), some (.int x3), some (.int x4), some (.int x5), some (.int x6), some (.int x7)]) (st1 := [.int x2]) (h1 := mk g) rfl ?_
          have e1 := zb_r1 e
          subst e1
          exact Wp.ret rfl rfl rfl (K _)
      · skip
        refine Wp.iF (pc1 := 95) rfl hc6 rfl ?_
        refine Wp.steps 1 (pc1 := 96) (lo1 := [some (.ref 113), some (.int x1), some (.int x2), some (.int x3), some (.int x4), some (.int x5), some (.int x6), some (.int x7)]) (st1 := [.int x2]) (h1 := mk g) rfl ?_
        rcases zb_if e with ⟨hc8, e⟩ | ⟨hc8, e⟩
        · skip
          refine Wp.iT (pc1 := 110) rfl hc8 rfl ?_
          refine Wp.steps 2 (pc1 := 112) (lo1 := [some (.ref 113), some (.int x1), some (.int x2), some (.int x3), some (.int x4), some (.int x5), some (.int x6), some (.int x7)]) (st1 := [.int 1, .int x1]) (h1 := mk g) rfl ?_
          rcases zb_if e with ⟨hc9, e⟩ | ⟨hc9, e⟩
          · skip
            refine Wp.cT (pc1 := 119) rfl hc9 rfl ?_
            refine Wp.steps 2 (pc1 := 121) (lo1 := [some (.ref 113), some (.int x1), some (.int x2), some (.int x3), some (.int x4), some (.int x5), some (.int x6), some (.int x7)]) (st1 := [.int 2, .int x1]) (h1 := mk g) rfl ?_
            rcases zb_if e with ⟨hc10, e⟩ | ⟨hc10, e⟩
            · skip
              refine Wp.cT (pc1 := 129) rfl hc10 rfl ?_
              refine Wp.steps 2 (pc1 := 131) (lo1 := [some (.ref 113), some (.int x1), some (.int x2), some (.int x3), some (.int x4), some (.int x5), some (.int x6), some (.int x7)]) (st1 := [.int 3, .int x1]) (h1 := mk g) rfl ?_
              rcases zb_if e with ⟨hc11, e⟩ | ⟨hc11, e⟩
              · skip
                refine Wp.cT (pc1 := 139) rfl hc11 rfl ?_
                refine Wp.steps 1 (pc1 := 140) (lo1 := [some (.ref 113), some (.int x1), some (.int x2), some (.int x3), some (.int x4), some (.int x5), some (.int x6), some (.int x7)]) (st1 := [.ref 113]) (h1 := mk g) rfl ?_
                obtain ⟨v12, hvv12, e⟩ := zb_let e
                refine Wp.ca (m := 158) (d1 := d + 4) (as := [.ref 113]) (rest := []) (st1 := [.int v12]) (pc1 := 143) rfl rfl rfl rfl rfl rfl rfl rfl (mk_rok rfl rfl rfl rfl) rfl rfl rfl (w_158 (sc := sc) (d := d + 4)  g hvv12) ?_
                refine Wp.steps 4 (pc1 := 148) (lo1 := [some (.ref 113), some (.int x1), some (.int x2), some (.int x3), some (.int x4), some (.int x5), some (.int x6), some (.int x7)]) (st1 := [.int (v12 &&& (x6 ^^^ (-1)))]) (h1 := mk g) rfl ?_
                have e1 := zb_r1 e
                subst e1
                exact Wp.ret rfl rfl rfl (K _)
              · skip
                refine Wp.cF (pc1 := 134) rfl hc11 rfl ?_
                refine Wp.steps 2 (pc1 := 148) (lo1 := [some (.ref 113), some (.int x1), some (.int x2), some (.int x3), some (.int x4), some (.int x5), some (.int x6), some (.int x7)]) (st1 := [.int x5]) (h1 := mk g) rfl ?_
                have e1 := zb_r1 e
                subst e1
                exact Wp.ret rfl rfl rfl (K _)
            · skip
              refine Wp.cF (pc1 := 124) rfl hc10 rfl ?_
              refine Wp.steps 2 (pc1 := 148) (lo1 := [some (.ref 113), some (.int x1), some (.int x2), some (.int x3), some (.int x4), some (.int x5), some (.int x6), some (.int x7)]) (st1 := [.int x4]) (h1 := mk g) rfl ?_
              have e1 := zb_r1 e
              subst e1
              exact Wp.ret rfl rfl rfl (K _)
          · skip
            refine Wp.cF (pc1 := 115) rfl hc9 rfl ?_
            refine Wp.steps 2 (pc1 := 148) (lo1 := [some (.ref 113), some (.int x1), some (.int x2), some (.int x3), some (.int x4), some (.int x5), some (.int x6), some (.int x7)]) (st1 := [.int x3]) (h1 := mk g) rfl ?_
            have e1 := zb_r1 e
            subst e1
            exact Wp.ret rfl rfl rfl (K _)
        · skip
          refine Wp.iF (pc1 := 99) rfl hc8 rfl ?_
          refine Wp.steps 1 (pc1 := 100) (lo1 := [some (.ref 113), some (.int x1), some (.int x2), some (.int x3), some (.int x4), some (.int x5), some (.int x6), some (.int x7)]) (st1 := [.int x1]) (h1 := mk g) rfl ?_
          rcases zb_if e with ⟨hc13, e⟩ | ⟨hc13, e⟩
          · skip
            refine Wp.iT (pc1 := 107) rfl hc13 rfl ?_
            refine Wp.steps 1 (pc1 := 109) (lo1 := [some (.ref 113), some (.int x1), some (.int x2), some (.int x3), some (.int x4), some (.int x5), some (.int x6), some (.int x7)]) (st1 := [.int (-4)]) (h1 := mk g) rfl ?_
            have e1 := zb_r1 e
            subst e1
            exact Wp.ret rfl rfl rfl (K _)
          · skip
            refine Wp.iF (pc1 := 103) rfl hc13 rfl ?_
            refine Wp.steps 2 (pc1 := 109) (lo1 := [some (.ref 113), some (.int x1), some (.int x2), some (.int x3), some (.int x4), some (.int x5), some (.int x6), some (.int x7)]) (st1 := [.int x2]) (h1 := mk g) rfl ?_
            have e1 := zb_r1 e
            subst e1
            exact Wp.ret rfl rfl rfl (K _)
    · skip
      refine Wp.cF (pc1 := 44) rfl hc5 rfl ?_
      refine Wp.steps 2 (pc1 := 47) (lo1 := [some (.ref 113), some (.int x1), some (.int x2), some (.int x3), some (.int x4), some (.int x5), some (.int x6), some (.int x7)]) (st1 := [.int x7, .ref 113]) (h1 := mk g) rfl ?_
      obtain ⟨v14, hvv14, e⟩ := zb_bind e
      refine Wp.ca (m := 159) (d1 := d + 4) (as := [.ref 113, .int x7]) (rest := []) (st1 := [.int (zb_i v14)]) (pc1 := 50) rfl rfl rfl rfl rfl rfl rfl rfl (mk_rok rfl rfl rfl rfl) rfl rfl rfl (w_159 (sc := sc) (d := d) x7 g hvv14) ?_
      rcases zb_if e with ⟨hc15, e⟩ | ⟨hc15, e⟩
      · skip
        refine Wp.iF (pc1 := 53) rfl (zb_eqF hc15) rfl ?_
        refine Wp.steps 1 (pc1 := 54) (lo1 := [some (.ref 113), some (.int x1), some (.int x2), some (.int x3), some (.int x4), some (.int x5), some (.int x6), some (.int x7)]) (st1 := [.int x2]) (h1 := mk g) rfl ?_
        rcases zb_if e with ⟨hc16, e⟩ | ⟨hc16, e⟩
        · skip
          refine Wp.iT (pc1 := 62) rfl hc16 rfl ?_
          refine Wp.steps 8 (pc1 := 75) (lo1 := [some (.ref 113), some (.int x1), some (.int x2), some (.int x3), some (.int x7), some (.int (x5 &&& x7)), some (.int x6), some (.int x7)]) (st1 := []) (h1 := mk g) rfl ?_
          refine Wp.steps 7 (pc1 := 35) (lo1 := [some (.ref 113), some (.int x1), some (.int (x2 + 1)), some (.int x3), some (.int x7), some (.int (x5 &&& x7)), some (.int (x6 ||| x7)), some (.int (x7 + 1))]) (st1 := []) (h1 := mk g) rfl ?_
          exact ih _ _ _ _ _ _ _ e Q K
        · skip
          refine Wp.iF (pc1 := 57) rfl hc16 rfl ?_
          refine Wp.steps 8 (pc1 := 73) (lo1 := [some (.ref 113), some (.int x1), some (.int x2), some (.int x7), some (.int x7), some (.int x5), some (.int x6), some (.int x7)]) (st1 := [.int (x5 &&& x7)]) (h1 := mk g) rfl ?_
          refine Wp.steps 8 (pc1 := 35) (lo1 := [some (.ref 113), some (.int x1), some (.int (x2 + 1)), some (.int x7), some (.int x7), some (.int (x5 &&& x7)), some (.int (x6 ||| x7)), some (.int (x7 + 1))]) (st1 := []) (h1 := mk g) rfl ?_
          exact ih _ _ _ _ _ _ _ e Q K
      · skip
        refine Wp.iT (pc1 := 85) rfl (zb_eqT hc15) rfl ?_
        refine Wp.steps 2 (pc1 := 35) (lo1 := [some (.ref 113), some (.int x1), some (.int x2), some (.int x3), some (.int x4), some (.int x5), some (.int x6), some (.int (x7 + 1))]) (st1 := []) (h1 := mk g) rfl ?_
        exact ih _ _ _ _ _ _ _ e Q K
/-- EveningFirstModel.days(I)I -/
def d_160 (x1 : Int32) (g : G) : Option Int32 :=
  zb_l (d_107 (Int32.toInt64 x1) 0 4) fun v1 =>
  bif v1 then (
    zb_l (d_158 g) fun v3 =>
    d_160_35 x1 g 300 0 (-4) (-4) v3 0 0) else
  some (-1)
set_option maxRecDepth 100000 in
set_option maxHeartbeats 4000000 in
theorem w_160 {sc : Option (List Int32)} {d : Nat} (x1 : Int32) (g : G) {r : Int32} (e : d_160 x1 g = some r) : zB sc (d + 5) 160 0 (zm_ent (z_L 160) [.ref 113, .int x1]) [] (mk g) [.int r] (mk g) := by
  unfold d_160 at e
  intro Q K
  show Wp sc (d + 5) 160 0 [some (.ref 113), some (.int x1), none, none, none, none, none, none] [] (mk g) Q
  refine Wp.steps 4 (pc1 := 6) (lo1 := [some (.ref 113), some (.int x1), none, none, none, none, none, none]) (st1 := [.long 4, .long 0, .long (Int32.toInt64 x1)]) (h1 := mk g) rfl ?_
  obtain ⟨v1, hvv1, e⟩ := zb_let e
  refine Wp.ca (m := 107) (d1 := d + 4) (as := [.long (Int32.toInt64 x1), .long 0, .long 4]) (rest := []) (st1 := [.int (zb_i v1)]) (pc1 := 9) rfl rfl rfl rfl rfl rfl rfl rfl rfl rfl rfl rfl (w_107 (sc := sc) (d := d + 4) (Int32.toInt64 x1) 0 4 g hvv1) ?_
  rcases zb_if e with ⟨hc2, e⟩ | ⟨hc2, e⟩
  · skip
    refine Wp.iT (pc1 := 14) rfl (zb_neT hc2) rfl ?_
    refine Wp.steps 7 (pc1 := 24) (lo1 := [some (.ref 113), some (.int x1), some (.int 0), some (.int (-4)), some (.int (-4)), none, none, none]) (st1 := [.ref 113]) (h1 := mk g) rfl ?_
    obtain ⟨v3, hvv3, e⟩ := zb_let e
    refine Wp.ca (m := 158) (d1 := d + 4) (as := [.ref 113]) (rest := []) (st1 := [.int v3]) (pc1 := 27) rfl rfl rfl rfl rfl rfl rfl rfl (mk_rok rfl rfl rfl rfl) rfl rfl rfl (w_158 (sc := sc) (d := d + 4)  g hvv3) ?_
    refine Wp.steps 5 (pc1 := 35) (lo1 := [some (.ref 113), some (.int x1), some (.int 0), some (.int (-4)), some (.int (-4)), some (.int v3), some (.int 0), some (.int 0)]) (st1 := []) (h1 := mk g) rfl ?_
    exact w_160_35 (sc := sc) (d := d) x1 g 300 0 (-4) (-4) v3 0 0 _ e Q K
  · skip
    refine Wp.iF (pc1 := 12) rfl (zb_neF hc2) rfl ?_
    refine Wp.steps 1 (pc1 := 13) (lo1 := [some (.ref 113), some (.int x1), none, none, none, none, none, none]) (st1 := [.int (-1)]) (h1 := mk g) rfl ?_
    have e1 := zb_r1 e
    subst e1
    exact Wp.ret rfl rfl rfl (K _)
def d_8_11 (g : G) : Nat → Int32 → Int32 → Option Int32
  | 0, _, _ => none
  | f + 1, x2, x3 =>
    bif zm_cmp .ge x3 8 then (
      some x2) else
    Option.bind (d_5 x2 x2 g) fun v2 =>
    bif zm_cmp .ne v2 x2 then (
      d_8_11 g f v2 (x3 + 1)) else
    some x2
set_option maxRecDepth 100000 in
set_option maxHeartbeats 4000000 in
theorem w_8_11 {sc : Option (List Int32)} {d : Nat} (g : G) : ∀ (f : Nat) (x2 : Int32) (x3 : Int32) (r : Int32), d_8_11 g f x2 x3 = some r → zB sc (d + 2) 8 11 [some (.ref 25), none, some (.int x2), some (.int x3), none] [] (mk g) [.int r] (mk g) := by
  intro f
  induction f with
  | zero =>
    intro x2 x3 r e
    rw [d_8_11.eq_1] at e
    cases e
  | succ f ih =>
    intro x2 x3 r e
    rw [d_8_11.eq_2] at e
    intro Q K
    refine Wp.steps 2 (pc1 := 14) (lo1 := [some (.ref 25), none, some (.int x2), some (.int x3), none]) (st1 := [.int 8, .int x3]) (h1 := mk g) rfl ?_
    rcases zb_if e with ⟨hc1, e⟩ | ⟨hc1, e⟩
    · skip
      refine Wp.cT (pc1 := 42) rfl hc1 rfl ?_
      refine Wp.steps 1 (pc1 := 43) (lo1 := [some (.ref 25), none, some (.int x2), some (.int x3), none]) (st1 := [.int x2]) (h1 := mk g) rfl ?_
      have e1 := zb_r1 e
      subst e1
      exact Wp.ret rfl rfl rfl (K _)
    · skip
      refine Wp.cF (pc1 := 17) rfl hc1 rfl ?_
      refine Wp.steps 3 (pc1 := 20) (lo1 := [some (.ref 25), none, some (.int x2), some (.int x3), none]) (st1 := [.int x2, .int x2, .ref 25]) (h1 := mk g) rfl ?_
      obtain ⟨v2, hvv2, e⟩ := zb_bind e
      refine Wp.ca (m := 5) (d1 := d + 1) (as := [.ref 25, .int x2, .int x2]) (rest := []) (st1 := [.int v2]) (pc1 := 23) rfl rfl rfl rfl rfl rfl rfl rfl (mk_rok rfl rfl rfl rfl) rfl rfl rfl (w_5 (sc := sc) (d := d) x2 x2 g hvv2) ?_
      refine Wp.steps 3 (pc1 := 28) (lo1 := [some (.ref 25), none, some (.int x2), some (.int x3), some (.int v2)]) (st1 := [.int x2, .int v2]) (h1 := mk g) rfl ?_
      rcases zb_if e with ⟨hc3, e⟩ | ⟨hc3, e⟩
      · skip
        refine Wp.cT (pc1 := 33) rfl hc3 rfl ?_
        refine Wp.steps 4 (pc1 := 11) (lo1 := [some (.ref 25), none, some (.int v2), some (.int (x3 + 1)), some (.int v2)]) (st1 := []) (h1 := mk g) rfl ?_
        refine Wp.fg [some (.ref 25), none, some (.int v2), some (.int (x3 + 1)), none] (zm_lle_s (zm_lle_n (zm_lle_s (zm_lle_s (zm_lle_n zm_lle_0))))) ?_
        exact ih _ _ _ e Q K
      · skip
        refine Wp.cF (pc1 := 31) rfl hc3 rfl ?_
        refine Wp.steps 1 (pc1 := 32) (lo1 := [some (.ref 25), none, some (.int x2), some (.int x3), some (.int v2)]) (st1 := [.int x2]) (h1 := mk g) rfl ?_
        have e1 := zb_r1 e
        subst e1
        exact Wp.ret rfl rfl rfl (K _)
/-- EveningFirst$Bonds.greatestWithout(I)I -/
def d_8 (x1 : Int32) (g : G) : Option Int32 :=
  d_8_11 g 300 ((g 25 0) &&& (x1 ^^^ (-1))) 0
set_option maxRecDepth 100000 in
set_option maxHeartbeats 4000000 in
theorem w_8 {sc : Option (List Int32)} {d : Nat} (x1 : Int32) (g : G) {r : Int32} (e : d_8 x1 g = some r) : zB sc (d + 2) 8 0 (zm_ent (z_L 8) [.ref 25, .int x1]) [] (mk g) [.int r] (mk g) := by
  unfold d_8 at e
  intro Q K
  show Wp sc (d + 2) 8 0 [some (.ref 25), some (.int x1), none, none, none] [] (mk g) Q
  refine Wp.steps 1 (pc1 := 1) (lo1 := [some (.ref 25), some (.int x1), none, none, none]) (st1 := [.ref 25]) (h1 := mk g) rfl ?_
  refine Wp.gf (pc1 := 4) (v := .int (g 25 0)) rfl rfl rfl rfl rfl ?_
  refine Wp.steps 7 (pc1 := 11) (lo1 := [some (.ref 25), some (.int x1), some (.int ((g 25 0) &&& (x1 ^^^ (-1)))), some (.int 0), none]) (st1 := []) (h1 := mk g) rfl ?_
  refine Wp.fg [some (.ref 25), none, some (.int ((g 25 0) &&& (x1 ^^^ (-1)))), some (.int 0), none] (zm_lle_s (zm_lle_n (zm_lle_s (zm_lle_s (zm_lle_n zm_lle_0))))) ?_
  exact w_8_11 (sc := sc) (d := d) g 300 ((g 25 0) &&& (x1 ^^^ (-1))) 0 _ e Q K
/-- EveningFirst.greatest()I -/
def d_71 (g : G) : Option (Int32 × G) :=
  Option.bind (d_2 1 g) fun g1 =>
  Option.bind (d_8 (g1 25 2) g1) fun v2 =>
  some (v2, g1)
set_option maxRecDepth 100000 in
set_option maxHeartbeats 4000000 in
theorem w_71 {sc : Option (List Int32)} {d : Nat} (g : G) {r : Int32} {g' : G} (e : d_71 g = some (r, g')) : zB sc (d + 4) 71 0 (zm_ent (z_L 71) [.ref 0]) [] (mk g) [.int r] (mk g') := by
  unfold d_71 at e
  intro Q K
  show Wp sc (d + 4) 71 0 [some (.ref 0)] [] (mk g) Q
  refine Wp.steps 1 (pc1 := 1) (lo1 := [some (.ref 0)]) (st1 := [.ref 0]) (h1 := mk g) rfl ?_
  refine Wp.gf (pc1 := 4) (v := .ref 25) rfl rfl rfl rfl rfl ?_
  refine Wp.steps 1 (pc1 := 5) (lo1 := [some (.ref 0)]) (st1 := [.ref 0, .ref 25]) (h1 := mk g) rfl ?_
  refine Wp.gf (pc1 := 8) (v := .ref 1) rfl rfl rfl rfl rfl ?_
  obtain ⟨g1, hvg1, e⟩ := zb_bind e
  refine Wp.ca (m := 2) (d1 := d + 3) (as := [.ref 25, .ref 1]) (rest := []) (st1 := []) (pc1 := 11) rfl rfl rfl rfl rfl rfl rfl rfl (mk_rok rfl rfl rfl rfl) rfl rfl rfl (w_2 (sc := sc) (d := d) 1 rfl g hvg1) ?_
  refine Wp.steps 1 (pc1 := 12) (lo1 := [some (.ref 0)]) (st1 := [.ref 0]) (h1 := mk g1) rfl ?_
  refine Wp.gf (pc1 := 15) (v := .ref 25) rfl rfl rfl rfl rfl ?_
  refine Wp.steps 1 (pc1 := 16) (lo1 := [some (.ref 0)]) (st1 := [.ref 0, .ref 25]) (h1 := mk g1) rfl ?_
  refine Wp.gf (pc1 := 19) (v := .ref 25) rfl rfl rfl rfl rfl ?_
  refine Wp.gf (pc1 := 22) (v := .int (g1 25 2)) rfl rfl rfl rfl rfl ?_
  obtain ⟨v2, hvv2, e⟩ := zb_bind e
  refine Wp.ca (m := 8) (d1 := d + 3) (as := [.ref 25, .int (g1 25 2)]) (rest := []) (st1 := [.int v2]) (pc1 := 25) rfl rfl rfl rfl rfl rfl rfl rfl (mk_rok rfl rfl rfl rfl) rfl rfl rfl (w_8 (sc := sc) (d := d + 1) (g1 25 2) g1 hvv2) ?_
  obtain ⟨e1, e2⟩ := zb_r2 e
  subst e1
  subst e2
  exact Wp.ret rfl rfl rfl (K _)
def d_161_23 (g : G) (k15 : Int32 → Bool → Option Int32) : Nat → Int32 → Bool → Int32 → Option Int32
  | 0, _, _, _ => none
  | f + 1, x1, x2, x3 =>
    bif zm_cmp .ge x3 (g 114 8) then (
      k15 x1 x2) else
    bif zm_cmp .ne ((x1 >>> (x3 &&& 31)) &&& 1) 1 then (
      d_161_23 g k15 f x1 x2 (x3 + 1)) else
    Option.bind (d_151 x3 x1 g) fun v6 =>
    bif zm_cmp .eq v6 0 then (
      d_161_23 g k15 f x1 x2 (x3 + 1)) else
    d_161_23 g k15 f (x1 &&& (((1 : Int32) <<< (x3 &&& 31)) ^^^ (-1))) true (x3 + 1)
set_option maxRecDepth 100000 in
set_option maxHeartbeats 4000000 in
theorem w_161_23 {sc : Option (List Int32)} {d : Nat} (g : G) (k15 : Int32 → Bool → Option Int32) (hk15 : ∀ (x1 : Int32) (x2 : Bool) (r : Int32), k15 x1 x2 = some r → zB sc (d + 3) 161 15 [some (.ref 113), some (.int x1), some (.int (zb_i x2)), none] [] (mk g) [.int r] (mk g)) : ∀ (f : Nat) (x1 : Int32) (x2 : Bool) (x3 : Int32) (r : Int32), d_161_23 g k15 f x1 x2 x3 = some r → zB sc (d + 3) 161 23 [some (.ref 113), some (.int x1), some (.int (zb_i x2)), some (.int x3)] [] (mk g) [.int r] (mk g) := by
  intro f
  induction f with
  | zero =>
    intro x1 x2 x3 r e
    rw [d_161_23.eq_1] at e
    cases e
  | succ f ih =>
    intro x1 x2 x3 r e
    rw [d_161_23.eq_2] at e
    intro Q K
    refine Wp.steps 2 (pc1 := 25) (lo1 := [some (.ref 113), some (.int x1), some (.int (zb_i x2)), some (.int x3)]) (st1 := [.ref 113, .int x3]) (h1 := mk g) rfl ?_
    refine Wp.gf (pc1 := 28) (v := .ref 114) rfl rfl rfl rfl rfl ?_
    refine Wp.steps 1 (pc1 := 30) (lo1 := [some (.ref 113), some (.int x1), some (.int (zb_i x2)), some (.int x3)]) (st1 := [.int 8, .ref 114, .int x3]) (h1 := mk g) rfl ?_
    refine Wp.ia (pc1 := 31) (k := 8) rfl rfl rfl rfl rfl ?_
    rcases zb_if e with ⟨hc4, e⟩ | ⟨hc4, e⟩
    · skip
      refine Wp.cT (pc1 := 68) rfl hc4 rfl ?_
      refine Wp.steps 1 (pc1 := 15) (lo1 := [some (.ref 113), some (.int x1), some (.int (zb_i x2)), some (.int x3)]) (st1 := []) (h1 := mk g) rfl ?_
      refine Wp.fg [some (.ref 113), some (.int x1), some (.int (zb_i x2)), none] (zm_lle_s (zm_lle_s (zm_lle_s (zm_lle_n zm_lle_0)))) ?_
      exact hk15 _ _ _ e Q K
    · skip
      refine Wp.cF (pc1 := 34) rfl hc4 rfl ?_
      refine Wp.steps 6 (pc1 := 40) (lo1 := [some (.ref 113), some (.int x1), some (.int (zb_i x2)), some (.int x3)]) (st1 := [.int 1, .int ((x1 >>> (x3 &&& 31)) &&& 1)]) (h1 := mk g) rfl ?_
      rcases zb_if e with ⟨hc5, e⟩ | ⟨hc5, e⟩
      · skip
        refine Wp.cT (pc1 := 62) rfl hc5 rfl ?_
        refine Wp.steps 2 (pc1 := 23) (lo1 := [some (.ref 113), some (.int x1), some (.int (zb_i x2)), some (.int (x3 + 1))]) (st1 := []) (h1 := mk g) rfl ?_
        exact ih _ _ _ _ e Q K
      · skip
        refine Wp.cF (pc1 := 43) rfl hc5 rfl ?_
        refine Wp.steps 3 (pc1 := 46) (lo1 := [some (.ref 113), some (.int x1), some (.int (zb_i x2)), some (.int x3)]) (st1 := [.int x1, .int x3, .ref 113]) (h1 := mk g) rfl ?_
        obtain ⟨v6, hvv6, e⟩ := zb_bind e
        refine Wp.ca (m := 151) (d1 := d + 2) (as := [.ref 113, .int x3, .int x1]) (rest := []) (st1 := [.int v6]) (pc1 := 49) rfl rfl rfl rfl rfl rfl rfl rfl (mk_rok rfl rfl rfl rfl) rfl rfl rfl (w_151 (sc := sc) (d := d) x3 x1 g hvv6) ?_
        rcases zb_if e with ⟨hc7, e⟩ | ⟨hc7, e⟩
        · skip
          refine Wp.iT (pc1 := 62) rfl hc7 rfl ?_
          refine Wp.steps 2 (pc1 := 23) (lo1 := [some (.ref 113), some (.int x1), some (.int (zb_i x2)), some (.int (x3 + 1))]) (st1 := []) (h1 := mk g) rfl ?_
          exact ih _ _ _ _ e Q K
        · skip
          refine Wp.iF (pc1 := 52) rfl hc7 rfl ?_
          refine Wp.steps 8 (pc1 := 60) (lo1 := [some (.ref 113), some (.int (x1 &&& (((1 : Int32) <<< (x3 &&& 31)) ^^^ (-1)))), some (.int (zb_i x2)), some (.int x3)]) (st1 := []) (h1 := mk g) rfl ?_
          refine Wp.steps 4 (pc1 := 23) (lo1 := [some (.ref 113), some (.int (x1 &&& (((1 : Int32) <<< (x3 &&& 31)) ^^^ (-1)))), some (.int 1), some (.int (x3 + 1))]) (st1 := []) (h1 := mk g) rfl ?_
          exact ih _ _ _ _ e Q K
def d_161_15 (g : G) : Nat → Int32 → Bool → Option Int32
  | 0, _, _ => none
  | f + 1, x1, x2 =>
    bif x2 then (
      d_161_23 g (d_161_15 g f) 300 x1 false 0) else
    some x1
set_option maxRecDepth 100000 in
set_option maxHeartbeats 4000000 in
theorem w_161_15 {sc : Option (List Int32)} {d : Nat} (g : G) : ∀ (f : Nat) (x1 : Int32) (x2 : Bool) (r : Int32), d_161_15 g f x1 x2 = some r → zB sc (d + 3) 161 15 [some (.ref 113), some (.int x1), some (.int (zb_i x2)), none] [] (mk g) [.int r] (mk g) := by
  intro f
  induction f with
  | zero =>
    intro x1 x2 r e
    rw [d_161_15.eq_1] at e
    cases e
  | succ f ih =>
    intro x1 x2 r e
    rw [d_161_15.eq_2] at e
    intro Q K
    refine Wp.steps 1 (pc1 := 16) (lo1 := [some (.ref 113), some (.int x1), some (.int (zb_i x2)), none]) (st1 := [.int (zb_i x2)]) (h1 := mk g) rfl ?_
    rcases zb_if e with ⟨hc3, e⟩ | ⟨hc3, e⟩
    · skip
      refine Wp.iF (pc1 := 19) rfl (zb_eqF hc3) rfl ?_
      refine Wp.steps 4 (pc1 := 23) (lo1 := [some (.ref 113), some (.int x1), some (.int 0), some (.int 0)]) (st1 := []) (h1 := mk g) rfl ?_
      exact w_161_23 (sc := sc) (d := d) g (d_161_15 g f) ih 300 x1 false 0 _ e Q K
    · skip
      refine Wp.iT (pc1 := 71) rfl (zb_eqT hc3) rfl ?_
      refine Wp.steps 1 (pc1 := 72) (lo1 := [some (.ref 113), some (.int x1), some (.int (zb_i x2)), none]) (st1 := [.int x1]) (h1 := mk g) rfl ?_
      have e1 := zb_r1 e
      subst e1
      exact Wp.ret rfl rfl rfl (K _)
/-- EveningFirstModel.findGreatest()I -/
def d_161 (g : G) : Option Int32 :=
  zb_l (d_158 g) fun v1 =>
  Option.bind (d_157 2 g) fun v2 =>
  d_161_15 g 300 (v1 &&& (v2 ^^^ (-1))) true
set_option maxRecDepth 100000 in
set_option maxHeartbeats 4000000 in
theorem w_161 {sc : Option (List Int32)} {d : Nat} (g : G) {r : Int32} (e : d_161 g = some r) : zB sc (d + 3) 161 0 (zm_ent (z_L 161) [.ref 113]) [] (mk g) [.int r] (mk g) := by
  unfold d_161 at e
  intro Q K
  show Wp sc (d + 3) 161 0 [some (.ref 113), none, none, none] [] (mk g) Q
  refine Wp.steps 1 (pc1 := 1) (lo1 := [some (.ref 113), none, none, none]) (st1 := [.ref 113]) (h1 := mk g) rfl ?_
  obtain ⟨v1, hvv1, e⟩ := zb_let e
  refine Wp.ca (m := 158) (d1 := d + 2) (as := [.ref 113]) (rest := []) (st1 := [.int v1]) (pc1 := 4) rfl rfl rfl rfl rfl rfl rfl rfl (mk_rok rfl rfl rfl rfl) rfl rfl rfl (w_158 (sc := sc) (d := d + 2)  g hvv1) ?_
  refine Wp.steps 2 (pc1 := 6) (lo1 := [some (.ref 113), none, none, none]) (st1 := [.int 2, .ref 113, .int v1]) (h1 := mk g) rfl ?_
  obtain ⟨v2, hvv2, e⟩ := zb_bind e
  refine Wp.ca (m := 157) (d1 := d + 2) (as := [.ref 113, .int 2]) (rest := [.int v1]) (st1 := [.int v2, .int v1]) (pc1 := 9) rfl rfl rfl rfl rfl rfl rfl rfl (mk_rok rfl rfl rfl rfl) rfl rfl rfl (w_157 (sc := sc) (d := d + 1) 2 g hvv2) ?_
  refine Wp.steps 6 (pc1 := 15) (lo1 := [some (.ref 113), some (.int (v1 &&& (v2 ^^^ (-1)))), some (.int 1), none]) (st1 := []) (h1 := mk g) rfl ?_
  exact w_161_15 (sc := sc) (d := d) g 300 (v1 &&& (v2 ^^^ (-1))) true _ e Q K
