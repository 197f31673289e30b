/-! printed by wip/tools/den.py -/
def d_76_69 (x1 : Int32) (x2 : Int32) (x3 : Int32) (x4 : Int32) (g : G) : Nat → Int32 → Int32 → Option (Int32 × G)
  | 0, _, _ => none
  | f + 1, x5, x6 =>
    bif zm_cmp .ge x6 (g 1 0) then (
      some (x5, g)) else
    Option.bind (d_24 1 x1 x6 x4 g) fun v11 =>
    Option.bind (d_24 1 x2 x6 x4 g) fun v12 =>
    zb_l (d_90 (v11 &&& v12) x3) fun v13 =>
    bif v13 then (
      d_76_69 x1 x2 x3 x4 g f (x5 ||| ((1 : Int32) <<< (x6 &&& 31))) (x6 + 1)) else
    d_76_69 x1 x2 x3 x4 g f x5 (x6 + 1)
set_option maxRecDepth 100000 in
set_option maxHeartbeats 4000000 in
theorem w_76_69 {sc : Option (List Int32)} {d : Nat} (x1 : Int32) (x2 : Int32) (x3 : Int32) (x4 : Int32) (g : G) : ∀ (f : Nat) (x5 : Int32) (x6 : Int32) (r : Int32) (g' : G), d_76_69 x1 x2 x3 x4 g f x5 x6 = some (r, g') → zB sc (d + 4) 76 69 [some (.ref 0), some (.int x1), some (.int x2), some (.int x3), some (.int x4), some (.int x5), some (.int x6)] [] (mk g) [.int r] (mk g') := by
  intro f
  induction f with
  | zero =>
    intro x5 x6 r g' e
    rw [d_76_69.eq_1] at e
    cases e
  | succ f ih =>
    intro x5 x6 r g' e
    rw [d_76_69.eq_2] at e
    intro Q K
    refine Wp.steps 2 (pc1 := 72) (lo1 := [some (.ref 0), some (.int x1), some (.int x2), some (.int x3), some (.int x4), some (.int x5), some (.int x6)]) (st1 := [.ref 0, .int x6]) (h1 := mk g) rfl ?_
    refine Wp.gf (pc1 := 75) (v := .ref 1) rfl rfl rfl rfl rfl ?_
    refine Wp.gf (pc1 := 78) (v := .int (g 1 0)) rfl rfl rfl rfl rfl ?_
    rcases zb_if e with ⟨hc10, e⟩ | ⟨hc10, e⟩
    · skip
      refine Wp.cT (pc1 := 128) rfl hc10 rfl ?_
      refine Wp.steps 1 (pc1 := 130) (lo1 := [some (.ref 0), some (.int x1), some (.int x2), some (.int x3), some (.int x4), some (.int x5), some (.int x6)]) (st1 := [.int x5]) (h1 := mk g) rfl ?_
      obtain ⟨e1, e2⟩ := zb_r2 e
      subst e1
      subst e2
      exact Wp.ret rfl rfl rfl (K _)
    · skip
      refine Wp.cF (pc1 := 81) rfl hc10 rfl ?_
      refine Wp.steps 1 (pc1 := 82) (lo1 := [some (.ref 0), some (.int x1), some (.int x2), some (.int x3), some (.int x4), some (.int x5), some (.int x6)]) (st1 := [.ref 0]) (h1 := mk g) rfl ?_
      refine Wp.gf (pc1 := 85) (v := .ref 1) rfl rfl rfl rfl rfl ?_
      refine Wp.steps 3 (pc1 := 90) (lo1 := [some (.ref 0), some (.int x1), some (.int x2), some (.int x3), some (.int x4), some (.int x5), some (.int x6)]) (st1 := [.int x4, .int x6, .int x1, .ref 1]) (h1 := mk g) rfl ?_
      obtain ⟨v11, hvv11, e⟩ := zb_bind e
      refine Wp.ca (m := 24) (d1 := d + 3) (as := [.ref 1, .int x1, .int x6, .int x4]) (rest := []) (st1 := [.int v11]) (pc1 := 93) rfl rfl rfl rfl rfl rfl rfl rfl (mk_rok rfl rfl rfl rfl) rfl rfl rfl (w_24 (sc := sc) (d := d + 1) 1 x1 x6 x4 rfl g hvv11) ?_
      refine Wp.steps 1 (pc1 := 94) (lo1 := [some (.ref 0), some (.int x1), some (.int x2), some (.int x3), some (.int x4), some (.int x5), some (.int x6)]) (st1 := [.ref 0, .int v11]) (h1 := mk g) rfl ?_
      refine Wp.gf (pc1 := 97) (v := .ref 1) rfl rfl rfl rfl rfl ?_
      refine Wp.steps 3 (pc1 := 102) (lo1 := [some (.ref 0), some (.int x1), some (.int x2), some (.int x3), some (.int x4), some (.int x5), some (.int x6)]) (st1 := [.int x4, .int x6, .int x2, .ref 1, .int v11]) (h1 := mk g) rfl ?_
      obtain ⟨v12, hvv12, e⟩ := zb_bind e
      refine Wp.ca (m := 24) (d1 := d + 3) (as := [.ref 1, .int x2, .int x6, .int x4]) (rest := [.int v11]) (st1 := [.int v12, .int v11]) (pc1 := 105) rfl rfl rfl rfl rfl rfl rfl rfl (mk_rok rfl rfl rfl rfl) rfl rfl rfl (w_24 (sc := sc) (d := d + 1) 1 x2 x6 x4 rfl g hvv12) ?_
      refine Wp.steps 2 (pc1 := 107) (lo1 := [some (.ref 0), some (.int x1), some (.int x2), some (.int x3), some (.int x4), some (.int x5), some (.int x6)]) (st1 := [.int x3, .int (v11 &&& v12)]) (h1 := mk g) rfl ?_
      obtain ⟨v13, hvv13, e⟩ := zb_let e
      refine Wp.ca (m := 90) (d1 := d + 3) (as := [.int (v11 &&& v12), .int x3]) (rest := []) (st1 := [.int (zb_i v13)]) (pc1 := 110) rfl rfl rfl rfl rfl rfl rfl rfl rfl rfl rfl rfl (w_90 (sc := sc) (d := d + 3) (v11 &&& v12) x3 g hvv13) ?_
      rcases zb_if e with ⟨hc14, e⟩ | ⟨hc14, e⟩
      · skip
        refine Wp.iF (pc1 := 113) rfl (zb_eqF hc14) rfl ?_
        refine Wp.steps 8 (pc1 := 69) (lo1 := [some (.ref 0), some (.int x1), some (.int x2), some (.int x3), some (.int x4), some (.int (x5 ||| ((1 : Int32) <<< (x6 &&& 31)))), some (.int (x6 + 1))]) (st1 := []) (h1 := mk g) rfl ?_
        exact ih _ _ _ _ e Q K
      · skip
        refine Wp.iT (pc1 := 122) rfl (zb_eqT hc14) rfl ?_
        refine Wp.steps 2 (pc1 := 69) (lo1 := [some (.ref 0), some (.int x1), some (.int x2), some (.int x3), some (.int x4), some (.int x5), some (.int (x6 + 1))]) (st1 := []) (h1 := mk g) rfl ?_
        exact ih _ _ _ _ e Q K
/-- EveningFirst.common(III)I -/
def d_76 (x1 : Int32) (x2 : Int32) (x3 : Int32) (g : G) : Option (Int32 × G) :=
  zb_l (d_18 1 x1 g) fun v1 =>
  bif v1 then (
    zb_l (d_18 1 x2 g) fun v3 =>
    bif v3 then (
      bif zm_cmp .eq x1 x2 then (
        some ((-1), g)) else
      zb_l (d_91 x3) fun v6 =>
      bif v6 then (
        Option.bind (d_2 1 g) fun g8 =>
        Option.bind (d_8 (g8 25 2) g8) fun v9 =>
        d_76_69 x1 x2 x3 v9 g8 300 0 0) else
      some ((-1), g)) else
    some ((-1), g)) else
  some ((-1), g)
set_option maxRecDepth 100000 in
set_option maxHeartbeats 4000000 in
theorem w_76 {sc : Option (List Int32)} {d : Nat} (x1 : Int32) (x2 : Int32) (x3 : Int32) (g : G) {r : Int32} {g' : G} (e : d_76 x1 x2 x3 g = some (r, g')) : zB sc (d + 4) 76 0 (zm_ent (z_L 76) [.ref 0, .int x1, .int x2, .int x3]) [] (mk g) [.int r] (mk g') := by
  unfold d_76 at e
  intro Q K
  show Wp sc (d + 4) 76 0 [some (.ref 0), some (.int x1), some (.int x2), some (.int x3), none, none, none] [] (mk g) Q
  refine Wp.steps 1 (pc1 := 1) (lo1 := [some (.ref 0), some (.int x1), some (.int x2), some (.int x3), none, none, none]) (st1 := [.ref 0]) (h1 := mk g) rfl ?_
  refine Wp.gf (pc1 := 4) (v := .ref 1) rfl rfl rfl rfl rfl ?_
  refine Wp.steps 1 (pc1 := 5) (lo1 := [some (.ref 0), some (.int x1), some (.int x2), some (.int x3), none, none, none]) (st1 := [.int x1, .ref 1]) (h1 := mk g) rfl ?_
  obtain ⟨v1, hvv1, e⟩ := zb_let e
  refine Wp.ca (m := 18) (d1 := d + 3) (as := [.ref 1, .int x1]) (rest := []) (st1 := [.int (zb_i v1)]) (pc1 := 8) rfl rfl rfl rfl rfl rfl rfl rfl (mk_rok rfl rfl rfl rfl) rfl rfl rfl (w_18 (sc := sc) (d := d + 3) 1 x1 rfl g hvv1) ?_
  rcases zb_if e with ⟨hc2, e⟩ | ⟨hc2, e⟩
  · skip
    refine Wp.iF (pc1 := 11) rfl (zb_eqF hc2) rfl ?_
    refine Wp.steps 1 (pc1 := 12) (lo1 := [some (.ref 0), some (.int x1), some (.int x2), some (.int x3), none, none, none]) (st1 := [.ref 0]) (h1 := mk g) rfl ?_
    refine Wp.gf (pc1 := 15) (v := .ref 1) rfl rfl rfl rfl rfl ?_
    refine Wp.steps 1 (pc1 := 16) (lo1 := [some (.ref 0), some (.int x1), some (.int x2), some (.int x3), none, none, none]) (st1 := [.int x2, .ref 1]) (h1 := mk g) rfl ?_
    obtain ⟨v3, hvv3, e⟩ := zb_let e
    refine Wp.ca (m := 18) (d1 := d + 3) (as := [.ref 1, .int x2]) (rest := []) (st1 := [.int (zb_i v3)]) (pc1 := 19) rfl rfl rfl rfl rfl rfl rfl rfl (mk_rok rfl rfl rfl rfl) rfl rfl rfl (w_18 (sc := sc) (d := d + 3) 1 x2 rfl g hvv3) ?_
    rcases zb_if e with ⟨hc4, e⟩ | ⟨hc4, e⟩
    · skip
      refine Wp.iF (pc1 := 22) rfl (zb_eqF hc4) rfl ?_
      refine Wp.steps 2 (pc1 := 24) (lo1 := [some (.ref 0), some (.int x1), some (.int x2), some (.int x3), none, none, none]) (st1 := [.int x2, .int x1]) (h1 := mk g) rfl ?_
      rcases zb_if e with ⟨hc5, e⟩ | ⟨hc5, e⟩
      · skip
        refine Wp.cT (pc1 := 34) rfl hc5 rfl ?_
        refine Wp.steps 1 (pc1 := 35) (lo1 := [some (.ref 0), some (.int x1), some (.int x2), some (.int x3), none, none, none]) (st1 := [.int (-1)]) (h1 := mk g) rfl ?_
        obtain ⟨e1, e2⟩ := zb_r2 e
        subst e1
        subst e2
        exact Wp.ret rfl rfl rfl (K _)
      · skip
        refine Wp.cF (pc1 := 27) rfl hc5 rfl ?_
        refine Wp.steps 1 (pc1 := 28) (lo1 := [some (.ref 0), some (.int x1), some (.int x2), some (.int x3), none, none, none]) (st1 := [.int x3]) (h1 := mk g) rfl ?_
        obtain ⟨v6, hvv6, e⟩ := zb_let e
        refine Wp.ca (m := 91) (d1 := d + 3) (as := [.int x3]) (rest := []) (st1 := [.int (zb_i v6)]) (pc1 := 31) rfl rfl rfl rfl rfl rfl rfl rfl rfl rfl rfl rfl (w_91 (sc := sc) (d := d + 3) x3 g hvv6) ?_
        rcases zb_if e with ⟨hc7, e⟩ | ⟨hc7, e⟩
        · skip
          refine Wp.iT (pc1 := 36) rfl (zb_neT hc7) rfl ?_
          refine Wp.steps 1 (pc1 := 37) (lo1 := [some (.ref 0), some (.int x1), some (.int x2), some (.int x3), none, none, none]) (st1 := [.ref 0]) (h1 := mk g) rfl ?_
          refine Wp.gf (pc1 := 40) (v := .ref 25) rfl rfl rfl rfl rfl ?_
          refine Wp.steps 1 (pc1 := 41) (lo1 := [some (.ref 0), some (.int x1), some (.int x2), some (.int x3), none, none, none]) (st1 := [.ref 0, .ref 25]) (h1 := mk g) rfl ?_
          refine Wp.gf (pc1 := 44) (v := .ref 1) rfl rfl rfl rfl rfl ?_
          obtain ⟨g8, hvg8, e⟩ := zb_bind e
          refine Wp.ca (m := 2) (d1 := d + 3) (as := [.ref 25, .ref 1]) (rest := []) (st1 := []) (pc1 := 47) rfl rfl rfl rfl rfl rfl rfl rfl (mk_rok rfl rfl rfl rfl) rfl rfl rfl (w_2 (sc := sc) (d := d) 1 rfl g hvg8) ?_
          refine Wp.steps 1 (pc1 := 48) (lo1 := [some (.ref 0), some (.int x1), some (.int x2), some (.int x3), none, none, none]) (st1 := [.ref 0]) (h1 := mk g8) rfl ?_
          refine Wp.gf (pc1 := 51) (v := .ref 25) rfl rfl rfl rfl rfl ?_
          refine Wp.steps 1 (pc1 := 52) (lo1 := [some (.ref 0), some (.int x1), some (.int x2), some (.int x3), none, none, none]) (st1 := [.ref 0, .ref 25]) (h1 := mk g8) rfl ?_
          refine Wp.gf (pc1 := 55) (v := .ref 25) rfl rfl rfl rfl rfl ?_
          refine Wp.gf (pc1 := 58) (v := .int (g8 25 2)) rfl rfl rfl rfl rfl ?_
          obtain ⟨v9, hvv9, e⟩ := zb_bind e
          refine Wp.ca (m := 8) (d1 := d + 3) (as := [.ref 25, .int (g8 25 2)]) (rest := []) (st1 := [.int v9]) (pc1 := 61) rfl rfl rfl rfl rfl rfl rfl rfl (mk_rok rfl rfl rfl rfl) rfl rfl rfl (w_8 (sc := sc) (d := d + 1) (g8 25 2) g8 hvv9) ?_
          refine Wp.steps 5 (pc1 := 69) (lo1 := [some (.ref 0), some (.int x1), some (.int x2), some (.int x3), some (.int v9), some (.int 0), some (.int 0)]) (st1 := []) (h1 := mk g8) rfl ?_
          exact w_76_69 (sc := sc) (d := d) x1 x2 x3 v9 g8 300 0 0 _ _ e Q K
        · skip
          refine Wp.iF (pc1 := 34) rfl (zb_neF hc7) rfl ?_
          refine Wp.steps 1 (pc1 := 35) (lo1 := [some (.ref 0), some (.int x1), some (.int x2), some (.int x3), none, none, none]) (st1 := [.int (-1)]) (h1 := mk g) rfl ?_
          obtain ⟨e1, e2⟩ := zb_r2 e
          subst e1
          subst e2
          exact Wp.ret rfl rfl rfl (K _)
    · skip
      refine Wp.iT (pc1 := 34) rfl (zb_eqT hc4) rfl ?_
      refine Wp.steps 1 (pc1 := 35) (lo1 := [some (.ref 0), some (.int x1), some (.int x2), some (.int x3), none, none, none]) (st1 := [.int (-1)]) (h1 := mk g) rfl ?_
      obtain ⟨e1, e2⟩ := zb_r2 e
      subst e1
      subst e2
      exact Wp.ret rfl rfl rfl (K _)
  · skip
    refine Wp.iT (pc1 := 34) rfl (zb_eqT hc2) rfl ?_
    refine Wp.steps 1 (pc1 := 35) (lo1 := [some (.ref 0), some (.int x1), some (.int x2), some (.int x3), none, none, none]) (st1 := [.int (-1)]) (h1 := mk g) rfl ?_
    obtain ⟨e1, e2⟩ := zb_r2 e
    subst e1
    subst e2
    exact Wp.ret rfl rfl rfl (K _)
def d_170_42 (x1 : Int32) (x2 : Int32) (x3 : Int32) (x4 : Int32) (g : G) : Nat → Int32 → Int32 → Option Int32
  | 0, _, _ => none
  | f + 1, x5, x6 =>
    bif zm_cmp .ge x6 (g 113 2) then (
      some x5) else
    Option.bind (d_150 x1 x6 x4 g) fun v10 =>
    Option.bind (d_150 x2 x6 x4 g) fun v11 =>
    d_170_42 x1 x2 x3 x4 g f (x5 ||| ((((v10 &&& v11) >>> (x3 &&& 31)) <<< (x6 &&& 31)) &&& ((1 : Int32) <<< (x6 &&& 31)))) (x6 + 1)
set_option maxRecDepth 100000 in
set_option maxHeartbeats 4000000 in
theorem w_170_42 {sc : Option (List Int32)} {d : Nat} (x1 : Int32) (x2 : Int32) (x3 : Int32) (x4 : Int32) (g : G) : ∀ (f : Nat) (x5 : Int32) (x6 : Int32) (r : Int32), d_170_42 x1 x2 x3 x4 g f x5 x6 = some r → zB sc (d + 4) 170 42 [some (.ref 113), some (.int x1), some (.int x2), some (.int x3), some (.int x4), some (.int x5), some (.int x6)] [] (mk g) [.int r] (mk g) := by
  intro f
  induction f with
  | zero =>
    intro x5 x6 r e
    rw [d_170_42.eq_1] at e
    cases e
  | succ f ih =>
    intro x5 x6 r e
    rw [d_170_42.eq_2] at e
    intro Q K
    refine Wp.steps 2 (pc1 := 45) (lo1 := [some (.ref 113), some (.int x1), some (.int x2), some (.int x3), some (.int x4), some (.int x5), some (.int x6)]) (st1 := [.ref 113, .int x6]) (h1 := mk g) rfl ?_
    refine Wp.gf (pc1 := 48) (v := .int (g 113 2)) rfl rfl rfl rfl rfl ?_
    rcases zb_if e with ⟨hc9, e⟩ | ⟨hc9, e⟩
    · skip
      refine Wp.cT (pc1 := 91) rfl hc9 rfl ?_
      refine Wp.steps 1 (pc1 := 93) (lo1 := [some (.ref 113), some (.int x1), some (.int x2), some (.int x3), some (.int x4), some (.int x5), some (.int x6)]) (st1 := [.int x5]) (h1 := mk g) rfl ?_
      have e1 := zb_r1 e
      subst e1
      exact Wp.ret rfl rfl rfl (K _)
    · skip
      refine Wp.cF (pc1 := 51) rfl hc9 rfl ?_
      refine Wp.steps 5 (pc1 := 59) (lo1 := [some (.ref 113), some (.int x1), some (.int x2), some (.int x3), some (.int x4), some (.int x5), some (.int x6)]) (st1 := [.int x4, .int x6, .int x1, .ref 113, .int x5]) (h1 := mk g) rfl ?_
      obtain ⟨v10, hvv10, e⟩ := zb_bind e
      refine Wp.ca (m := 150) (d1 := d + 3) (as := [.ref 113, .int x1, .int x6, .int x4]) (rest := [.int x5]) (st1 := [.int v10, .int x5]) (pc1 := 62) rfl rfl rfl rfl rfl rfl rfl rfl (mk_rok rfl rfl rfl rfl) rfl rfl rfl (w_150 (sc := sc) (d := d + 2) x1 x6 x4 g hvv10) ?_
      refine Wp.steps 4 (pc1 := 68) (lo1 := [some (.ref 113), some (.int x1), some (.int x2), some (.int x3), some (.int x4), some (.int x5), some (.int x6)]) (st1 := [.int x4, .int x6, .int x2, .ref 113, .int v10, .int x5]) (h1 := mk g) rfl ?_
      obtain ⟨v11, hvv11, e⟩ := zb_bind e
      refine Wp.ca (m := 150) (d1 := d + 3) (as := [.ref 113, .int x2, .int x6, .int x4]) (rest := [.int v10, .int x5]) (st1 := [.int v11, .int v10, .int x5]) (pc1 := 71) rfl rfl rfl rfl rfl rfl rfl rfl (mk_rok rfl rfl rfl rfl) rfl rfl rfl (w_150 (sc := sc) (d := d + 2) x2 x6 x4 g hvv11) ?_
      refine Wp.steps 8 (pc1 := 81) (lo1 := [some (.ref 113), some (.int x1), some (.int x2), some (.int x3), some (.int x4), some (.int x5), some (.int x6)]) (st1 := [.int ((1 : Int32) <<< (x6 &&& 31)), .int (((v10 &&& v11) >>> (x3 &&& 31)) <<< (x6 &&& 31)), .int x5]) (h1 := mk g) rfl ?_
      refine Wp.steps 5 (pc1 := 42) (lo1 := [some (.ref 113), some (.int x1), some (.int x2), some (.int x3), some (.int x4), some (.int (x5 ||| ((((v10 &&& v11) >>> (x3 &&& 31)) <<< (x6 &&& 31)) &&& ((1 : Int32) <<< (x6 &&& 31))))), some (.int (x6 + 1))]) (st1 := []) (h1 := mk g) rfl ?_
      exact ih _ _ _ e Q K
/-- EveningFirstModel.common(III)I -/
def d_170 (x1 : Int32) (x2 : Int32) (x3 : Int32) (g : G) : Option Int32 :=
  zb_l (d_131 x1 g) fun v1 =>
  bif v1 then (
    zb_l (d_131 x2 g) fun v3 =>
    bif v3 then (
      bif zm_cmp .eq x1 x2 then (
        some (-1)) else
      zb_l (d_134 x3) fun v6 =>
      bif v6 then (
        Option.bind (d_161 g) fun v8 =>
        d_170_42 x1 x2 x3 v8 g 300 0 0) else
      some (-1)) else
    some (-1)) else
  some (-1)
set_option maxRecDepth 100000 in
set_option maxHeartbeats 4000000 in
theorem w_170 {sc : Option (List Int32)} {d : Nat} (x1 : Int32) (x2 : Int32) (x3 : Int32) (g : G) {r : Int32} (e : d_170 x1 x2 x3 g = some r) : zB sc (d + 4) 170 0 (zm_ent (z_L 170) [.ref 113, .int x1, .int x2, .int x3]) [] (mk g) [.int r] (mk g) := by
  unfold d_170 at e
  intro Q K
  show Wp sc (d + 4) 170 0 [some (.ref 113), some (.int x1), some (.int x2), some (.int x3), none, none, none] [] (mk g) Q
  refine Wp.steps 2 (pc1 := 2) (lo1 := [some (.ref 113), some (.int x1), some (.int x2), some (.int x3), none, none, none]) (st1 := [.int x1, .ref 113]) (h1 := mk g) rfl ?_
  obtain ⟨v1, hvv1, e⟩ := zb_let e
  refine Wp.ca (m := 131) (d1 := d + 3) (as := [.ref 113, .int x1]) (rest := []) (st1 := [.int (zb_i v1)]) (pc1 := 5) rfl rfl rfl rfl rfl rfl rfl rfl (mk_rok rfl rfl rfl rfl) rfl rfl rfl (w_131 (sc := sc) (d := d + 2) x1 g hvv1) ?_
  rcases zb_if e with ⟨hc2, e⟩ | ⟨hc2, e⟩
  · skip
    refine Wp.iF (pc1 := 8) rfl (zb_eqF hc2) rfl ?_
    refine Wp.steps 2 (pc1 := 10) (lo1 := [some (.ref 113), some (.int x1), some (.int x2), some (.int x3), none, none, none]) (st1 := [.int x2, .ref 113]) (h1 := mk g) rfl ?_
    obtain ⟨v3, hvv3, e⟩ := zb_let e
    refine Wp.ca (m := 131) (d1 := d + 3) (as := [.ref 113, .int x2]) (rest := []) (st1 := [.int (zb_i v3)]) (pc1 := 13) rfl rfl rfl rfl rfl rfl rfl rfl (mk_rok rfl rfl rfl rfl) rfl rfl rfl (w_131 (sc := sc) (d := d + 2) x2 g hvv3) ?_
    rcases zb_if e with ⟨hc4, e⟩ | ⟨hc4, e⟩
    · skip
      refine Wp.iF (pc1 := 16) rfl (zb_eqF hc4) rfl ?_
      refine Wp.steps 2 (pc1 := 18) (lo1 := [some (.ref 113), some (.int x1), some (.int x2), some (.int x3), none, none, none]) (st1 := [.int x2, .int x1]) (h1 := mk g) rfl ?_
      rcases zb_if e with ⟨hc5, e⟩ | ⟨hc5, e⟩
      · skip
        refine Wp.cT (pc1 := 28) rfl hc5 rfl ?_
        refine Wp.steps 1 (pc1 := 29) (lo1 := [some (.ref 113), some (.int x1), some (.int x2), some (.int x3), none, none, none]) (st1 := [.int (-1)]) (h1 := mk g) rfl ?_
        have e1 := zb_r1 e
        subst e1
        exact Wp.ret rfl rfl rfl (K _)
      · skip
        refine Wp.cF (pc1 := 21) rfl hc5 rfl ?_
        refine Wp.steps 1 (pc1 := 22) (lo1 := [some (.ref 113), some (.int x1), some (.int x2), some (.int x3), none, none, none]) (st1 := [.int x3]) (h1 := mk g) rfl ?_
        obtain ⟨v6, hvv6, e⟩ := zb_let e
        refine Wp.ca (m := 134) (d1 := d + 3) (as := [.int x3]) (rest := []) (st1 := [.int (zb_i v6)]) (pc1 := 25) rfl rfl rfl rfl rfl rfl rfl rfl rfl rfl rfl rfl (w_134 (sc := sc) (d := d + 2) x3 g hvv6) ?_
        rcases zb_if e with ⟨hc7, e⟩ | ⟨hc7, e⟩
        · skip
          refine Wp.iT (pc1 := 30) rfl (zb_neT hc7) rfl ?_
          refine Wp.steps 1 (pc1 := 31) (lo1 := [some (.ref 113), some (.int x1), some (.int x2), some (.int x3), none, none, none]) (st1 := [.ref 113]) (h1 := mk g) rfl ?_
          obtain ⟨v8, hvv8, e⟩ := zb_bind e
          refine Wp.ca (m := 161) (d1 := d + 3) (as := [.ref 113]) (rest := []) (st1 := [.int v8]) (pc1 := 34) rfl rfl rfl rfl rfl rfl rfl rfl (mk_rok rfl rfl rfl rfl) rfl rfl rfl (w_161 (sc := sc) (d := d)  g hvv8) ?_
          refine Wp.steps 5 (pc1 := 42) (lo1 := [some (.ref 113), some (.int x1), some (.int x2), some (.int x3), some (.int v8), some (.int 0), some (.int 0)]) (st1 := []) (h1 := mk g) rfl ?_
          exact w_170_42 (sc := sc) (d := d) x1 x2 x3 v8 g 300 0 0 _ e Q K
        · skip
          refine Wp.iF (pc1 := 28) rfl (zb_neF hc7) rfl ?_
          refine Wp.steps 1 (pc1 := 29) (lo1 := [some (.ref 113), some (.int x1), some (.int x2), some (.int x3), none, none, none]) (st1 := [.int (-1)]) (h1 := mk g) rfl ?_
          have e1 := zb_r1 e
          subst e1
          exact Wp.ret rfl rfl rfl (K _)
    · skip
      refine Wp.iT (pc1 := 28) rfl (zb_eqT hc4) rfl ?_
      refine Wp.steps 1 (pc1 := 29) (lo1 := [some (.ref 113), some (.int x1), some (.int x2), some (.int x3), none, none, none]) (st1 := [.int (-1)]) (h1 := mk g) rfl ?_
      have e1 := zb_r1 e
      subst e1
      exact Wp.ret rfl rfl rfl (K _)
  · skip
    refine Wp.iT (pc1 := 28) rfl (zb_eqT hc2) rfl ?_
    refine Wp.steps 1 (pc1 := 29) (lo1 := [some (.ref 113), some (.int x1), some (.int x2), some (.int x3), none, none, none]) (st1 := [.int (-1)]) (h1 := mk g) rfl ?_
    have e1 := zb_r1 e
    subst e1
    exact Wp.ret rfl rfl rfl (K _)
/-- EveningFirst$Deed.tenths()I -/
def d_14 (r0 : Nat) (g : G) : Int32 :=
  bif zm_cmp .ne (g r0 5) 1 then (
    bif zm_cmp .ne (g r0 5) 2 then (
      (g r0 6)) else
    0) else
  10
set_option maxRecDepth 100000 in
set_option maxHeartbeats 4000000 in
theorem w_14 {sc : Option (List Int32)} {d : Nat} (r0 : Nat) (h0 : zg_cl r0 = 1) (g : G) {r : Int32} (e : d_14 r0 g = r) : zB sc (d) 14 0 (zm_ent (z_L 14) [.ref r0]) [] (mk g) [.int r] (mk g) := by
  unfold d_14 at e
  intro Q K
  show Wp sc (d) 14 0 [some (.ref r0)] [] (mk g) Q
  refine Wp.steps 1 (pc1 := 1) (lo1 := [some (.ref r0)]) (st1 := [.ref r0]) (h1 := mk g) rfl ?_
  refine Wp.gf (pc1 := 4) (v := .int (g r0 5)) rfl h0 rfl rfl rfl ?_
  refine Wp.steps 1 (pc1 := 5) (lo1 := [some (.ref r0)]) (st1 := [.int 1, .int (g r0 5)]) (h1 := mk g) rfl ?_
  rcases zb_if e with ⟨hc1, e⟩ | ⟨hc1, e⟩
  · skip
    refine Wp.cT (pc1 := 11) rfl hc1 rfl ?_
    refine Wp.steps 1 (pc1 := 12) (lo1 := [some (.ref r0)]) (st1 := [.ref r0]) (h1 := mk g) rfl ?_
    refine Wp.gf (pc1 := 15) (v := .int (g r0 5)) rfl h0 rfl rfl rfl ?_
    refine Wp.steps 1 (pc1 := 16) (lo1 := [some (.ref r0)]) (st1 := [.int 2, .int (g r0 5)]) (h1 := mk g) rfl ?_
    rcases zb_if e with ⟨hc2, e⟩ | ⟨hc2, e⟩
    · skip
      refine Wp.cT (pc1 := 23) rfl hc2 rfl ?_
      refine Wp.steps 1 (pc1 := 24) (lo1 := [some (.ref r0)]) (st1 := [.ref r0]) (h1 := mk g) rfl ?_
      refine Wp.gf (pc1 := 27) (v := .int (g r0 6)) rfl h0 rfl rfl rfl ?_
      have e1 := e
      subst e1
      exact Wp.ret rfl rfl rfl (K _)
    · skip
      refine Wp.cF (pc1 := 19) rfl hc2 rfl ?_
      refine Wp.steps 2 (pc1 := 27) (lo1 := [some (.ref r0)]) (st1 := [.int 0]) (h1 := mk g) rfl ?_
      have e1 := e
      subst e1
      exact Wp.ret rfl rfl rfl (K _)
  · skip
    refine Wp.cF (pc1 := 8) rfl hc1 rfl ?_
    refine Wp.steps 1 (pc1 := 10) (lo1 := [some (.ref r0)]) (st1 := [.int 10]) (h1 := mk g) rfl ?_
    have e1 := e
    subst e1
    exact Wp.ret rfl rfl rfl (K _)
def d_103_5 (x1 : Int32) (g : G) : Nat → Int64 → Int32 → Option Int64
  | 0, _, _ => none
  | f + 1, x2, x4 =>
    bif zm_cmp .ge x4 (g 1 2) then (
      some x2) else
    Option.bind (zm_ix x4 8) fun k2 =>
    zb_l (d_14 (9 + k2) g) fun v3 =>
    zb_l (d_90 x1 x4) fun v4 =>
    bif v4 then (
      d_103_5 x1 g f (x2 * (Int32.toInt64 v3)) (x4 + 1)) else
    d_103_5 x1 g f (x2 * (Int32.toInt64 (10 - v3))) (x4 + 1)
set_option maxRecDepth 100000 in
set_option maxHeartbeats 4000000 in
theorem w_103_5 {sc : Option (List Int32)} {d : Nat} (x1 : Int32) (g : G) : ∀ (f : Nat) (x2 : Int64) (x4 : Int32) (r : Int64), d_103_5 x1 g f x2 x4 = some r → zB sc (d + 1) 103 5 [some (.ref 0), some (.int x1), some (.long x2), none, some (.int x4), none] [] (mk g) [.long r] (mk g) := by
  intro f
  induction f with
  | zero =>
    intro x2 x4 r e
    rw [d_103_5.eq_1] at e
    cases e
  | succ f ih =>
    intro x2 x4 r e
    rw [d_103_5.eq_2] at e
    intro Q K
    refine Wp.steps 2 (pc1 := 8) (lo1 := [some (.ref 0), some (.int x1), some (.long x2), none, some (.int x4), none]) (st1 := [.ref 0, .int x4]) (h1 := mk g) rfl ?_
    refine Wp.gf (pc1 := 11) (v := .ref 1) rfl rfl rfl rfl rfl ?_
    refine Wp.gf (pc1 := 14) (v := .int (g 1 2)) rfl rfl rfl rfl rfl ?_
    rcases zb_if e with ⟨hc1, e⟩ | ⟨hc1, e⟩
    · skip
      refine Wp.cT (pc1 := 62) rfl hc1 rfl ?_
      refine Wp.steps 1 (pc1 := 63) (lo1 := [some (.ref 0), some (.int x1), some (.long x2), none, some (.int x4), none]) (st1 := [.long x2]) (h1 := mk g) rfl ?_
      have e1 := zb_r1 e
      subst e1
      exact Wp.ret rfl rfl rfl (K _)
    · skip
      refine Wp.cF (pc1 := 17) rfl hc1 rfl ?_
      refine Wp.steps 1 (pc1 := 18) (lo1 := [some (.ref 0), some (.int x1), some (.long x2), none, some (.int x4), none]) (st1 := [.ref 0]) (h1 := mk g) rfl ?_
      refine Wp.gf (pc1 := 21) (v := .ref 1) rfl rfl rfl rfl rfl ?_
      refine Wp.gf (pc1 := 24) (v := .ref 3) rfl rfl rfl rfl rfl ?_
      refine Wp.steps 1 (pc1 := 26) (lo1 := [some (.ref 0), some (.int x1), some (.long x2), none, some (.int x4), none]) (st1 := [.int x4, .ref 3]) (h1 := mk g) rfl ?_
      obtain ⟨k2, hk2, e⟩ := zb_bind e
      refine Wp.aa (pc1 := 27) (v := (9 + k2)) rfl (zg_rdeeds (b := 1) rfl) rfl hk2 (by omega) rfl ?_
      obtain ⟨v3, hvv3, e⟩ := zb_let e
      refine Wp.ca (m := 14) (d1 := d) (as := [.ref (9 + k2)]) (rest := []) (st1 := [.int v3]) (pc1 := 30) rfl rfl rfl rfl rfl rfl rfl rfl (mk_rok (zg_deed (b := 1) rfl hk2) rfl rfl rfl) rfl rfl rfl (w_14 (sc := sc) (d := d) (9 + k2) (zg_deed (b := 1) rfl hk2) g hvv3) ?_
      refine Wp.steps 4 (pc1 := 36) (lo1 := [some (.ref 0), some (.int x1), some (.long x2), none, some (.int x4), some (.int v3)]) (st1 := [.int x4, .int x1, .long x2]) (h1 := mk g) rfl ?_
      obtain ⟨v4, hvv4, e⟩ := zb_let e
      refine Wp.ca (m := 90) (d1 := d) (as := [.int x1, .int x4]) (rest := [.long x2]) (st1 := [.int (zb_i v4), .long x2]) (pc1 := 39) rfl rfl rfl rfl rfl rfl rfl rfl rfl rfl rfl rfl (w_90 (sc := sc) (d := d) x1 x4 g hvv4) ?_
      rcases zb_if e with ⟨hc5, e⟩ | ⟨hc5, e⟩
      · skip
        refine Wp.iF (pc1 := 42) rfl (zb_eqF hc5) rfl ?_
        refine Wp.steps 7 (pc1 := 5) (lo1 := [some (.ref 0), some (.int x1), some (.long (x2 * (Int32.toInt64 v3))), none, some (.int (x4 + 1)), some (.int v3)]) (st1 := []) (h1 := mk g) rfl ?_
        refine Wp.fg [some (.ref 0), some (.int x1), some (.long (x2 * (Int32.toInt64 v3))), none, some (.int (x4 + 1)), none] (zm_lle_s (zm_lle_s (zm_lle_s (zm_lle_n (zm_lle_s (zm_lle_n zm_lle_0)))))) ?_
        exact ih _ _ _ e Q K
      · skip
        refine Wp.iT (pc1 := 48) rfl (zb_eqT hc5) rfl ?_
        refine Wp.steps 8 (pc1 := 5) (lo1 := [some (.ref 0), some (.int x1), some (.long (x2 * (Int32.toInt64 (10 - v3)))), none, some (.int (x4 + 1)), some (.int v3)]) (st1 := []) (h1 := mk g) rfl ?_
        refine Wp.fg [some (.ref 0), some (.int x1), some (.long (x2 * (Int32.toInt64 (10 - v3)))), none, some (.int (x4 + 1)), none] (zm_lle_s (zm_lle_s (zm_lle_s (zm_lle_n (zm_lle_s (zm_lle_n zm_lle_0)))))) ?_
        exact ih _ _ _ e Q K
/-- EveningFirst.weightOf(I)J -/
def d_103 (x1 : Int32) (g : G) : Option Int64 :=
  d_103_5 x1 g 300 1 0
set_option maxRecDepth 100000 in
set_option maxHeartbeats 4000000 in
theorem w_103 {sc : Option (List Int32)} {d : Nat} (x1 : Int32) (g : G) {r : Int64} (e : d_103 x1 g = some r) : zB sc (d + 1) 103 0 (zm_ent (z_L 103) [.ref 0, .int x1]) [] (mk g) [.long r] (mk g) := by
  unfold d_103 at e
  intro Q K
  show Wp sc (d + 1) 103 0 [some (.ref 0), some (.int x1), none, none, none, none] [] (mk g) Q
  refine Wp.steps 4 (pc1 := 5) (lo1 := [some (.ref 0), some (.int x1), some (.long 1), none, some (.int 0), none]) (st1 := []) (h1 := mk g) rfl ?_
  exact w_103_5 (sc := sc) (d := d) x1 g 300 1 0 _ e Q K
def d_102_17 (x1 : Int32) (x2 : Int32) (x3 : Int32) (g : G) : Nat → Int64 → Int32 → Option (Int64 × G)
  | 0, _, _ => none
  | f + 1, x4, x6 =>
    bif zm_cmp .gt x6 (g 25 0) then (
      some (x4, g)) else
    Option.bind (d_6 x6 g) fun v3 =>
    bif v3 then (
      bif zm_cmp .eq x1 (-1) then (
        Option.bind (d_103 x6 g) fun v6 =>
        d_102_17 x1 x2 x3 g f (x4 + v6) (x6 + 1)) else
      Option.bind (d_24 1 x1 x3 x6 g) fun v7 =>
      zb_l (d_90 v7 x2) fun v8 =>
      bif v8 then (
        Option.bind (d_103 x6 g) fun v10 =>
        d_102_17 x1 x2 x3 g f (x4 + v10) (x6 + 1)) else
      d_102_17 x1 x2 x3 g f x4 (x6 + 1)) else
    d_102_17 x1 x2 x3 g f x4 (x6 + 1)
set_option maxRecDepth 100000 in
set_option maxHeartbeats 4000000 in
theorem w_102_17 {sc : Option (List Int32)} {d : Nat} (x1 : Int32) (x2 : Int32) (x3 : Int32) (g : G) : ∀ (f : Nat) (x4 : Int64) (x6 : Int32) (r : Int64) (g' : G), d_102_17 x1 x2 x3 g f x4 x6 = some (r, g') → zB sc (d + 4) 102 17 [some (.ref 0), some (.int x1), some (.int x2), some (.int x3), some (.long x4), none, some (.int x6)] [] (mk g) [.long r] (mk g') := by
  intro f
  induction f with
  | zero =>
    intro x4 x6 r g' e
    rw [d_102_17.eq_1] at e
    cases e
  | succ f ih =>
    intro x4 x6 r g' e
    rw [d_102_17.eq_2] at e
    intro Q K
    refine Wp.steps 2 (pc1 := 20) (lo1 := [some (.ref 0), some (.int x1), some (.int x2), some (.int x3), some (.long x4), none, some (.int x6)]) (st1 := [.ref 0, .int x6]) (h1 := mk g) rfl ?_
    refine Wp.gf (pc1 := 23) (v := .ref 25) rfl rfl rfl rfl rfl ?_
    refine Wp.gf (pc1 := 26) (v := .int (g 25 0)) rfl rfl rfl rfl rfl ?_
    rcases zb_if e with ⟨hc2, e⟩ | ⟨hc2, e⟩
    · skip
      refine Wp.cT (pc1 := 81) rfl hc2 rfl ?_
      refine Wp.steps 1 (pc1 := 83) (lo1 := [some (.ref 0), some (.int x1), some (.int x2), some (.int x3), some (.long x4), none, some (.int x6)]) (st1 := [.long x4]) (h1 := mk g) rfl ?_
      obtain ⟨e1, e2⟩ := zb_r2 e
      subst e1
      subst e2
      exact Wp.ret rfl rfl rfl (K _)
    · skip
      refine Wp.cF (pc1 := 29) rfl hc2 rfl ?_
      refine Wp.steps 1 (pc1 := 30) (lo1 := [some (.ref 0), some (.int x1), some (.int x2), some (.int x3), some (.long x4), none, some (.int x6)]) (st1 := [.ref 0]) (h1 := mk g) rfl ?_
      refine Wp.gf (pc1 := 33) (v := .ref 25) rfl rfl rfl rfl rfl ?_
      refine Wp.steps 1 (pc1 := 35) (lo1 := [some (.ref 0), some (.int x1), some (.int x2), some (.int x3), some (.long x4), none, some (.int x6)]) (st1 := [.int x6, .ref 25]) (h1 := mk g) rfl ?_
      obtain ⟨v3, hvv3, e⟩ := zb_bind e
      refine Wp.ca (m := 6) (d1 := d + 3) (as := [.ref 25, .int x6]) (rest := []) (st1 := [.int (zb_i v3)]) (pc1 := 38) rfl rfl rfl rfl rfl rfl rfl rfl (mk_rok rfl rfl rfl rfl) rfl rfl rfl (w_6 (sc := sc) (d := d + 1) x6 g hvv3) ?_
      rcases zb_if e with ⟨hc4, e⟩ | ⟨hc4, e⟩
      · skip
        refine Wp.iF (pc1 := 41) rfl (zb_eqF hc4) rfl ?_
        refine Wp.steps 2 (pc1 := 43) (lo1 := [some (.ref 0), some (.int x1), some (.int x2), some (.int x3), some (.long x4), none, some (.int x6)]) (st1 := [.int (-1), .int x1]) (h1 := mk g) rfl ?_
        rcases zb_if e with ⟨hc5, e⟩ | ⟨hc5, e⟩
        · skip
          refine Wp.cT (pc1 := 64) rfl hc5 rfl ?_
          refine Wp.steps 3 (pc1 := 69) (lo1 := [some (.ref 0), some (.int x1), some (.int x2), some (.int x3), some (.long x4), none, some (.int x6)]) (st1 := [.int x6, .ref 0, .long x4]) (h1 := mk g) rfl ?_
          obtain ⟨v6, hvv6, e⟩ := zb_bind e
          refine Wp.ca (m := 103) (d1 := d + 3) (as := [.ref 0, .int x6]) (rest := [.long x4]) (st1 := [.long v6, .long x4]) (pc1 := 72) rfl rfl rfl rfl rfl rfl rfl rfl (mk_rok rfl rfl rfl rfl) rfl rfl rfl (w_103 (sc := sc) (d := d + 2) x6 g hvv6) ?_
          refine Wp.steps 4 (pc1 := 17) (lo1 := [some (.ref 0), some (.int x1), some (.int x2), some (.int x3), some (.long (x4 + v6)), none, some (.int (x6 + 1))]) (st1 := []) (h1 := mk g) rfl ?_
          exact ih _ _ _ _ e Q K
        · skip
          refine Wp.cF (pc1 := 46) rfl hc5 rfl ?_
          refine Wp.steps 1 (pc1 := 47) (lo1 := [some (.ref 0), some (.int x1), some (.int x2), some (.int x3), some (.long x4), none, some (.int x6)]) (st1 := [.ref 0]) (h1 := mk g) rfl ?_
          refine Wp.gf (pc1 := 50) (v := .ref 1) rfl rfl rfl rfl rfl ?_
          refine Wp.steps 3 (pc1 := 54) (lo1 := [some (.ref 0), some (.int x1), some (.int x2), some (.int x3), some (.long x4), none, some (.int x6)]) (st1 := [.int x6, .int x3, .int x1, .ref 1]) (h1 := mk g) rfl ?_
          obtain ⟨v7, hvv7, e⟩ := zb_bind e
          refine Wp.ca (m := 24) (d1 := d + 3) (as := [.ref 1, .int x1, .int x3, .int x6]) (rest := []) (st1 := [.int v7]) (pc1 := 57) rfl rfl rfl rfl rfl rfl rfl rfl (mk_rok rfl rfl rfl rfl) rfl rfl rfl (w_24 (sc := sc) (d := d + 1) 1 x1 x3 x6 rfl g hvv7) ?_
          refine Wp.steps 1 (pc1 := 58) (lo1 := [some (.ref 0), some (.int x1), some (.int x2), some (.int x3), some (.long x4), none, some (.int x6)]) (st1 := [.int x2, .int v7]) (h1 := mk g) rfl ?_
          obtain ⟨v8, hvv8, e⟩ := zb_let e
          refine Wp.ca (m := 90) (d1 := d + 3) (as := [.int v7, .int x2]) (rest := []) (st1 := [.int (zb_i v8)]) (pc1 := 61) rfl rfl rfl rfl rfl rfl rfl rfl rfl rfl rfl rfl (w_90 (sc := sc) (d := d + 3) v7 x2 g hvv8) ?_
          rcases zb_if e with ⟨hc9, e⟩ | ⟨hc9, e⟩
          · skip
            refine Wp.iF (pc1 := 64) rfl (zb_eqF hc9) rfl ?_
            refine Wp.steps 3 (pc1 := 69) (lo1 := [some (.ref 0), some (.int x1), some (.int x2), some (.int x3), some (.long x4), none, some (.int x6)]) (st1 := [.int x6, .ref 0, .long x4]) (h1 := mk g) rfl ?_
            obtain ⟨v10, hvv10, e⟩ := zb_bind e
            refine Wp.ca (m := 103) (d1 := d + 3) (as := [.ref 0, .int x6]) (rest := [.long x4]) (st1 := [.long v10, .long x4]) (pc1 := 72) rfl rfl rfl rfl rfl rfl rfl rfl (mk_rok rfl rfl rfl rfl) rfl rfl rfl (w_103 (sc := sc) (d := d + 2) x6 g hvv10) ?_
            refine Wp.steps 4 (pc1 := 17) (lo1 := [some (.ref 0), some (.int x1), some (.int x2), some (.int x3), some (.long (x4 + v10)), none, some (.int (x6 + 1))]) (st1 := []) (h1 := mk g) rfl ?_
            exact ih _ _ _ _ e Q K
          · skip
            refine Wp.iT (pc1 := 75) rfl (zb_eqT hc9) rfl ?_
            refine Wp.steps 2 (pc1 := 17) (lo1 := [some (.ref 0), some (.int x1), some (.int x2), some (.int x3), some (.long x4), none, some (.int (x6 + 1))]) (st1 := []) (h1 := mk g) rfl ?_
            exact ih _ _ _ _ e Q K
      · skip
        refine Wp.iT (pc1 := 75) rfl (zb_eqT hc4) rfl ?_
        refine Wp.steps 2 (pc1 := 17) (lo1 := [some (.ref 0), some (.int x1), some (.int x2), some (.int x3), some (.long x4), none, some (.int (x6 + 1))]) (st1 := []) (h1 := mk g) rfl ?_
        exact ih _ _ _ _ e Q K
/-- EveningFirst.weightOfDays(III)J -/
def d_102 (x1 : Int32) (x2 : Int32) (x3 : Int32) (g : G) : Option (Int64 × G) :=
  Option.bind (d_2 1 g) fun g1 =>
  d_102_17 x1 x2 x3 g1 300 0 0
set_option maxRecDepth 100000 in
set_option maxHeartbeats 4000000 in
theorem w_102 {sc : Option (List Int32)} {d : Nat} (x1 : Int32) (x2 : Int32) (x3 : Int32) (g : G) {r : Int64} {g' : G} (e : d_102 x1 x2 x3 g = some (r, g')) : zB sc (d + 4) 102 0 (zm_ent (z_L 102) [.ref 0, .int x1, .int x2, .int x3]) [] (mk g) [.long r] (mk g') := by
  unfold d_102 at e
  intro Q K
  show Wp sc (d + 4) 102 0 [some (.ref 0), some (.int x1), some (.int x2), some (.int x3), none, none, none] [] (mk g) Q
  refine Wp.steps 1 (pc1 := 1) (lo1 := [some (.ref 0), some (.int x1), some (.int x2), some (.int x3), none, none, none]) (st1 := [.ref 0]) (h1 := mk g) rfl ?_
  refine Wp.gf (pc1 := 4) (v := .ref 25) rfl rfl rfl rfl rfl ?_
  refine Wp.steps 1 (pc1 := 5) (lo1 := [some (.ref 0), some (.int x1), some (.int x2), some (.int x3), none, none, none]) (st1 := [.ref 0, .ref 25]) (h1 := mk g) rfl ?_
  refine Wp.gf (pc1 := 8) (v := .ref 1) rfl rfl rfl rfl rfl ?_
  obtain ⟨g1, hvg1, e⟩ := zb_bind e
  refine Wp.ca (m := 2) (d1 := d + 3) (as := [.ref 25, .ref 1]) (rest := []) (st1 := []) (pc1 := 11) rfl rfl rfl rfl rfl rfl rfl rfl (mk_rok rfl rfl rfl rfl) rfl rfl rfl (w_2 (sc := sc) (d := d) 1 rfl g hvg1) ?_
  refine Wp.steps 4 (pc1 := 17) (lo1 := [some (.ref 0), some (.int x1), some (.int x2), some (.int x3), some (.long 0), none, some (.int 0)]) (st1 := []) (h1 := mk g1) rfl ?_
  exact w_102_17 (sc := sc) (d := d) x1 x2 x3 g1 300 0 0 _ _ e Q K
def d_105_9 (g : G) : Nat → Int64 → Int64 → Int32 → Option Int64
  | 0, _, _, _ => none
  | f + 1, x4, x6, x8 =>
    bif zm_cmp .ge x8 100 then (
      some x4) else
    bif zm_cmp .eq (lg_cmp x6 0) 0 then (
      some x4) else
    bif x6 == 0 then none else
    d_105_9 g f x6 (x4 - x4 / x6 * x6) (x8 + 1)
set_option maxRecDepth 100000 in
set_option maxHeartbeats 4000000 in
theorem w_105_9 {sc : Option (List Int32)} {d : Nat} (g : G) : ∀ (f : Nat) (x4 : Int64) (x6 : Int64) (x8 : Int32) (r : Int64), d_105_9 g f x4 x6 x8 = some r → zB sc (d) 105 9 [none, none, none, none, some (.long x4), none, some (.long x6), none, some (.int x8), none, none] [] (mk g) [.long r] (mk g) := by
  intro f
  induction f with
  | zero =>
    intro x4 x6 x8 r e
    rw [d_105_9.eq_1] at e
    cases e
  | succ f ih =>
    intro x4 x6 x8 r e
    rw [d_105_9.eq_2] at e
    intro Q K
    refine Wp.steps 2 (pc1 := 13) (lo1 := [none, none, none, none, some (.long x4), none, some (.long x6), none, some (.int x8), none, none]) (st1 := [.int 100, .int x8]) (h1 := mk g) rfl ?_
    rcases zb_if e with ⟨hc1, e⟩ | ⟨hc1, e⟩
    · skip
      refine Wp.cT (pc1 := 44) rfl hc1 rfl ?_
      refine Wp.steps 1 (pc1 := 46) (lo1 := [none, none, none, none, some (.long x4), none, some (.long x6), none, some (.int x8), none, none]) (st1 := [.long x4]) (h1 := mk g) rfl ?_
      have e1 := zb_r1 e
      subst e1
      exact Wp.ret rfl rfl rfl (K _)
    · skip
      refine Wp.cF (pc1 := 16) rfl hc1 rfl ?_
      refine Wp.steps 3 (pc1 := 20) (lo1 := [none, none, none, none, some (.long x4), none, some (.long x6), none, some (.int x8), none, none]) (st1 := [.int (lg_cmp x6 0)]) (h1 := mk g) rfl ?_
      rcases zb_if e with ⟨hc2, e⟩ | ⟨hc2, e⟩
      · skip
        refine Wp.iT (pc1 := 44) rfl hc2 rfl ?_
        refine Wp.steps 1 (pc1 := 46) (lo1 := [none, none, none, none, some (.long x4), none, some (.long x6), none, some (.int x8), none, none]) (st1 := [.long x4]) (h1 := mk g) rfl ?_
        have e1 := zb_r1 e
        subst e1
        exact Wp.ret rfl rfl rfl (K _)
      · skip
        refine Wp.iF (pc1 := 23) rfl hc2 rfl ?_
        refine Wp.steps 2 (pc1 := 27) (lo1 := [none, none, none, none, some (.long x4), none, some (.long x6), none, some (.int x8), none, none]) (st1 := [.long x6, .long x4]) (h1 := mk g) rfl ?_
        rcases zb_if e with ⟨hc3, e⟩ | ⟨hc3, e⟩
        · cases e
        · skip
          refine Wp.lrem (pc1 := 28) rfl hc3 rfl ?_
          refine Wp.steps 7 (pc1 := 9) (lo1 := [none, none, none, none, some (.long x6), none, some (.long (x4 - x4 / x6 * x6)), none, some (.int (x8 + 1)), some (.long (x4 - x4 / x6 * x6)), none]) (st1 := []) (h1 := mk g) rfl ?_
          refine Wp.fg [none, none, none, none, some (.long x6), none, some (.long (x4 - x4 / x6 * x6)), none, some (.int (x8 + 1)), none, none] (zm_lle_n (zm_lle_n (zm_lle_n (zm_lle_n (zm_lle_s (zm_lle_n (zm_lle_s (zm_lle_n (zm_lle_s (zm_lle_n (zm_lle_n zm_lle_0))))))))))) ?_
          exact ih _ _ _ _ e Q K
/-- EveningFirst.greatestDivisor(JJ)J -/
def d_105 (x0 : Int64) (x2 : Int64) (g : G) : Option Int64 :=
  d_105_9 g 300 x0 x2 0
set_option maxRecDepth 100000 in
set_option maxHeartbeats 4000000 in
theorem w_105 {sc : Option (List Int32)} {d : Nat} (x0 : Int64) (x2 : Int64) (g : G) {r : Int64} (e : d_105 x0 x2 g = some r) : zB sc (d) 105 0 (zm_ent (z_L 105) [.long x0, .long x2]) [] (mk g) [.long r] (mk g) := by
  unfold d_105 at e
  intro Q K
  show Wp sc (d) 105 0 [some (.long x0), none, some (.long x2), none, none, none, none, none, none, none, none] [] (mk g) Q
  refine Wp.steps 6 (pc1 := 9) (lo1 := [some (.long x0), none, some (.long x2), none, some (.long x0), none, some (.long x2), none, some (.int 0), none, none]) (st1 := []) (h1 := mk g) rfl ?_
  refine Wp.fg [none, none, none, none, some (.long x0), none, some (.long x2), none, some (.int 0), none, none] (zm_lle_n (zm_lle_n (zm_lle_n (zm_lle_n (zm_lle_s (zm_lle_n (zm_lle_s (zm_lle_n (zm_lle_s (zm_lle_n (zm_lle_n zm_lle_0))))))))))) ?_
  exact w_105_9 (sc := sc) (d := d) g 300 x0 x2 0 _ e Q K
def d_104_6 (x1 : Int64) (x3 : Int32) (g : G) : Nat → Int64 → Int32 → Option Int64
  | 0, _, _ => none
  | f + 1, x4, x6 =>
    bif zm_cmp .ge x6 (g 1 2) then (
      Option.bind (d_105 x4 x1 g) fun v2 =>
      bif zm_cmp .ne x3 0 then (
        bif zm_cmp .le (lg_cmp v2 0) 0 then (
          some x4) else
        bif v2 == 0 then none else
        some (x4 / v2)) else
      bif zm_cmp .le (lg_cmp v2 0) 0 then (
        some x1) else
      bif v2 == 0 then none else
      some (x1 / v2)) else
    d_104_6 x1 x3 g f (x4 * 10) (x6 + 1)
set_option maxRecDepth 100000 in
set_option maxHeartbeats 4000000 in
theorem w_104_6 {sc : Option (List Int32)} {d : Nat} (x1 : Int64) (x3 : Int32) (g : G) : ∀ (f : Nat) (x4 : Int64) (x6 : Int32) (r : Int64), d_104_6 x1 x3 g f x4 x6 = some r → zB sc (d + 1) 104 6 [some (.ref 0), some (.long x1), none, some (.int x3), some (.long x4), none, some (.int x6), none, none, none] [] (mk g) [.long r] (mk g) := by
  intro f
  induction f with
  | zero =>
    intro x4 x6 r e
    rw [d_104_6.eq_1] at e
    cases e
  | succ f ih =>
    intro x4 x6 r e
    rw [d_104_6.eq_2] at e
    intro Q K
    refine Wp.steps 2 (pc1 := 9) (lo1 := [some (.ref 0), some (.long x1), none, some (.int x3), some (.long x4), none, some (.int x6), none, none, none]) (st1 := [.ref 0, .int x6]) (h1 := mk g) rfl ?_
    refine Wp.gf (pc1 := 12) (v := .ref 1) rfl rfl rfl rfl rfl ?_
    refine Wp.gf (pc1 := 15) (v := .int (g 1 2)) rfl rfl rfl rfl rfl ?_
    rcases zb_if e with ⟨hc1, e⟩ | ⟨hc1, e⟩
    · skip
      refine Wp.cT (pc1 := 32) rfl hc1 rfl ?_
      refine Wp.steps 2 (pc1 := 35) (lo1 := [some (.ref 0), some (.long x1), none, some (.int x3), some (.long x4), none, some (.int x6), none, none, none]) (st1 := [.long x1, .long x4]) (h1 := mk g) rfl ?_
      obtain ⟨v2, hvv2, e⟩ := zb_bind e
      refine Wp.ca (m := 105) (d1 := d) (as := [.long x4, .long x1]) (rest := []) (st1 := [.long v2]) (pc1 := 38) rfl rfl rfl rfl rfl rfl rfl rfl rfl rfl rfl rfl (w_105 (sc := sc) (d := d) x4 x1 g hvv2) ?_
      refine Wp.steps 2 (pc1 := 41) (lo1 := [some (.ref 0), some (.long x1), none, some (.int x3), some (.long x4), none, some (.long v2), none, none, none]) (st1 := [.int x3]) (h1 := mk g) rfl ?_
      rcases zb_if e with ⟨hc3, e⟩ | ⟨hc3, e⟩
      · skip
        refine Wp.iT (pc1 := 48) rfl hc3 rfl ?_
        refine Wp.steps 5 (pc1 := 56) (lo1 := [some (.ref 0), some (.long x1), none, some (.int x3), some (.long x4), none, some (.long v2), none, some (.long x4), none]) (st1 := [.int (lg_cmp v2 0)]) (h1 := mk g) rfl ?_
        rcases zb_if e with ⟨hc4, e⟩ | ⟨hc4, e⟩
        · skip
          refine Wp.iT (pc1 := 67) rfl hc4 rfl ?_
          refine Wp.steps 1 (pc1 := 69) (lo1 := [some (.ref 0), some (.long x1), none, some (.int x3), some (.long x4), none, some (.long v2), none, some (.long x4), none]) (st1 := [.long x4]) (h1 := mk g) rfl ?_
          have e1 := zb_r1 e
          subst e1
          exact Wp.ret rfl rfl rfl (K _)
        · skip
          refine Wp.iF (pc1 := 59) rfl hc4 rfl ?_
          refine Wp.steps 2 (pc1 := 63) (lo1 := [some (.ref 0), some (.long x1), none, some (.int x3), some (.long x4), none, some (.long v2), none, some (.long x4), none]) (st1 := [.long v2, .long x4]) (h1 := mk g) rfl ?_
          rcases zb_if e with ⟨hc5, e⟩ | ⟨hc5, e⟩
          · cases e
          · skip
            refine Wp.ldiv (pc1 := 64) rfl hc5 rfl ?_
            refine Wp.steps 1 (pc1 := 69) (lo1 := [some (.ref 0), some (.long x1), none, some (.int x3), some (.long x4), none, some (.long v2), none, some (.long x4), none]) (st1 := [.long (x4 / v2)]) (h1 := mk g) rfl ?_
            have e1 := zb_r1 e
            subst e1
            exact Wp.ret rfl rfl rfl (K _)
      · skip
        refine Wp.iF (pc1 := 44) rfl hc3 rfl ?_
        refine Wp.steps 6 (pc1 := 56) (lo1 := [some (.ref 0), some (.long x1), none, some (.int x3), some (.long x4), none, some (.long v2), none, some (.long x1), none]) (st1 := [.int (lg_cmp v2 0)]) (h1 := mk g) rfl ?_
        rcases zb_if e with ⟨hc6, e⟩ | ⟨hc6, e⟩
        · skip
          refine Wp.iT (pc1 := 67) rfl hc6 rfl ?_
          refine Wp.steps 1 (pc1 := 69) (lo1 := [some (.ref 0), some (.long x1), none, some (.int x3), some (.long x4), none, some (.long v2), none, some (.long x1), none]) (st1 := [.long x1]) (h1 := mk g) rfl ?_
          have e1 := zb_r1 e
          subst e1
          exact Wp.ret rfl rfl rfl (K _)
        · skip
          refine Wp.iF (pc1 := 59) rfl hc6 rfl ?_
          refine Wp.steps 2 (pc1 := 63) (lo1 := [some (.ref 0), some (.long x1), none, some (.int x3), some (.long x4), none, some (.long v2), none, some (.long x1), none]) (st1 := [.long v2, .long x1]) (h1 := mk g) rfl ?_
          rcases zb_if e with ⟨hc7, e⟩ | ⟨hc7, e⟩
          · cases e
          · skip
            refine Wp.ldiv (pc1 := 64) rfl hc7 rfl ?_
            refine Wp.steps 1 (pc1 := 69) (lo1 := [some (.ref 0), some (.long x1), none, some (.int x3), some (.long x4), none, some (.long v2), none, some (.long x1), none]) (st1 := [.long (x1 / v2)]) (h1 := mk g) rfl ?_
            have e1 := zb_r1 e
            subst e1
            exact Wp.ret rfl rfl rfl (K _)
    · skip
      refine Wp.cF (pc1 := 18) rfl hc1 rfl ?_
      refine Wp.steps 6 (pc1 := 6) (lo1 := [some (.ref 0), some (.long x1), none, some (.int x3), some (.long (x4 * 10)), none, some (.int (x6 + 1)), none, none, none]) (st1 := []) (h1 := mk g) rfl ?_
      exact ih _ _ _ e Q K
/-- EveningFirst.halfOf(JI)J -/
def d_104 (x1 : Int64) (x3 : Int32) (g : G) : Option Int64 :=
  d_104_6 x1 x3 g 300 1 0
set_option maxRecDepth 100000 in
set_option maxHeartbeats 4000000 in
theorem w_104 {sc : Option (List Int32)} {d : Nat} (x1 : Int64) (x3 : Int32) (g : G) {r : Int64} (e : d_104 x1 x3 g = some r) : zB sc (d + 1) 104 0 (zm_ent (z_L 104) [.ref 0, .long x1, .int x3]) [] (mk g) [.long r] (mk g) := by
  unfold d_104 at e
  intro Q K
  show Wp sc (d + 1) 104 0 [some (.ref 0), some (.long x1), none, some (.int x3), none, none, none, none, none, none] [] (mk g) Q
  refine Wp.steps 4 (pc1 := 6) (lo1 := [some (.ref 0), some (.long x1), none, some (.int x3), some (.long 1), none, some (.int 0), none, none, none]) (st1 := []) (h1 := mk g) rfl ?_
  exact w_104_6 (sc := sc) (d := d) x1 x3 g 300 1 0 _ e Q K
