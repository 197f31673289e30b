/-! printed by wip/tools/den.py -/
/-- EveningFirst$Bonds.goingRound(I)I -/
def d_11 (x1 : Int32) (g : G) : Option Int32 :=
  Option.bind (d_8 x1 g) fun v1 =>
  Option.bind (d_9 v1 g) fun v2 =>
  zb_l (d_190 (v1 &&& (v2 ^^^ (-1)))) fun v3 =>
  some v3
set_option maxRecDepth 100000 in
set_option maxHeartbeats 4000000 in
theorem w_11 {sc : Option (List Int32)} {d : Nat} (x1 : Int32) (g : G) {r : Int32} (e : d_11 x1 g = some r) : zB sc (d + 3) 11 0 (zm_ent (z_L 11) [.ref 25, .int x1]) [] (mk g) [.int r] (mk g) := by
  unfold d_11 at e
  intro Q K
  show Wp sc (d + 3) 11 0 [some (.ref 25), some (.int x1), none] [] (mk g) Q
  refine Wp.steps 2 (pc1 := 2) (lo1 := [some (.ref 25), some (.int x1), none]) (st1 := [.int x1, .ref 25]) (h1 := mk g) rfl ?_
  obtain ⟨v1, hvv1, e⟩ := zb_bind e
  refine Wp.ca (m := 8) (d1 := d + 2) (as := [.ref 25, .int x1]) (rest := []) (st1 := [.int v1]) (pc1 := 5) rfl rfl rfl rfl rfl rfl rfl rfl (mk_rok rfl rfl rfl rfl) rfl rfl rfl (w_8 (sc := sc) (d := d) x1 g hvv1) ?_
  refine Wp.steps 4 (pc1 := 9) (lo1 := [some (.ref 25), some (.int x1), some (.int v1)]) (st1 := [.int v1, .ref 25, .int v1]) (h1 := mk g) rfl ?_
  obtain ⟨v2, hvv2, e⟩ := zb_bind e
  refine Wp.ca (m := 9) (d1 := d + 2) (as := [.ref 25, .int v1]) (rest := [.int v1]) (st1 := [.int v2, .int v1]) (pc1 := 12) rfl rfl rfl rfl rfl rfl rfl rfl (mk_rok rfl rfl rfl rfl) rfl rfl rfl (w_9 (sc := sc) (d := d) v1 g hvv2) ?_
  refine Wp.steps 3 (pc1 := 15) (lo1 := [some (.ref 25), some (.int x1), some (.int v1)]) (st1 := [.int (v1 &&& (v2 ^^^ (-1)))]) (h1 := mk g) rfl ?_
  obtain ⟨v3, hvv3, e⟩ := zb_let e
  refine Wp.ca (m := 190) (d1 := d + 2) (as := [.int (v1 &&& (v2 ^^^ (-1)))]) (rest := []) (st1 := [.int v3]) (pc1 := 18) rfl rfl rfl rfl rfl rfl rfl rfl rfl rfl rfl rfl (w_190 (sc := sc) (d := d + 2) (v1 &&& (v2 ^^^ (-1))) g hvv3) ?_
  have e1 := zb_r1 e
  subst e1
  exact Wp.ret rfl rfl rfl (K _)
def d_73_41 (x1 : Int32) (g : G) : Nat → Int32 → Int32 → Int32 → Option (Int32 × G)
  | 0, _, _, _ => none
  | f + 1, x2, x3, x4 =>
    bif zm_cmp .ge x4 (g 1 2) then (
      bif zm_cmp .ne x2 (-4) then (
        bif zm_cmp .ne x1 0 then (
          some (x3, g)) else
        some (x2, g)) else
      some ((-4), g)) else
    Option.bind (d_11 ((g 25 2) ||| ((1 : Int32) <<< (x4 &&& 31))) g) fun v8 =>
    bif zm_cmp .ge v8 x3 then (
      d_73_41 x1 g f x2 x3 (x4 + 1)) else
    d_73_41 x1 g f x4 v8 (x4 + 1)
set_option maxRecDepth 100000 in
set_option maxHeartbeats 4000000 in
theorem w_73_41 {sc : Option (List Int32)} {d : Nat} (x1 : Int32) (g : G) : ∀ (f : Nat) (x2 : Int32) (x3 : Int32) (x4 : Int32) (r : Int32) (g' : G), d_73_41 x1 g f x2 x3 x4 = some (r, g') → zB sc (d + 4) 73 41 [some (.ref 0), some (.int x1), some (.int x2), some (.int x3), some (.int x4), none] [] (mk g) [.int r] (mk g') := by
  intro f
  induction f with
  | zero =>
    intro x2 x3 x4 r g' e
    rw [d_73_41.eq_1] at e
    cases e
  | succ f ih =>
    intro x2 x3 x4 r g' e
    rw [d_73_41.eq_2] at e
    intro Q K
    refine Wp.steps 2 (pc1 := 44) (lo1 := [some (.ref 0), some (.int x1), some (.int x2), some (.int x3), some (.int x4), none]) (st1 := [.ref 0, .int x4]) (h1 := mk g) rfl ?_
    refine Wp.gf (pc1 := 47) (v := .ref 1) rfl rfl rfl rfl rfl ?_
    refine Wp.gf (pc1 := 50) (v := .int (g 1 2)) rfl rfl rfl rfl rfl ?_
    rcases zb_if e with ⟨hc5, e⟩ | ⟨hc5, e⟩
    · skip
      refine Wp.cT (pc1 := 92) rfl hc5 rfl ?_
      refine Wp.steps 2 (pc1 := 95) (lo1 := [some (.ref 0), some (.int x1), some (.int x2), some (.int x3), some (.int x4), none]) (st1 := [.int (-4), .int x2]) (h1 := mk g) rfl ?_
      rcases zb_if e with ⟨hc6, e⟩ | ⟨hc6, e⟩
      · skip
        refine Wp.cT (pc1 := 101) rfl hc6 rfl ?_
        refine Wp.steps 1 (pc1 := 102) (lo1 := [some (.ref 0), some (.int x1), some (.int x2), some (.int x3), some (.int x4), none]) (st1 := [.int x1]) (h1 := mk g) rfl ?_
        rcases zb_if e with ⟨hc7, e⟩ | ⟨hc7, e⟩
        · skip
          refine Wp.iT (pc1 := 109) rfl hc7 rfl ?_
          refine Wp.steps 1 (pc1 := 110) (lo1 := [some (.ref 0), some (.int x1), some (.int x2), some (.int x3), some (.int x4), none]) (st1 := [.int x3]) (h1 := mk g) rfl ?_
          obtain ⟨e1, e2⟩ := zb_r2 e
          subst e1
          subst e2
          exact Wp.ret rfl rfl rfl (K _)
        · skip
          refine Wp.iF (pc1 := 105) rfl hc7 rfl ?_
          refine Wp.steps 2 (pc1 := 110) (lo1 := [some (.ref 0), some (.int x1), some (.int x2), some (.int x3), some (.int x4), none]) (st1 := [.int x2]) (h1 := mk g) rfl ?_
          obtain ⟨e1, e2⟩ := zb_r2 e
          subst e1
          subst e2
          exact Wp.ret rfl rfl rfl (K _)
      · skip
        refine Wp.cF (pc1 := 98) rfl hc6 rfl ?_
        refine Wp.steps 1 (pc1 := 100) (lo1 := [some (.ref 0), some (.int x1), some (.int x2), some (.int x3), some (.int x4), none]) (st1 := [.int (-4)]) (h1 := mk g) rfl ?_
        obtain ⟨e1, e2⟩ := zb_r2 e
        subst e1
        subst e2
        exact Wp.ret rfl rfl rfl (K _)
    · skip
      refine Wp.cF (pc1 := 53) rfl hc5 rfl ?_
      refine Wp.steps 1 (pc1 := 54) (lo1 := [some (.ref 0), some (.int x1), some (.int x2), some (.int x3), some (.int x4), none]) (st1 := [.ref 0]) (h1 := mk g) rfl ?_
      refine Wp.gf (pc1 := 57) (v := .ref 25) rfl rfl rfl rfl rfl ?_
      refine Wp.steps 1 (pc1 := 58) (lo1 := [some (.ref 0), some (.int x1), some (.int x2), some (.int x3), some (.int x4), none]) (st1 := [.ref 0, .ref 25]) (h1 := mk g) rfl ?_
      refine Wp.gf (pc1 := 61) (v := .ref 25) rfl rfl rfl rfl rfl ?_
      refine Wp.gf (pc1 := 64) (v := .int (g 25 2)) rfl rfl rfl rfl rfl ?_
      refine Wp.steps 4 (pc1 := 69) (lo1 := [some (.ref 0), some (.int x1), some (.int x2), some (.int x3), some (.int x4), none]) (st1 := [.int ((g 25 2) ||| ((1 : Int32) <<< (x4 &&& 31))), .ref 25]) (h1 := mk g) rfl ?_
      obtain ⟨v8, hvv8, e⟩ := zb_bind e
      refine Wp.ca (m := 11) (d1 := d + 3) (as := [.ref 25, .int ((g 25 2) ||| ((1 : Int32) <<< (x4 &&& 31)))]) (rest := []) (st1 := [.int v8]) (pc1 := 72) rfl rfl rfl rfl rfl rfl rfl rfl (mk_rok rfl rfl rfl rfl) rfl rfl rfl (w_11 (sc := sc) (d := d) ((g 25 2) ||| ((1 : Int32) <<< (x4 &&& 31))) g hvv8) ?_
      refine Wp.steps 3 (pc1 := 77) (lo1 := [some (.ref 0), some (.int x1), some (.int x2), some (.int x3), some (.int x4), some (.int v8)]) (st1 := [.int x3, .int v8]) (h1 := mk g) rfl ?_
      rcases zb_if e with ⟨hc9, e⟩ | ⟨hc9, e⟩
      · skip
        refine Wp.cT (pc1 := 86) rfl hc9 rfl ?_
        refine Wp.steps 2 (pc1 := 41) (lo1 := [some (.ref 0), some (.int x1), some (.int x2), some (.int x3), some (.int (x4 + 1)), some (.int v8)]) (st1 := []) (h1 := mk g) rfl ?_
        refine Wp.fg [some (.ref 0), some (.int x1), some (.int x2), some (.int x3), some (.int (x4 + 1)), none] (zm_lle_s (zm_lle_s (zm_lle_s (zm_lle_s (zm_lle_s (zm_lle_n zm_lle_0)))))) ?_
        exact ih _ _ _ _ _ e Q K
      · skip
        refine Wp.cF (pc1 := 80) rfl hc9 rfl ?_
        refine Wp.steps 6 (pc1 := 41) (lo1 := [some (.ref 0), some (.int x1), some (.int x4), some (.int v8), some (.int (x4 + 1)), some (.int v8)]) (st1 := []) (h1 := mk g) rfl ?_
        refine Wp.fg [some (.ref 0), some (.int x1), some (.int x4), some (.int v8), some (.int (x4 + 1)), none] (zm_lle_s (zm_lle_s (zm_lle_s (zm_lle_s (zm_lle_s (zm_lle_n zm_lle_0)))))) ?_
        exact ih _ _ _ _ _ e Q K
/-- EveningFirst.stop(I)I -/
def d_73 (x1 : Int32) (g : G) : Option (Int32 × G) :=
  zb_l (d_95 x1) fun v1 =>
  bif v1 then (
    some ((-1), g)) else
  Option.bind (d_2 1 g) fun g3 =>
  Option.bind (d_11 (g3 25 2) g3) fun v4 =>
  d_73_41 x1 g3 300 (-4) v4 0
set_option maxRecDepth 100000 in
set_option maxHeartbeats 4000000 in
theorem w_73 {sc : Option (List Int32)} {d : Nat} (x1 : Int32) (g : G) {r : Int32} {g' : G} (e : d_73 x1 g = some (r, g')) : zB sc (d + 4) 73 0 (zm_ent (z_L 73) [.ref 0, .int x1]) [] (mk g) [.int r] (mk g') := by
  unfold d_73 at e
  intro Q K
  show Wp sc (d + 4) 73 0 [some (.ref 0), some (.int x1), none, none, none, none] [] (mk g) Q
  refine Wp.steps 1 (pc1 := 1) (lo1 := [some (.ref 0), some (.int x1), none, none, none, none]) (st1 := [.int x1]) (h1 := mk g) rfl ?_
  obtain ⟨v1, hvv1, e⟩ := zb_let e
  refine Wp.ca (m := 95) (d1 := d + 3) (as := [.int x1]) (rest := []) (st1 := [.int (zb_i v1)]) (pc1 := 4) rfl rfl rfl rfl rfl rfl rfl rfl rfl rfl rfl rfl (w_95 (sc := sc) (d := d + 3) x1 g hvv1) ?_
  rcases zb_if e with ⟨hc2, e⟩ | ⟨hc2, e⟩
  · skip
    refine Wp.iF (pc1 := 7) rfl (zb_eqF hc2) rfl ?_
    refine Wp.steps 1 (pc1 := 8) (lo1 := [some (.ref 0), some (.int x1), none, none, none, none]) (st1 := [.int (-1)]) (h1 := mk g) rfl ?_
    obtain ⟨e1, e2⟩ := zb_r2 e
    subst e1
    subst e2
    exact Wp.ret rfl rfl rfl (K _)
  · skip
    refine Wp.iT (pc1 := 9) rfl (zb_eqT hc2) rfl ?_
    refine Wp.steps 1 (pc1 := 10) (lo1 := [some (.ref 0), some (.int x1), none, none, none, none]) (st1 := [.ref 0]) (h1 := mk g) rfl ?_
    refine Wp.gf (pc1 := 13) (v := .ref 25) rfl rfl rfl rfl rfl ?_
    refine Wp.steps 1 (pc1 := 14) (lo1 := [some (.ref 0), some (.int x1), none, none, none, none]) (st1 := [.ref 0, .ref 25]) (h1 := mk g) rfl ?_
    refine Wp.gf (pc1 := 17) (v := .ref 1) rfl rfl rfl rfl rfl ?_
    obtain ⟨g3, hvg3, e⟩ := zb_bind e
    refine Wp.ca (m := 2) (d1 := d + 3) (as := [.ref 25, .ref 1]) (rest := []) (st1 := []) (pc1 := 20) rfl rfl rfl rfl rfl rfl rfl rfl (mk_rok rfl rfl rfl rfl) rfl rfl rfl (w_2 (sc := sc) (d := d) 1 rfl g hvg3) ?_
    refine Wp.steps 3 (pc1 := 24) (lo1 := [some (.ref 0), some (.int x1), some (.int (-4)), none, none, none]) (st1 := [.ref 0]) (h1 := mk g3) rfl ?_
    refine Wp.gf (pc1 := 27) (v := .ref 25) rfl rfl rfl rfl rfl ?_
    refine Wp.steps 1 (pc1 := 28) (lo1 := [some (.ref 0), some (.int x1), some (.int (-4)), none, none, none]) (st1 := [.ref 0, .ref 25]) (h1 := mk g3) rfl ?_
    refine Wp.gf (pc1 := 31) (v := .ref 25) rfl rfl rfl rfl rfl ?_
    refine Wp.gf (pc1 := 34) (v := .int (g3 25 2)) rfl rfl rfl rfl rfl ?_
    obtain ⟨v4, hvv4, e⟩ := zb_bind e
    refine Wp.ca (m := 11) (d1 := d + 3) (as := [.ref 25, .int (g3 25 2)]) (rest := []) (st1 := [.int v4]) (pc1 := 37) rfl rfl rfl rfl rfl rfl rfl rfl (mk_rok rfl rfl rfl rfl) rfl rfl rfl (w_11 (sc := sc) (d := d) (g3 25 2) g3 hvv4) ?_
    refine Wp.steps 3 (pc1 := 41) (lo1 := [some (.ref 0), some (.int x1), some (.int (-4)), some (.int v4), some (.int 0), none]) (st1 := []) (h1 := mk g3) rfl ?_
    exact w_73_41 (sc := sc) (d := d) x1 g3 300 (-4) v4 0 _ _ e Q K
def d_164_4 (x0 : Int32) (g : G) : Nat → Int32 → Int32 → Option Int32
  | 0, _, _ => none
  | f + 1, x1, x2 =>
    bif zm_cmp .ge x2 8 then (
      some x1) else
    d_164_4 x0 g f (x1 + ((x0 >>> (x2 &&& 31)) &&& 1)) (x2 + 1)
set_option maxRecDepth 100000 in
set_option maxHeartbeats 4000000 in
theorem w_164_4 {sc : Option (List Int32)} {d : Nat} (x0 : Int32) (g : G) : ∀ (f : Nat) (x1 : Int32) (x2 : Int32) (r : Int32), d_164_4 x0 g f x1 x2 = some r → zB sc (d) 164 4 [some (.int x0), some (.int x1), some (.int x2)] [] (mk g) [.int r] (mk g) := by
  intro f
  induction f with
  | zero =>
    intro x1 x2 r e
    rw [d_164_4.eq_1] at e
    cases e
  | succ f ih =>
    intro x1 x2 r e
    rw [d_164_4.eq_2] at e
    intro Q K
    refine Wp.steps 2 (pc1 := 7) (lo1 := [some (.int x0), some (.int x1), some (.int x2)]) (st1 := [.int 8, .int x2]) (h1 := mk g) rfl ?_
    rcases zb_if e with ⟨hc1, e⟩ | ⟨hc1, e⟩
    · skip
      refine Wp.cT (pc1 := 24) rfl hc1 rfl ?_
      refine Wp.steps 1 (pc1 := 25) (lo1 := [some (.int x0), some (.int x1), some (.int x2)]) (st1 := [.int x1]) (h1 := mk g) rfl ?_
      have e1 := zb_r1 e
      subst e1
      exact Wp.ret rfl rfl rfl (K _)
    · skip
      refine Wp.cF (pc1 := 10) rfl hc1 rfl ?_
      refine Wp.steps 8 (pc1 := 18) (lo1 := [some (.int x0), some (.int (x1 + ((x0 >>> (x2 &&& 31)) &&& 1))), some (.int x2)]) (st1 := []) (h1 := mk g) rfl ?_
      refine Wp.steps 2 (pc1 := 4) (lo1 := [some (.int x0), some (.int (x1 + ((x0 >>> (x2 &&& 31)) &&& 1))), some (.int (x2 + 1))]) (st1 := []) (h1 := mk g) rfl ?_
      exact ih _ _ _ e Q K
/-- EveningFirstModel.bitsOf(I)I -/
def d_164 (x0 : Int32) (g : G) : Option Int32 :=
  d_164_4 x0 g 300 0 0
set_option maxRecDepth 100000 in
set_option maxHeartbeats 4000000 in
theorem w_164 {sc : Option (List Int32)} {d : Nat} (x0 : Int32) (g : G) {r : Int32} (e : d_164 x0 g = some r) : zB sc (d) 164 0 (zm_ent (z_L 164) [.int x0]) [] (mk g) [.int r] (mk g) := by
  unfold d_164 at e
  intro Q K
  show Wp sc (d) 164 0 [some (.int x0), none, none] [] (mk g) Q
  refine Wp.steps 4 (pc1 := 4) (lo1 := [some (.int x0), some (.int 0), some (.int 0)]) (st1 := []) (h1 := mk g) rfl ?_
  exact w_164_4 (sc := sc) (d := d) x0 g 300 0 0 _ e Q K
/-- EveningFirstModel.roundNow()I -/
def d_166 (g : G) : Option (Int32 × G) :=
  Option.bind (d_161 g) fun v1 =>
  zb_bp (d_163 v1 g) fun v2 g3 =>
  Option.bind (d_164 (v1 &&& (v2 ^^^ (-1))) g3) fun v4 =>
  some (v4, g3)
set_option maxRecDepth 100000 in
set_option maxHeartbeats 4000000 in
theorem w_166 {sc : Option (List Int32)} {d : Nat} (g : G) {r : Int32} {g' : G} (e : d_166 g = some (r, g')) : zB sc (d + 4) 166 0 (zm_ent (z_L 166) [.ref 113]) [] (mk g) [.int r] (mk g') := by
  unfold d_166 at e
  intro Q K
  show Wp sc (d + 4) 166 0 [some (.ref 113), none] [] (mk g) Q
  refine Wp.steps 1 (pc1 := 1) (lo1 := [some (.ref 113), none]) (st1 := [.ref 113]) (h1 := mk g) rfl ?_
  obtain ⟨v1, hvv1, e⟩ := zb_bind e
  refine Wp.ca (m := 161) (d1 := d + 3) (as := [.ref 113]) (rest := []) (st1 := [.int v1]) (pc1 := 4) rfl rfl rfl rfl rfl rfl rfl rfl (mk_rok rfl rfl rfl rfl) rfl rfl rfl (w_161 (sc := sc) (d := d)  g hvv1) ?_
  refine Wp.steps 4 (pc1 := 8) (lo1 := [some (.ref 113), some (.int v1)]) (st1 := [.int v1, .ref 113, .int v1]) (h1 := mk g) rfl ?_
  obtain ⟨v2, g3, hvv2, e⟩ := zb_bpair e
  refine Wp.ca (m := 163) (d1 := d + 3) (as := [.ref 113, .int v1]) (rest := [.int v1]) (st1 := [.int v2, .int v1]) (pc1 := 11) rfl rfl rfl rfl rfl rfl rfl rfl (mk_rok rfl rfl rfl rfl) rfl rfl rfl (w_163 (sc := sc) (d := d) v1 g hvv2) ?_
  refine Wp.steps 3 (pc1 := 14) (lo1 := [some (.ref 113), some (.int v1)]) (st1 := [.int (v1 &&& (v2 ^^^ (-1)))]) (h1 := mk g3) rfl ?_
  obtain ⟨v4, hvv4, e⟩ := zb_bind e
  refine Wp.ca (m := 164) (d1 := d + 3) (as := [.int (v1 &&& (v2 ^^^ (-1)))]) (rest := []) (st1 := [.int v4]) (pc1 := 17) rfl rfl rfl rfl rfl rfl rfl rfl rfl rfl rfl rfl (w_164 (sc := sc) (d := d + 3) (v1 &&& (v2 ^^^ (-1))) g3 hvv4) ?_
  obtain ⟨e1, e2⟩ := zb_r2 e
  subst e1
  subst e2
  exact Wp.ret rfl rfl rfl (K _)
def d_167_23 (x1 : Int32) : Nat → Int32 → Int32 → Int32 → G → Option (Int32 × G)
  | 0, _, _, _, _ => none
  | f + 1, x2, x3, x4, g =>
    bif zm_cmp .ge x4 (g 114 8) then (
      bif zm_cmp .ne x3 (-4) then (
        bif zm_cmp .ne x1 0 then (
          some (x2, g)) else
        some (x3, g)) else
      some ((-4), g)) else
    zb_bp (d_142 ((9 + (7 * x4)) + 5) 2 g) fun v8 g9 =>
    zb_bp (d_166 g9) fun v10 g11 =>
    Option.bind (zm_ix ((9 + (7 * x4)) + 5) 294) fun k13 =>
    zb_l (zg_up g11 114 k13 v8) fun g12 =>
    bif zm_cmp .ge v10 x2 then (
      bif zm_cmp .ge v10 x2 then (
        d_167_23 x1 f x2 x3 (x4 + 1) g12) else
      d_167_23 x1 f v10 x3 (x4 + 1) g12) else
    bif zm_cmp .ge v10 x2 then (
      d_167_23 x1 f x2 x4 (x4 + 1) g12) else
    d_167_23 x1 f v10 x4 (x4 + 1) g12
set_option maxRecDepth 100000 in
set_option maxHeartbeats 4000000 in
theorem w_167_23 {sc : Option (List Int32)} {d : Nat} (x1 : Int32) : ∀ (f : Nat) (x2 : Int32) (x3 : Int32) (x4 : Int32) (g : G) (r : Int32) (g' : G), d_167_23 x1 f x2 x3 x4 g = some (r, g') → zB sc (d + 5) 167 23 [some (.ref 113), some (.int x1), some (.int x2), some (.int x3), some (.int x4), none, none, none] [] (mk g) [.int r] (mk g') := by
  intro f
  induction f with
  | zero =>
    intro x2 x3 x4 g r g' e
    rw [d_167_23.eq_1] at e
    cases e
  | succ f ih =>
    intro x2 x3 x4 g r g' e
    rw [d_167_23.eq_2] at e
    intro Q K
    refine Wp.steps 2 (pc1 := 26) (lo1 := [some (.ref 113), some (.int x1), some (.int x2), some (.int x3), some (.int x4), none, none, none]) (st1 := [.ref 113, .int x4]) (h1 := mk g) rfl ?_
    refine Wp.gf (pc1 := 29) (v := .ref 114) rfl rfl rfl rfl rfl ?_
    refine Wp.steps 1 (pc1 := 31) (lo1 := [some (.ref 113), some (.int x1), some (.int x2), some (.int x3), some (.int x4), none, none, none]) (st1 := [.int 8, .ref 114, .int x4]) (h1 := mk g) rfl ?_
    refine Wp.ia (pc1 := 32) (k := 8) rfl rfl rfl rfl rfl ?_
    rcases zb_if e with ⟨hc5, e⟩ | ⟨hc5, e⟩
    · skip
      refine Wp.cT (pc1 := 103) rfl hc5 rfl ?_
      refine Wp.steps 2 (pc1 := 106) (lo1 := [some (.ref 113), some (.int x1), some (.int x2), some (.int x3), some (.int x4), none, none, none]) (st1 := [.int (-4), .int x3]) (h1 := mk g) rfl ?_
      rcases zb_if e with ⟨hc6, e⟩ | ⟨hc6, e⟩
      · skip
        refine Wp.cT (pc1 := 114) rfl hc6 rfl ?_
        refine Wp.steps 1 (pc1 := 115) (lo1 := [some (.ref 113), some (.int x1), some (.int x2), some (.int x3), some (.int x4), none, none, none]) (st1 := [.int x1]) (h1 := mk g) rfl ?_
        rcases zb_if e with ⟨hc7, e⟩ | ⟨hc7, e⟩
        · skip
          refine Wp.iT (pc1 := 122) rfl hc7 rfl ?_
          refine Wp.steps 1 (pc1 := 123) (lo1 := [some (.ref 113), some (.int x1), some (.int x2), some (.int x3), some (.int x4), none, none, none]) (st1 := [.int x2]) (h1 := mk g) rfl ?_
          obtain ⟨e1, e2⟩ := zb_r2 e
          subst e1
          subst e2
          exact Wp.ret rfl rfl rfl (K _)
        · skip
          refine Wp.iF (pc1 := 118) rfl hc7 rfl ?_
          refine Wp.steps 2 (pc1 := 123) (lo1 := [some (.ref 113), some (.int x1), some (.int x2), some (.int x3), some (.int x4), none, none, none]) (st1 := [.int x3]) (h1 := mk g) rfl ?_
          obtain ⟨e1, e2⟩ := zb_r2 e
          subst e1
          subst e2
          exact Wp.ret rfl rfl rfl (K _)
      · skip
        refine Wp.cF (pc1 := 109) rfl hc6 rfl ?_
        refine Wp.steps 2 (pc1 := 123) (lo1 := [some (.ref 113), some (.int x1), some (.int x2), some (.int x3), some (.int x4), none, none, none]) (st1 := [.int (-4)]) (h1 := mk g) rfl ?_
        obtain ⟨e1, e2⟩ := zb_r2 e
        subst e1
        subst e2
        exact Wp.ret rfl rfl rfl (K _)
    · skip
      refine Wp.cF (pc1 := 35) rfl hc5 rfl ?_
      refine Wp.steps 8 (pc1 := 47) (lo1 := [some (.ref 113), some (.int x1), some (.int x2), some (.int x3), some (.int x4), some (.int ((9 + (7 * x4)) + 5)), none, none]) (st1 := []) (h1 := mk g) rfl ?_
      refine Wp.steps 3 (pc1 := 51) (lo1 := [some (.ref 113), some (.int x1), some (.int x2), some (.int x3), some (.int x4), some (.int ((9 + (7 * x4)) + 5)), none, none]) (st1 := [.int 2, .int ((9 + (7 * x4)) + 5), .ref 113]) (h1 := mk g) rfl ?_
      obtain ⟨v8, g9, hvv8, e⟩ := zb_bpair e
      refine Wp.ca (m := 142) (d1 := d + 4) (as := [.ref 113, .int ((9 + (7 * x4)) + 5), .int 2]) (rest := []) (st1 := [.int v8]) (pc1 := 54) rfl rfl rfl rfl rfl rfl rfl rfl (mk_rok rfl rfl rfl rfl) rfl rfl rfl (w_142 (sc := sc) (d := d + 4) ((9 + (7 * x4)) + 5) 2 g hvv8) ?_
      refine Wp.steps 2 (pc1 := 57) (lo1 := [some (.ref 113), some (.int x1), some (.int x2), some (.int x3), some (.int x4), some (.int ((9 + (7 * x4)) + 5)), some (.int v8), none]) (st1 := [.ref 113]) (h1 := mk g9) rfl ?_
      obtain ⟨v10, g11, hvv10, e⟩ := zb_bpair e
      refine Wp.ca (m := 166) (d1 := d + 4) (as := [.ref 113]) (rest := []) (st1 := [.int v10]) (pc1 := 60) rfl rfl rfl rfl rfl rfl rfl rfl (mk_rok rfl rfl rfl rfl) rfl rfl rfl (w_166 (sc := sc) (d := d)  g9 hvv10) ?_
      refine Wp.steps 2 (pc1 := 63) (lo1 := [some (.ref 113), some (.int x1), some (.int x2), some (.int x3), some (.int x4), some (.int ((9 + (7 * x4)) + 5)), some (.int v8), some (.int v10)]) (st1 := [.ref 113]) (h1 := mk g11) rfl ?_
      refine Wp.gf (pc1 := 66) (v := .ref 114) rfl rfl rfl rfl rfl ?_
      refine Wp.steps 2 (pc1 := 70) (lo1 := [some (.ref 113), some (.int x1), some (.int x2), some (.int x3), some (.int x4), some (.int ((9 + (7 * x4)) + 5)), some (.int v8), some (.int v10)]) (st1 := [.int v8, .int ((9 + (7 * x4)) + 5), .ref 114]) (h1 := mk g11) rfl ?_
      obtain ⟨k13, hk13, e⟩ := zb_bind e
      obtain ⟨g12, hg12, e⟩ := zb_let e
      refine Wp.ias (pc1 := 71) rfl rfl rfl hk13 hg12 rfl ?_
      refine Wp.steps 2 (pc1 := 74) (lo1 := [some (.ref 113), some (.int x1), some (.int x2), some (.int x3), some (.int x4), some (.int ((9 + (7 * x4)) + 5)), some (.int v8), some (.int v10)]) (st1 := [.int x2, .int v10]) (h1 := mk g12) rfl ?_
      rcases zb_if e with ⟨hc14, e⟩ | ⟨hc14, e⟩
      · skip
        refine Wp.cT (pc1 := 82) rfl hc14 rfl ?_
        refine Wp.steps 4 (pc1 := 87) (lo1 := [some (.ref 113), some (.int x1), some (.int x2), some (.int x3), some (.int x4), some (.int ((9 + (7 * x4)) + 5)), some (.int v8), some (.int v10)]) (st1 := [.int x2, .int v10]) (h1 := mk g12) rfl ?_
        rcases zb_if e with ⟨hc15, e⟩ | ⟨hc15, e⟩
        · skip
          refine Wp.cT (pc1 := 95) rfl hc15 rfl ?_
          refine Wp.steps 4 (pc1 := 23) (lo1 := [some (.ref 113), some (.int x1), some (.int x2), some (.int x3), some (.int (x4 + 1)), some (.int ((9 + (7 * x4)) + 5)), some (.int v8), some (.int v10)]) (st1 := []) (h1 := mk g12) rfl ?_
          refine Wp.fg [some (.ref 113), some (.int x1), some (.int x2), some (.int x3), some (.int (x4 + 1)), none, none, none] (zm_lle_s (zm_lle_s (zm_lle_s (zm_lle_s (zm_lle_s (zm_lle_n (zm_lle_n (zm_lle_n zm_lle_0)))))))) ?_
          exact ih _ _ _ _ _ _ e Q K
        · skip
          refine Wp.cF (pc1 := 90) rfl hc15 rfl ?_
          refine Wp.steps 5 (pc1 := 23) (lo1 := [some (.ref 113), some (.int x1), some (.int v10), some (.int x3), some (.int (x4 + 1)), some (.int ((9 + (7 * x4)) + 5)), some (.int v8), some (.int v10)]) (st1 := []) (h1 := mk g12) rfl ?_
          refine Wp.fg [some (.ref 113), some (.int x1), some (.int v10), some (.int x3), some (.int (x4 + 1)), none, none, none] (zm_lle_s (zm_lle_s (zm_lle_s (zm_lle_s (zm_lle_s (zm_lle_n (zm_lle_n (zm_lle_n zm_lle_0)))))))) ?_
          exact ih _ _ _ _ _ _ e Q K
      · skip
        refine Wp.cF (pc1 := 77) rfl hc14 rfl ?_
        refine Wp.steps 5 (pc1 := 87) (lo1 := [some (.ref 113), some (.int x1), some (.int x2), some (.int x4), some (.int x4), some (.int ((9 + (7 * x4)) + 5)), some (.int v8), some (.int v10)]) (st1 := [.int x2, .int v10]) (h1 := mk g12) rfl ?_
        rcases zb_if e with ⟨hc16, e⟩ | ⟨hc16, e⟩
        · skip
          refine Wp.cT (pc1 := 95) rfl hc16 rfl ?_
          refine Wp.steps 4 (pc1 := 23) (lo1 := [some (.ref 113), some (.int x1), some (.int x2), some (.int x4), some (.int (x4 + 1)), some (.int ((9 + (7 * x4)) + 5)), some (.int v8), some (.int v10)]) (st1 := []) (h1 := mk g12) rfl ?_
          refine Wp.fg [some (.ref 113), some (.int x1), some (.int x2), some (.int x4), some (.int (x4 + 1)), none, none, none] (zm_lle_s (zm_lle_s (zm_lle_s (zm_lle_s (zm_lle_s (zm_lle_n (zm_lle_n (zm_lle_n zm_lle_0)))))))) ?_
          exact ih _ _ _ _ _ _ e Q K
        · skip
          refine Wp.cF (pc1 := 90) rfl hc16 rfl ?_
          refine Wp.steps 5 (pc1 := 23) (lo1 := [some (.ref 113), some (.int x1), some (.int v10), some (.int x4), some (.int (x4 + 1)), some (.int ((9 + (7 * x4)) + 5)), some (.int v8), some (.int v10)]) (st1 := []) (h1 := mk g12) rfl ?_
          refine Wp.fg [some (.ref 113), some (.int x1), some (.int v10), some (.int x4), some (.int (x4 + 1)), none, none, none] (zm_lle_s (zm_lle_s (zm_lle_s (zm_lle_s (zm_lle_s (zm_lle_n (zm_lle_n (zm_lle_n zm_lle_0)))))))) ?_
          exact ih _ _ _ _ _ _ e Q K
/-- EveningFirstModel.stop(I)I -/
def d_167 (x1 : Int32) (g : G) : Option (Int32 × G) :=
  zb_l (d_107 (Int32.toInt64 x1) 0 1) fun v1 =>
  bif v1 then (
    zb_bp (d_166 g) fun v3 g4 =>
    d_167_23 x1 300 v3 (-4) 0 g4) else
  some ((-1), g)
set_option maxRecDepth 100000 in
set_option maxHeartbeats 4000000 in
theorem w_167 {sc : Option (List Int32)} {d : Nat} (x1 : Int32) (g : G) {r : Int32} {g' : G} (e : d_167 x1 g = some (r, g')) : zB sc (d + 5) 167 0 (zm_ent (z_L 167) [.ref 113, .int x1]) [] (mk g) [.int r] (mk g') := by
  unfold d_167 at e
  intro Q K
  show Wp sc (d + 5) 167 0 [some (.ref 113), some (.int x1), none, none, none, none, none, none] [] (mk g) Q
  refine Wp.steps 4 (pc1 := 4) (lo1 := [some (.ref 113), some (.int x1), none, none, none, none, none, none]) (st1 := [.long 1, .long 0, .long (Int32.toInt64 x1)]) (h1 := mk g) rfl ?_
  obtain ⟨v1, hvv1, e⟩ := zb_let e
  refine Wp.ca (m := 107) (d1 := d + 4) (as := [.long (Int32.toInt64 x1), .long 0, .long 1]) (rest := []) (st1 := [.int (zb_i v1)]) (pc1 := 7) rfl rfl rfl rfl rfl rfl rfl rfl rfl rfl rfl rfl (w_107 (sc := sc) (d := d + 4) (Int32.toInt64 x1) 0 1 g hvv1) ?_
  rcases zb_if e with ⟨hc2, e⟩ | ⟨hc2, e⟩
  · skip
    refine Wp.iT (pc1 := 12) rfl (zb_neT hc2) rfl ?_
    refine Wp.steps 1 (pc1 := 13) (lo1 := [some (.ref 113), some (.int x1), none, none, none, none, none, none]) (st1 := [.ref 113]) (h1 := mk g) rfl ?_
    obtain ⟨v3, g4, hvv3, e⟩ := zb_bpair e
    refine Wp.ca (m := 166) (d1 := d + 4) (as := [.ref 113]) (rest := []) (st1 := [.int v3]) (pc1 := 16) rfl rfl rfl rfl rfl rfl rfl rfl (mk_rok rfl rfl rfl rfl) rfl rfl rfl (w_166 (sc := sc) (d := d)  g hvv3) ?_
    refine Wp.steps 5 (pc1 := 23) (lo1 := [some (.ref 113), some (.int x1), some (.int v3), some (.int (-4)), some (.int 0), none, none, none]) (st1 := []) (h1 := mk g4) rfl ?_
    exact w_167_23 (sc := sc) (d := d) x1 300 v3 (-4) 0 g4 _ _ e Q K
  · skip
    refine Wp.iF (pc1 := 10) rfl (zb_neF hc2) rfl ?_
    refine Wp.steps 1 (pc1 := 11) (lo1 := [some (.ref 113), some (.int x1), none, none, none, none, none, none]) (st1 := [.int (-1)]) (h1 := mk g) rfl ?_
    obtain ⟨e1, e2⟩ := zb_r2 e
    subst e1
    subst e2
    exact Wp.ret rfl rfl rfl (K _)
/-- EveningFirst.isNoSight(III)Z -/
def d_96 (x1 : Int32) (x2 : Int32) (x3 : Int32) (g : G) : Bool :=
  zb_l (d_18 1 x1 g) fun v1 =>
  bif v1 then (
    zb_l (d_91 x2) fun v3 =>
    bif v3 then (
      zb_l (d_19 1 x3 g) fun v5 =>
      bif v5 then (
        false) else
      true) else
    true) else
  true
set_option maxRecDepth 100000 in
set_option maxHeartbeats 4000000 in
theorem w_96 {sc : Option (List Int32)} {d : Nat} (x1 : Int32) (x2 : Int32) (x3 : Int32) (g : G) {r : Bool} (e : d_96 x1 x2 x3 g = r) : zB sc (d + 1) 96 0 (zm_ent (z_L 96) [.ref 0, .int x1, .int x2, .int x3]) [] (mk g) [.int (zb_i r)] (mk g) := by
  unfold d_96 at e
  intro Q K
  show Wp sc (d + 1) 96 0 [some (.ref 0), some (.int x1), some (.int x2), some (.int x3)] [] (mk g) Q
  refine Wp.steps 1 (pc1 := 1) (lo1 := [some (.ref 0), some (.int x1), some (.int x2), some (.int x3)]) (st1 := [.ref 0]) (h1 := mk g) rfl ?_
  refine Wp.gf (pc1 := 4) (v := .ref 1) rfl rfl rfl rfl rfl ?_
  refine Wp.steps 1 (pc1 := 5) (lo1 := [some (.ref 0), some (.int x1), some (.int x2), some (.int x3)]) (st1 := [.int x1, .ref 1]) (h1 := mk g) rfl ?_
  obtain ⟨v1, hvv1, e⟩ := zb_let e
  refine Wp.ca (m := 18) (d1 := d) (as := [.ref 1, .int x1]) (rest := []) (st1 := [.int (zb_i v1)]) (pc1 := 8) rfl rfl rfl rfl rfl rfl rfl rfl (mk_rok rfl rfl rfl rfl) rfl rfl rfl (w_18 (sc := sc) (d := d) 1 x1 rfl g hvv1) ?_
  rcases zb_if e with ⟨hc2, e⟩ | ⟨hc2, e⟩
  · skip
    refine Wp.iF (pc1 := 11) rfl (zb_eqF hc2) rfl ?_
    refine Wp.steps 1 (pc1 := 12) (lo1 := [some (.ref 0), some (.int x1), some (.int x2), some (.int x3)]) (st1 := [.int x2]) (h1 := mk g) rfl ?_
    obtain ⟨v3, hvv3, e⟩ := zb_let e
    refine Wp.ca (m := 91) (d1 := d) (as := [.int x2]) (rest := []) (st1 := [.int (zb_i v3)]) (pc1 := 15) rfl rfl rfl rfl rfl rfl rfl rfl rfl rfl rfl rfl (w_91 (sc := sc) (d := d) x2 g hvv3) ?_
    rcases zb_if e with ⟨hc4, e⟩ | ⟨hc4, e⟩
    · skip
      refine Wp.iF (pc1 := 18) rfl (zb_eqF hc4) rfl ?_
      refine Wp.steps 1 (pc1 := 19) (lo1 := [some (.ref 0), some (.int x1), some (.int x2), some (.int x3)]) (st1 := [.ref 0]) (h1 := mk g) rfl ?_
      refine Wp.gf (pc1 := 22) (v := .ref 1) rfl rfl rfl rfl rfl ?_
      refine Wp.steps 1 (pc1 := 23) (lo1 := [some (.ref 0), some (.int x1), some (.int x2), some (.int x3)]) (st1 := [.int x3, .ref 1]) (h1 := mk g) rfl ?_
      obtain ⟨v5, hvv5, e⟩ := zb_let e
      refine Wp.ca (m := 19) (d1 := d) (as := [.ref 1, .int x3]) (rest := []) (st1 := [.int (zb_i v5)]) (pc1 := 26) rfl rfl rfl rfl rfl rfl rfl rfl (mk_rok rfl rfl rfl rfl) rfl rfl rfl (w_19 (sc := sc) (d := d) 1 x3 rfl g hvv5) ?_
      rcases zb_if e with ⟨hc6, e⟩ | ⟨hc6, e⟩
      · skip
        refine Wp.iT (pc1 := 33) rfl (zb_neT hc6) rfl ?_
        refine Wp.steps 1 (pc1 := 34) (lo1 := [some (.ref 0), some (.int x1), some (.int x2), some (.int x3)]) (st1 := [.int 0]) (h1 := mk g) rfl ?_
        have e1 := e
        subst e1
        exact Wp.ret rfl rfl rfl (K _)
      · skip
        refine Wp.iF (pc1 := 29) rfl (zb_neF hc6) rfl ?_
        refine Wp.steps 2 (pc1 := 34) (lo1 := [some (.ref 0), some (.int x1), some (.int x2), some (.int x3)]) (st1 := [.int 1]) (h1 := mk g) rfl ?_
        have e1 := e
        subst e1
        exact Wp.ret rfl rfl rfl (K _)
    · skip
      refine Wp.iT (pc1 := 29) rfl (zb_eqT hc4) rfl ?_
      refine Wp.steps 2 (pc1 := 34) (lo1 := [some (.ref 0), some (.int x1), some (.int x2), some (.int x3)]) (st1 := [.int 1]) (h1 := mk g) rfl ?_
      have e1 := e
      subst e1
      exact Wp.ret rfl rfl rfl (K _)
  · skip
    refine Wp.iT (pc1 := 29) rfl (zb_eqT hc2) rfl ?_
    refine Wp.steps 2 (pc1 := 34) (lo1 := [some (.ref 0), some (.int x1), some (.int x2), some (.int x3)]) (st1 := [.int 1]) (h1 := mk g) rfl ?_
    have e1 := e
    subst e1
    exact Wp.ret rfl rfl rfl (K _)
def d_74_42 (x1 : Int32) (x2 : Int32) (x3 : Int32) (x4 : Int32) (g : G) : Nat → Int32 → Int32 → Int32 → Option (Int32 × G)
  | 0, _, _, _ => none
  | f + 1, x5, x6, x7 =>
    bif zm_cmp .gt x7 (g 25 0) then (
      bif zm_cmp .ne x5 (-4) then (
        bif zm_cmp .ne x4 0 then (
          some (x5, g)) else
        some (x6, g)) else
      some ((-4), g)) else
    zb_l (d_190 x7) fun v9 =>
    bif zm_cmp .ge v9 x6 then (
      d_74_42 x1 x2 x3 x4 g f x5 x6 (x7 + 1)) else
    Option.bind (d_7 x7 g) fun v11 =>
    bif v11 then (
      Option.bind (d_24 1 x1 x3 x7 g) fun v13 =>
      zb_l (d_90 v13 x2) fun v14 =>
      bif v14 then (
        d_74_42 x1 x2 x3 x4 g f x7 v9 (x7 + 1)) else
      d_74_42 x1 x2 x3 x4 g f x5 x6 (x7 + 1)) else
    d_74_42 x1 x2 x3 x4 g f x5 x6 (x7 + 1)
set_option maxRecDepth 100000 in
set_option maxHeartbeats 4000000 in
theorem w_74_42 {sc : Option (List Int32)} {d : Nat} (x1 : Int32) (x2 : Int32) (x3 : Int32) (x4 : Int32) (g : G) : ∀ (f : Nat) (x5 : Int32) (x6 : Int32) (x7 : Int32) (r : Int32) (g' : G), d_74_42 x1 x2 x3 x4 g f x5 x6 x7 = some (r, g') → zB sc (d + 4) 74 42 [some (.ref 0), some (.int x1), some (.int x2), some (.int x3), some (.int x4), some (.int x5), some (.int x6), some (.int x7), none] [] (mk g) [.int r] (mk g') := by
  intro f
  induction f with
  | zero =>
    intro x5 x6 x7 r g' e
    rw [d_74_42.eq_1] at e
    cases e
  | succ f ih =>
    intro x5 x6 x7 r g' e
    rw [d_74_42.eq_2] at e
    intro Q K
    refine Wp.steps 2 (pc1 := 45) (lo1 := [some (.ref 0), some (.int x1), some (.int x2), some (.int x3), some (.int x4), some (.int x5), some (.int x6), some (.int x7), none]) (st1 := [.ref 0, .int x7]) (h1 := mk g) rfl ?_
    refine Wp.gf (pc1 := 48) (v := .ref 25) rfl rfl rfl rfl rfl ?_
    refine Wp.gf (pc1 := 51) (v := .int (g 25 0)) rfl rfl rfl rfl rfl ?_
    rcases zb_if e with ⟨hc6, e⟩ | ⟨hc6, e⟩
    · skip
      refine Wp.cT (pc1 := 112) rfl hc6 rfl ?_
      refine Wp.steps 2 (pc1 := 116) (lo1 := [some (.ref 0), some (.int x1), some (.int x2), some (.int x3), some (.int x4), some (.int x5), some (.int x6), some (.int x7), none]) (st1 := [.int (-4), .int x5]) (h1 := mk g) rfl ?_
      rcases zb_if e with ⟨hc7, e⟩ | ⟨hc7, e⟩
      · skip
        refine Wp.cT (pc1 := 122) rfl hc7 rfl ?_
        refine Wp.steps 1 (pc1 := 124) (lo1 := [some (.ref 0), some (.int x1), some (.int x2), some (.int x3), some (.int x4), some (.int x5), some (.int x6), some (.int x7), none]) (st1 := [.int x4]) (h1 := mk g) rfl ?_
        rcases zb_if e with ⟨hc8, e⟩ | ⟨hc8, e⟩
        · skip
          refine Wp.iT (pc1 := 132) rfl hc8 rfl ?_
          refine Wp.steps 1 (pc1 := 134) (lo1 := [some (.ref 0), some (.int x1), some (.int x2), some (.int x3), some (.int x4), some (.int x5), some (.int x6), some (.int x7), none]) (st1 := [.int x5]) (h1 := mk g) rfl ?_
          obtain ⟨e1, e2⟩ := zb_r2 e
          subst e1
          subst e2
          exact Wp.ret rfl rfl rfl (K _)
        · skip
          refine Wp.iF (pc1 := 127) rfl hc8 rfl ?_
          refine Wp.steps 2 (pc1 := 134) (lo1 := [some (.ref 0), some (.int x1), some (.int x2), some (.int x3), some (.int x4), some (.int x5), some (.int x6), some (.int x7), none]) (st1 := [.int x6]) (h1 := mk g) rfl ?_
          obtain ⟨e1, e2⟩ := zb_r2 e
          subst e1
          subst e2
          exact Wp.ret rfl rfl rfl (K _)
      · skip
        refine Wp.cF (pc1 := 119) rfl hc7 rfl ?_
        refine Wp.steps 1 (pc1 := 121) (lo1 := [some (.ref 0), some (.int x1), some (.int x2), some (.int x3), some (.int x4), some (.int x5), some (.int x6), some (.int x7), none]) (st1 := [.int (-4)]) (h1 := mk g) rfl ?_
        obtain ⟨e1, e2⟩ := zb_r2 e
        subst e1
        subst e2
        exact Wp.ret rfl rfl rfl (K _)
    · skip
      refine Wp.cF (pc1 := 54) rfl hc6 rfl ?_
      refine Wp.steps 1 (pc1 := 56) (lo1 := [some (.ref 0), some (.int x1), some (.int x2), some (.int x3), some (.int x4), some (.int x5), some (.int x6), some (.int x7), none]) (st1 := [.int x7]) (h1 := mk g) rfl ?_
      obtain ⟨v9, hvv9, e⟩ := zb_let e
      refine Wp.ca (m := 190) (d1 := d + 3) (as := [.int x7]) (rest := []) (st1 := [.int v9]) (pc1 := 59) rfl rfl rfl rfl rfl rfl rfl rfl rfl rfl rfl rfl (w_190 (sc := sc) (d := d + 3) x7 g hvv9) ?_
      refine Wp.steps 3 (pc1 := 65) (lo1 := [some (.ref 0), some (.int x1), some (.int x2), some (.int x3), some (.int x4), some (.int x5), some (.int x6), some (.int x7), some (.int v9)]) (st1 := [.int x6, .int v9]) (h1 := mk g) rfl ?_
      rcases zb_if e with ⟨hc10, e⟩ | ⟨hc10, e⟩
      · skip
        refine Wp.cT (pc1 := 106) rfl hc10 rfl ?_
        refine Wp.steps 2 (pc1 := 42) (lo1 := [some (.ref 0), some (.int x1), some (.int x2), some (.int x3), some (.int x4), some (.int x5), some (.int x6), some (.int (x7 + 1)), some (.int v9)]) (st1 := []) (h1 := mk g) rfl ?_
        refine Wp.fg [some (.ref 0), some (.int x1), some (.int x2), some (.int x3), some (.int x4), some (.int x5), some (.int x6), some (.int (x7 + 1)), none] (zm_lle_s (zm_lle_s (zm_lle_s (zm_lle_s (zm_lle_s (zm_lle_s (zm_lle_s (zm_lle_s (zm_lle_n zm_lle_0))))))))) ?_
        exact ih _ _ _ _ _ e Q K
      · skip
        refine Wp.cF (pc1 := 68) rfl hc10 rfl ?_
        refine Wp.steps 1 (pc1 := 69) (lo1 := [some (.ref 0), some (.int x1), some (.int x2), some (.int x3), some (.int x4), some (.int x5), some (.int x6), some (.int x7), some (.int v9)]) (st1 := [.ref 0]) (h1 := mk g) rfl ?_
        refine Wp.gf (pc1 := 72) (v := .ref 25) rfl rfl rfl rfl rfl ?_
        refine Wp.steps 1 (pc1 := 74) (lo1 := [some (.ref 0), some (.int x1), some (.int x2), some (.int x3), some (.int x4), some (.int x5), some (.int x6), some (.int x7), some (.int v9)]) (st1 := [.int x7, .ref 25]) (h1 := mk g) rfl ?_
        obtain ⟨v11, hvv11, e⟩ := zb_bind e
        refine Wp.ca (m := 7) (d1 := d + 3) (as := [.ref 25, .int x7]) (rest := []) (st1 := [.int (zb_i v11)]) (pc1 := 77) rfl rfl rfl rfl rfl rfl rfl rfl (mk_rok rfl rfl rfl rfl) rfl rfl rfl (w_7 (sc := sc) (d := d) x7 g hvv11) ?_
        rcases zb_if e with ⟨hc12, e⟩ | ⟨hc12, e⟩
        · skip
          refine Wp.iF (pc1 := 80) rfl (zb_eqF hc12) rfl ?_
          refine Wp.steps 1 (pc1 := 81) (lo1 := [some (.ref 0), some (.int x1), some (.int x2), some (.int x3), some (.int x4), some (.int x5), some (.int x6), some (.int x7), some (.int v9)]) (st1 := [.ref 0]) (h1 := mk g) rfl ?_
          refine Wp.gf (pc1 := 84) (v := .ref 1) rfl rfl rfl rfl rfl ?_
          refine Wp.steps 3 (pc1 := 88) (lo1 := [some (.ref 0), some (.int x1), some (.int x2), some (.int x3), some (.int x4), some (.int x5), some (.int x6), some (.int x7), some (.int v9)]) (st1 := [.int x7, .int x3, .int x1, .ref 1]) (h1 := mk g) rfl ?_
          obtain ⟨v13, hvv13, e⟩ := zb_bind e
          refine Wp.ca (m := 24) (d1 := d + 3) (as := [.ref 1, .int x1, .int x3, .int x7]) (rest := []) (st1 := [.int v13]) (pc1 := 91) rfl rfl rfl rfl rfl rfl rfl rfl (mk_rok rfl rfl rfl rfl) rfl rfl rfl (w_24 (sc := sc) (d := d + 1) 1 x1 x3 x7 rfl g hvv13) ?_
          refine Wp.steps 1 (pc1 := 92) (lo1 := [some (.ref 0), some (.int x1), some (.int x2), some (.int x3), some (.int x4), some (.int x5), some (.int x6), some (.int x7), some (.int v9)]) (st1 := [.int x2, .int v13]) (h1 := mk g) rfl ?_
          obtain ⟨v14, hvv14, e⟩ := zb_let e
          refine Wp.ca (m := 90) (d1 := d + 3) (as := [.int v13, .int x2]) (rest := []) (st1 := [.int (zb_i v14)]) (pc1 := 95) rfl rfl rfl rfl rfl rfl rfl rfl rfl rfl rfl rfl (w_90 (sc := sc) (d := d + 3) v13 x2 g hvv14) ?_
          rcases zb_if e with ⟨hc15, e⟩ | ⟨hc15, e⟩
          · skip
            refine Wp.iF (pc1 := 98) rfl (zb_eqF hc15) rfl ?_
            refine Wp.steps 6 (pc1 := 42) (lo1 := [some (.ref 0), some (.int x1), some (.int x2), some (.int x3), some (.int x4), some (.int x7), some (.int v9), some (.int (x7 + 1)), some (.int v9)]) (st1 := []) (h1 := mk g) rfl ?_
            refine Wp.fg [some (.ref 0), some (.int x1), some (.int x2), some (.int x3), some (.int x4), some (.int x7), some (.int v9), some (.int (x7 + 1)), none] (zm_lle_s (zm_lle_s (zm_lle_s (zm_lle_s (zm_lle_s (zm_lle_s (zm_lle_s (zm_lle_s (zm_lle_n zm_lle_0))))))))) ?_
            exact ih _ _ _ _ _ e Q K
          · skip
            refine Wp.iT (pc1 := 106) rfl (zb_eqT hc15) rfl ?_
            refine Wp.steps 2 (pc1 := 42) (lo1 := [some (.ref 0), some (.int x1), some (.int x2), some (.int x3), some (.int x4), some (.int x5), some (.int x6), some (.int (x7 + 1)), some (.int v9)]) (st1 := []) (h1 := mk g) rfl ?_
            refine Wp.fg [some (.ref 0), some (.int x1), some (.int x2), some (.int x3), some (.int x4), some (.int x5), some (.int x6), some (.int (x7 + 1)), none] (zm_lle_s (zm_lle_s (zm_lle_s (zm_lle_s (zm_lle_s (zm_lle_s (zm_lle_s (zm_lle_s (zm_lle_n zm_lle_0))))))))) ?_
            exact ih _ _ _ _ _ e Q K
        · skip
          refine Wp.iT (pc1 := 106) rfl (zb_eqT hc12) rfl ?_
          refine Wp.steps 2 (pc1 := 42) (lo1 := [some (.ref 0), some (.int x1), some (.int x2), some (.int x3), some (.int x4), some (.int x5), some (.int x6), some (.int (x7 + 1)), some (.int v9)]) (st1 := []) (h1 := mk g) rfl ?_
          refine Wp.fg [some (.ref 0), some (.int x1), some (.int x2), some (.int x3), some (.int x4), some (.int x5), some (.int x6), some (.int (x7 + 1)), none] (zm_lle_s (zm_lle_s (zm_lle_s (zm_lle_s (zm_lle_s (zm_lle_s (zm_lle_s (zm_lle_s (zm_lle_n zm_lle_0))))))))) ?_
          exact ih _ _ _ _ _ e Q K
/-- EveningFirst.reach(IIII)I -/
def d_74 (x1 : Int32) (x2 : Int32) (x3 : Int32) (x4 : Int32) (g : G) : Option (Int32 × G) :=
  zb_l (d_96 x1 x2 x3 g) fun v1 =>
  bif v1 then (
    some ((-1), g)) else
  zb_l (d_95 x4) fun v3 =>
  bif v3 then (
    some ((-1), g)) else
  Option.bind (d_2 1 g) fun g5 =>
  d_74_42 x1 x2 x3 x4 g5 300 (-4) 9 0
set_option maxRecDepth 100000 in
set_option maxHeartbeats 4000000 in
theorem w_74 {sc : Option (List Int32)} {d : Nat} (x1 : Int32) (x2 : Int32) (x3 : Int32) (x4 : Int32) (g : G) {r : Int32} {g' : G} (e : d_74 x1 x2 x3 x4 g = some (r, g')) : zB sc (d + 4) 74 0 (zm_ent (z_L 74) [.ref 0, .int x1, .int x2, .int x3, .int x4]) [] (mk g) [.int r] (mk g') := by
  unfold d_74 at e
  intro Q K
  show Wp sc (d + 4) 74 0 [some (.ref 0), some (.int x1), some (.int x2), some (.int x3), some (.int x4), none, none, none, none] [] (mk g) Q
  refine Wp.steps 4 (pc1 := 4) (lo1 := [some (.ref 0), some (.int x1), some (.int x2), some (.int x3), some (.int x4), none, none, none, none]) (st1 := [.int x3, .int x2, .int x1, .ref 0]) (h1 := mk g) rfl ?_
  obtain ⟨v1, hvv1, e⟩ := zb_let e
  refine Wp.ca (m := 96) (d1 := d + 3) (as := [.ref 0, .int x1, .int x2, .int x3]) (rest := []) (st1 := [.int (zb_i v1)]) (pc1 := 7) rfl rfl rfl rfl rfl rfl rfl rfl (mk_rok rfl rfl rfl rfl) rfl rfl rfl (w_96 (sc := sc) (d := d + 2) x1 x2 x3 g hvv1) ?_
  rcases zb_if e with ⟨hc2, e⟩ | ⟨hc2, e⟩
  · skip
    refine Wp.iT (pc1 := 18) rfl (zb_neT hc2) rfl ?_
    refine Wp.steps 1 (pc1 := 19) (lo1 := [some (.ref 0), some (.int x1), some (.int x2), some (.int x3), some (.int x4), none, none, none, none]) (st1 := [.int (-1)]) (h1 := mk g) rfl ?_
    obtain ⟨e1, e2⟩ := zb_r2 e
    subst e1
    subst e2
    exact Wp.ret rfl rfl rfl (K _)
  · skip
    refine Wp.iF (pc1 := 10) rfl (zb_neF hc2) rfl ?_
    refine Wp.steps 1 (pc1 := 12) (lo1 := [some (.ref 0), some (.int x1), some (.int x2), some (.int x3), some (.int x4), none, none, none, none]) (st1 := [.int x4]) (h1 := mk g) rfl ?_
    obtain ⟨v3, hvv3, e⟩ := zb_let e
    refine Wp.ca (m := 95) (d1 := d + 3) (as := [.int x4]) (rest := []) (st1 := [.int (zb_i v3)]) (pc1 := 15) rfl rfl rfl rfl rfl rfl rfl rfl rfl rfl rfl rfl (w_95 (sc := sc) (d := d + 3) x4 g hvv3) ?_
    rcases zb_if e with ⟨hc4, e⟩ | ⟨hc4, e⟩
    · skip
      refine Wp.iF (pc1 := 18) rfl (zb_eqF hc4) rfl ?_
      refine Wp.steps 1 (pc1 := 19) (lo1 := [some (.ref 0), some (.int x1), some (.int x2), some (.int x3), some (.int x4), none, none, none, none]) (st1 := [.int (-1)]) (h1 := mk g) rfl ?_
      obtain ⟨e1, e2⟩ := zb_r2 e
      subst e1
      subst e2
      exact Wp.ret rfl rfl rfl (K _)
    · skip
      refine Wp.iT (pc1 := 20) rfl (zb_eqT hc4) rfl ?_
      refine Wp.steps 1 (pc1 := 21) (lo1 := [some (.ref 0), some (.int x1), some (.int x2), some (.int x3), some (.int x4), none, none, none, none]) (st1 := [.ref 0]) (h1 := mk g) rfl ?_
      refine Wp.gf (pc1 := 24) (v := .ref 25) rfl rfl rfl rfl rfl ?_
      refine Wp.steps 1 (pc1 := 25) (lo1 := [some (.ref 0), some (.int x1), some (.int x2), some (.int x3), some (.int x4), none, none, none, none]) (st1 := [.ref 0, .ref 25]) (h1 := mk g) rfl ?_
      refine Wp.gf (pc1 := 28) (v := .ref 1) rfl rfl rfl rfl rfl ?_
      obtain ⟨g5, hvg5, e⟩ := zb_bind e
      refine Wp.ca (m := 2) (d1 := d + 3) (as := [.ref 25, .ref 1]) (rest := []) (st1 := []) (pc1 := 31) rfl rfl rfl rfl rfl rfl rfl rfl (mk_rok rfl rfl rfl rfl) rfl rfl rfl (w_2 (sc := sc) (d := d) 1 rfl g hvg5) ?_
      refine Wp.steps 6 (pc1 := 42) (lo1 := [some (.ref 0), some (.int x1), some (.int x2), some (.int x3), some (.int x4), some (.int (-4)), some (.int 9), some (.int 0), none]) (st1 := []) (h1 := mk g5) rfl ?_
      exact w_74_42 (sc := sc) (d := d) x1 x2 x3 x4 g5 300 (-4) 9 0 _ _ e Q K
