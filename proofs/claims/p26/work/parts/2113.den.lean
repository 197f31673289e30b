/-! printed by wip/tools/den.py -/
/-- EveningFirstModel.lacksBy(II)I -/
def d_151 (x1 : Int32) (x2 : Int32) (g : G) : Option Int32 :=
  Option.bind (d_136 x1 4 g) fun v1 =>
  Option.bind (d_136 x1 1 g) fun v2 =>
  Option.bind (d_136 x1 0 g) fun v3 =>
  Option.bind (d_150 v2 v3 x2 g) fun v4 =>
  some (v1 &&& (v4 ^^^ (-1)))
set_option maxRecDepth 100000 in
set_option maxHeartbeats 4000000 in
theorem w_151 {sc : Option (List Int32)} {d : Nat} (x1 : Int32) (x2 : Int32) (g : G) {r : Int32} (e : d_151 x1 x2 g = some r) : zB sc (d + 2) 151 0 (zm_ent (z_L 151) [.ref 113, .int x1, .int x2]) [] (mk g) [.int r] (mk g) := by
  unfold d_151 at e
  intro Q K
  show Wp sc (d + 2) 151 0 [some (.ref 113), some (.int x1), some (.int x2)] [] (mk g) Q
  refine Wp.steps 3 (pc1 := 3) (lo1 := [some (.ref 113), some (.int x1), some (.int x2)]) (st1 := [.int 4, .int x1, .ref 113]) (h1 := mk g) rfl ?_
  obtain ⟨v1, hvv1, e⟩ := zb_bind e
  refine Wp.ca (m := 136) (d1 := d + 1) (as := [.ref 113, .int x1, .int 4]) (rest := []) (st1 := [.int v1]) (pc1 := 6) rfl rfl rfl rfl rfl rfl rfl rfl (mk_rok rfl rfl rfl rfl) rfl rfl rfl (w_136 (sc := sc) (d := d + 1) x1 4 g hvv1) ?_
  refine Wp.steps 4 (pc1 := 10) (lo1 := [some (.ref 113), some (.int x1), some (.int x2)]) (st1 := [.int 1, .int x1, .ref 113, .ref 113, .int v1]) (h1 := mk g) rfl ?_
  obtain ⟨v2, hvv2, e⟩ := zb_bind e
  refine Wp.ca (m := 136) (d1 := d + 1) (as := [.ref 113, .int x1, .int 1]) (rest := [.ref 113, .int v1]) (st1 := [.int v2, .ref 113, .int v1]) (pc1 := 13) rfl rfl rfl rfl rfl rfl rfl rfl (mk_rok rfl rfl rfl rfl) rfl rfl rfl (w_136 (sc := sc) (d := d + 1) x1 1 g hvv2) ?_
  refine Wp.steps 3 (pc1 := 16) (lo1 := [some (.ref 113), some (.int x1), some (.int x2)]) (st1 := [.int 0, .int x1, .ref 113, .int v2, .ref 113, .int v1]) (h1 := mk g) rfl ?_
  obtain ⟨v3, hvv3, e⟩ := zb_bind e
  refine Wp.ca (m := 136) (d1 := d + 1) (as := [.ref 113, .int x1, .int 0]) (rest := [.int v2, .ref 113, .int v1]) (st1 := [.int v3, .int v2, .ref 113, .int v1]) (pc1 := 19) rfl rfl rfl rfl rfl rfl rfl rfl (mk_rok rfl rfl rfl rfl) rfl rfl rfl (w_136 (sc := sc) (d := d + 1) x1 0 g hvv3) ?_
  refine Wp.steps 1 (pc1 := 20) (lo1 := [some (.ref 113), some (.int x1), some (.int x2)]) (st1 := [.int x2, .int v3, .int v2, .ref 113, .int v1]) (h1 := mk g) rfl ?_
  obtain ⟨v4, hvv4, e⟩ := zb_bind e
  refine Wp.ca (m := 150) (d1 := d + 1) (as := [.ref 113, .int v2, .int v3, .int x2]) (rest := [.int v1]) (st1 := [.int v4, .int v1]) (pc1 := 23) rfl rfl rfl rfl rfl rfl rfl rfl (mk_rok rfl rfl rfl rfl) rfl rfl rfl (w_150 (sc := sc) (d := d) v2 v3 x2 g hvv4) ?_
  refine Wp.steps 3 (pc1 := 26) (lo1 := [some (.ref 113), some (.int x1), some (.int x2)]) (st1 := [.int (v1 &&& (v4 ^^^ (-1)))]) (h1 := mk g) rfl ?_
  have e1 := zb_r1 e
  subst e1
  exact Wp.ret rfl rfl rfl (K _)
def d_152_4 (x1 : Int32) (g : G) : Nat → Bool → Int32 → Option Bool
  | 0, _, _ => none
  | f + 1, x2, x3 =>
    bif zm_cmp .ge x3 (g 114 8) then (
      some x2) else
    bif x2 then (
      bif zm_cmp .eq ((x1 >>> (x3 &&& 31)) &&& 1) 0 then (
        d_152_4 x1 g f true (x3 + 1)) else
      Option.bind (d_151 x3 x1 g) fun v4 =>
      bif zm_cmp .ne v4 0 then (
        d_152_4 x1 g f false (x3 + 1)) else
      d_152_4 x1 g f true (x3 + 1)) else
    d_152_4 x1 g f false (x3 + 1)
set_option maxRecDepth 100000 in
set_option maxHeartbeats 4000000 in
theorem w_152_4 {sc : Option (List Int32)} {d : Nat} (x1 : Int32) (g : G) : ∀ (f : Nat) (x2 : Bool) (x3 : Int32) (r : Bool), d_152_4 x1 g f x2 x3 = some r → zB sc (d + 3) 152 4 [some (.ref 113), some (.int x1), some (.int (zb_i x2)), some (.int x3)] [] (mk g) [.int (zb_i r)] (mk g) := by
  intro f
  induction f with
  | zero =>
    intro x2 x3 r e
    rw [d_152_4.eq_1] at e
    cases e
  | succ f ih =>
    intro x2 x3 r e
    rw [d_152_4.eq_2] at e
    intro Q K
    refine Wp.steps 2 (pc1 := 6) (lo1 := [some (.ref 113), some (.int x1), some (.int (zb_i x2)), some (.int x3)]) (st1 := [.ref 113, .int x3]) (h1 := mk g) rfl ?_
    refine Wp.gf (pc1 := 9) (v := .ref 114) rfl rfl rfl rfl rfl ?_
    refine Wp.steps 1 (pc1 := 11) (lo1 := [some (.ref 113), some (.int x1), some (.int (zb_i x2)), some (.int x3)]) (st1 := [.int 8, .ref 114, .int x3]) (h1 := mk g) rfl ?_
    refine Wp.ia (pc1 := 12) (k := 8) rfl rfl rfl rfl rfl ?_
    rcases zb_if e with ⟨hc1, e⟩ | ⟨hc1, e⟩
    · skip
      refine Wp.cT (pc1 := 48) rfl hc1 rfl ?_
      refine Wp.steps 1 (pc1 := 49) (lo1 := [some (.ref 113), some (.int x1), some (.int (zb_i x2)), some (.int x3)]) (st1 := [.int (zb_i x2)]) (h1 := mk g) rfl ?_
      have e1 := zb_r1 e
      subst e1
      exact Wp.ret rfl rfl (zb_ok _) (K _)
    · skip
      refine Wp.cF (pc1 := 15) rfl hc1 rfl ?_
      refine Wp.steps 1 (pc1 := 16) (lo1 := [some (.ref 113), some (.int x1), some (.int (zb_i x2)), some (.int x3)]) (st1 := [.int (zb_i x2)]) (h1 := mk g) rfl ?_
      rcases zb_if e with ⟨hc2, e⟩ | ⟨hc2, e⟩
      · skip
        refine Wp.iF (pc1 := 19) rfl (zb_eqF hc2) rfl ?_
        refine Wp.steps 5 (pc1 := 24) (lo1 := [some (.ref 113), some (.int x1), some (.int (zb_i x2)), some (.int x3)]) (st1 := [.int ((x1 >>> (x3 &&& 31)) &&& 1)]) (h1 := mk g) rfl ?_
        rcases zb_if e with ⟨hc3, e⟩ | ⟨hc3, e⟩
        · skip
          refine Wp.iT (pc1 := 36) rfl hc3 rfl ?_
          refine Wp.steps 5 (pc1 := 4) (lo1 := [some (.ref 113), some (.int x1), some (.int 1), some (.int (x3 + 1))]) (st1 := []) (h1 := mk g) rfl ?_
          exact ih _ _ _ e Q K
        · skip
          refine Wp.iF (pc1 := 27) rfl hc3 rfl ?_
          refine Wp.steps 3 (pc1 := 30) (lo1 := [some (.ref 113), some (.int x1), some (.int (zb_i x2)), some (.int x3)]) (st1 := [.int x1, .int x3, .ref 113]) (h1 := mk g) rfl ?_
          obtain ⟨v4, hvv4, e⟩ := zb_bind e
          refine Wp.ca (m := 151) (d1 := d + 2) (as := [.ref 113, .int x3, .int x1]) (rest := []) (st1 := [.int v4]) (pc1 := 33) rfl rfl rfl rfl rfl rfl rfl rfl (mk_rok rfl rfl rfl rfl) rfl rfl rfl (w_151 (sc := sc) (d := d) x3 x1 g hvv4) ?_
          rcases zb_if e with ⟨hc5, e⟩ | ⟨hc5, e⟩
          · skip
            refine Wp.iT (pc1 := 40) rfl hc5 rfl ?_
            refine Wp.steps 4 (pc1 := 4) (lo1 := [some (.ref 113), some (.int x1), some (.int 0), some (.int (x3 + 1))]) (st1 := []) (h1 := mk g) rfl ?_
            exact ih _ _ _ e Q K
          · skip
            refine Wp.iF (pc1 := 36) rfl hc5 rfl ?_
            refine Wp.steps 5 (pc1 := 4) (lo1 := [some (.ref 113), some (.int x1), some (.int 1), some (.int (x3 + 1))]) (st1 := []) (h1 := mk g) rfl ?_
            exact ih _ _ _ e Q K
      · skip
        refine Wp.iT (pc1 := 40) rfl (zb_eqT hc2) rfl ?_
        refine Wp.steps 4 (pc1 := 4) (lo1 := [some (.ref 113), some (.int x1), some (.int 0), some (.int (x3 + 1))]) (st1 := []) (h1 := mk g) rfl ?_
        exact ih _ _ _ e Q K
/-- EveningFirstModel.doesHang(I)Z -/
def d_152 (x1 : Int32) (g : G) : Option Bool :=
  d_152_4 x1 g 300 true 0
set_option maxRecDepth 100000 in
set_option maxHeartbeats 4000000 in
theorem w_152 {sc : Option (List Int32)} {d : Nat} (x1 : Int32) (g : G) {r : Bool} (e : d_152 x1 g = some r) : zB sc (d + 3) 152 0 (zm_ent (z_L 152) [.ref 113, .int x1]) [] (mk g) [.int (zb_i r)] (mk g) := by
  unfold d_152 at e
  intro Q K
  show Wp sc (d + 3) 152 0 [some (.ref 113), some (.int x1), none, none] [] (mk g) Q
  refine Wp.steps 4 (pc1 := 4) (lo1 := [some (.ref 113), some (.int x1), some (.int 1), some (.int 0)]) (st1 := []) (h1 := mk g) rfl ?_
  exact w_152_4 (sc := sc) (d := d) x1 g 300 true 0 _ e Q K
/-- EveningFirstModel.hangs(I)I -/
def d_154 (x1 : Int32) (g : G) : Option Int32 :=
  zb_l (d_135 x1 g) fun v1 =>
  bif v1 then (
    Option.bind (d_152 x1 g) fun v3 =>
    zb_l (d_108 (zb_i v3)) fun v4 =>
    some v4) else
  some (-1)
set_option maxRecDepth 100000 in
set_option maxHeartbeats 4000000 in
theorem w_154 {sc : Option (List Int32)} {d : Nat} (x1 : Int32) (g : G) {r : Int32} (e : d_154 x1 g = some r) : zB sc (d + 4) 154 0 (zm_ent (z_L 154) [.ref 113, .int x1]) [] (mk g) [.int r] (mk g) := by
  unfold d_154 at e
  intro Q K
  show Wp sc (d + 4) 154 0 [some (.ref 113), some (.int x1)] [] (mk g) Q
  refine Wp.steps 2 (pc1 := 2) (lo1 := [some (.ref 113), some (.int x1)]) (st1 := [.int x1, .ref 113]) (h1 := mk g) rfl ?_
  obtain ⟨v1, hvv1, e⟩ := zb_let e
  refine Wp.ca (m := 135) (d1 := d + 3) (as := [.ref 113, .int x1]) (rest := []) (st1 := [.int (zb_i v1)]) (pc1 := 5) rfl rfl rfl rfl rfl rfl rfl rfl (mk_rok rfl rfl rfl rfl) rfl rfl rfl (w_135 (sc := sc) (d := d + 2) x1 g hvv1) ?_
  rcases zb_if e with ⟨hc2, e⟩ | ⟨hc2, e⟩
  · skip
    refine Wp.iF (pc1 := 8) rfl (zb_eqF hc2) rfl ?_
    refine Wp.steps 2 (pc1 := 10) (lo1 := [some (.ref 113), some (.int x1)]) (st1 := [.int x1, .ref 113]) (h1 := mk g) rfl ?_
    obtain ⟨v3, hvv3, e⟩ := zb_bind e
    refine Wp.ca (m := 152) (d1 := d + 3) (as := [.ref 113, .int x1]) (rest := []) (st1 := [.int (zb_i v3)]) (pc1 := 13) rfl rfl rfl rfl rfl rfl rfl rfl (mk_rok rfl rfl rfl rfl) rfl rfl rfl (w_152 (sc := sc) (d := d) x1 g hvv3) ?_
    obtain ⟨v4, hvv4, e⟩ := zb_let e
    refine Wp.ca (m := 108) (d1 := d + 3) (as := [.int (zb_i v3)]) (rest := []) (st1 := [.int v4]) (pc1 := 16) rfl rfl rfl rfl rfl rfl rfl rfl rfl rfl rfl rfl (w_108 (sc := sc) (d := d + 3) (zb_i v3) g hvv4) ?_
    refine Wp.steps 1 (pc1 := 20) (lo1 := [some (.ref 113), some (.int x1)]) (st1 := [.int v4]) (h1 := mk g) rfl ?_
    have e1 := zb_r1 e
    subst e1
    exact Wp.ret rfl rfl rfl (K _)
  · skip
    refine Wp.iT (pc1 := 19) rfl (zb_eqT hc2) rfl ?_
    refine Wp.steps 1 (pc1 := 20) (lo1 := [some (.ref 113), some (.int x1)]) (st1 := [.int (-1)]) (h1 := mk g) rfl ?_
    have e1 := zb_r1 e
    subst e1
    exact Wp.ret rfl rfl rfl (K _)
/-- EveningFirst.isNoHalf(I)Z -/
def d_95 (x0 : Int32) : Bool :=
  bif zm_cmp .eq x0 0 then (
    false) else
  bif zm_cmp .eq x0 1 then (
    false) else
  true
set_option maxRecDepth 100000 in
set_option maxHeartbeats 4000000 in
theorem w_95 {sc : Option (List Int32)} {d : Nat} (x0 : Int32) (g : G) {r : Bool} (e : d_95 x0 = r) : zB sc (d) 95 0 (zm_ent (z_L 95) [.int x0]) [] (mk g) [.int (zb_i r)] (mk g) := by
  unfold d_95 at e
  intro Q K
  show Wp sc (d) 95 0 [some (.int x0)] [] (mk g) Q
  refine Wp.steps 1 (pc1 := 1) (lo1 := [some (.int x0)]) (st1 := [.int x0]) (h1 := mk g) rfl ?_
  rcases zb_if e with ⟨hc1, e⟩ | ⟨hc1, e⟩
  · skip
    refine Wp.iT (pc1 := 13) rfl hc1 rfl ?_
    refine Wp.steps 1 (pc1 := 14) (lo1 := [some (.int x0)]) (st1 := [.int 0]) (h1 := mk g) rfl ?_
    have e1 := e
    subst e1
    exact Wp.ret rfl rfl rfl (K _)
  · skip
    refine Wp.iF (pc1 := 4) rfl hc1 rfl ?_
    refine Wp.steps 2 (pc1 := 6) (lo1 := [some (.int x0)]) (st1 := [.int 1, .int x0]) (h1 := mk g) rfl ?_
    rcases zb_if e with ⟨hc2, e⟩ | ⟨hc2, e⟩
    · skip
      refine Wp.cT (pc1 := 13) rfl hc2 rfl ?_
      refine Wp.steps 1 (pc1 := 14) (lo1 := [some (.int x0)]) (st1 := [.int 0]) (h1 := mk g) rfl ?_
      have e1 := e
      subst e1
      exact Wp.ret rfl rfl rfl (K _)
    · skip
      refine Wp.cF (pc1 := 9) rfl hc2 rfl ?_
      refine Wp.steps 2 (pc1 := 14) (lo1 := [some (.int x0)]) (st1 := [.int 1]) (h1 := mk g) rfl ?_
      have e1 := e
      subst e1
      exact Wp.ret rfl rfl rfl (K _)
def d_189_49 (x0 : Int32) (x1 : Int32) (g : G) : Int32 :=
  bif zm_cmp .le x0 16 then (
    bif zm_cmp .le x0 4 then (
      (x1 + ((Int32.toUInt32 x0 >>> (Int32.toUInt32 1 &&& Int32.toUInt32 31)).toInt32))) else
    ((x1 + 2) + ((Int32.toUInt32 ((Int32.toUInt32 x0 >>> (Int32.toUInt32 2 &&& Int32.toUInt32 31)).toInt32) >>> (Int32.toUInt32 1 &&& Int32.toUInt32 31)).toInt32))) else
  bif zm_cmp .le ((Int32.toUInt32 x0 >>> (Int32.toUInt32 4 &&& Int32.toUInt32 31)).toInt32) 4 then (
    ((x1 + 4) + ((Int32.toUInt32 ((Int32.toUInt32 x0 >>> (Int32.toUInt32 4 &&& Int32.toUInt32 31)).toInt32) >>> (Int32.toUInt32 1 &&& Int32.toUInt32 31)).toInt32))) else
  (((x1 + 4) + 2) + ((Int32.toUInt32 ((Int32.toUInt32 ((Int32.toUInt32 x0 >>> (Int32.toUInt32 4 &&& Int32.toUInt32 31)).toInt32) >>> (Int32.toUInt32 2 &&& Int32.toUInt32 31)).toInt32) >>> (Int32.toUInt32 1 &&& Int32.toUInt32 31)).toInt32))
set_option maxRecDepth 100000 in
set_option maxHeartbeats 4000000 in
theorem w_189_49 {sc : Option (List Int32)} {d : Nat} (x0 : Int32) (x1 : Int32) (g : G) (r : Int32) (e : d_189_49 x0 x1 g = r) : zB sc (d) 189 49 [some (.int x0), some (.int x1)] [] (mk g) [.int r] (mk g) := by
  unfold d_189_49 at e
  intro Q K
  refine Wp.steps 2 (pc1 := 52) (lo1 := [some (.int x0), some (.int x1)]) (st1 := [.int 16, .int x0]) (h1 := mk g) rfl ?_
  rcases zb_if e with ⟨hc4, e⟩ | ⟨hc4, e⟩
  · skip
    refine Wp.cT (pc1 := 62) rfl hc4 rfl ?_
    refine Wp.steps 2 (pc1 := 64) (lo1 := [some (.int x0), some (.int x1)]) (st1 := [.int 4, .int x0]) (h1 := mk g) rfl ?_
    rcases zb_if e with ⟨hc5, e⟩ | ⟨hc5, e⟩
    · skip
      refine Wp.cT (pc1 := 74) rfl hc5 rfl ?_
      refine Wp.steps 5 (pc1 := 79) (lo1 := [some (.int x0), some (.int x1)]) (st1 := [.int (x1 + ((Int32.toUInt32 x0 >>> (Int32.toUInt32 1 &&& Int32.toUInt32 31)).toInt32))]) (h1 := mk g) rfl ?_
      have e1 := e
      subst e1
      exact Wp.ret rfl rfl rfl (K _)
    · skip
      refine Wp.cF (pc1 := 67) rfl hc5 rfl ?_
      refine Wp.steps 8 (pc1 := 77) (lo1 := [some (.int ((Int32.toUInt32 x0 >>> (Int32.toUInt32 2 &&& Int32.toUInt32 31)).toInt32)), some (.int (x1 + 2))]) (st1 := [.int 1, .int ((Int32.toUInt32 x0 >>> (Int32.toUInt32 2 &&& Int32.toUInt32 31)).toInt32), .int (x1 + 2)]) (h1 := mk g) rfl ?_
      refine Wp.steps 2 (pc1 := 79) (lo1 := [some (.int ((Int32.toUInt32 x0 >>> (Int32.toUInt32 2 &&& Int32.toUInt32 31)).toInt32)), some (.int (x1 + 2))]) (st1 := [.int ((x1 + 2) + ((Int32.toUInt32 ((Int32.toUInt32 x0 >>> (Int32.toUInt32 2 &&& Int32.toUInt32 31)).toInt32) >>> (Int32.toUInt32 1 &&& Int32.toUInt32 31)).toInt32))]) (h1 := mk g) rfl ?_
      have e1 := e
      subst e1
      exact Wp.ret rfl rfl rfl (K _)
  · skip
    refine Wp.cF (pc1 := 55) rfl hc4 rfl ?_
    refine Wp.steps 7 (pc1 := 64) (lo1 := [some (.int ((Int32.toUInt32 x0 >>> (Int32.toUInt32 4 &&& Int32.toUInt32 31)).toInt32)), some (.int (x1 + 4))]) (st1 := [.int 4, .int ((Int32.toUInt32 x0 >>> (Int32.toUInt32 4 &&& Int32.toUInt32 31)).toInt32)]) (h1 := mk g) rfl ?_
    rcases zb_if e with ⟨hc6, e⟩ | ⟨hc6, e⟩
    · skip
      refine Wp.cT (pc1 := 74) rfl hc6 rfl ?_
      refine Wp.steps 5 (pc1 := 79) (lo1 := [some (.int ((Int32.toUInt32 x0 >>> (Int32.toUInt32 4 &&& Int32.toUInt32 31)).toInt32)), some (.int (x1 + 4))]) (st1 := [.int ((x1 + 4) + ((Int32.toUInt32 ((Int32.toUInt32 x0 >>> (Int32.toUInt32 4 &&& Int32.toUInt32 31)).toInt32) >>> (Int32.toUInt32 1 &&& Int32.toUInt32 31)).toInt32))]) (h1 := mk g) rfl ?_
      have e1 := e
      subst e1
      exact Wp.ret rfl rfl rfl (K _)
    · skip
      refine Wp.cF (pc1 := 67) rfl hc6 rfl ?_
      refine Wp.steps 8 (pc1 := 77) (lo1 := [some (.int ((Int32.toUInt32 ((Int32.toUInt32 x0 >>> (Int32.toUInt32 4 &&& Int32.toUInt32 31)).toInt32) >>> (Int32.toUInt32 2 &&& Int32.toUInt32 31)).toInt32)), some (.int ((x1 + 4) + 2))]) (st1 := [.int 1, .int ((Int32.toUInt32 ((Int32.toUInt32 x0 >>> (Int32.toUInt32 4 &&& Int32.toUInt32 31)).toInt32) >>> (Int32.toUInt32 2 &&& Int32.toUInt32 31)).toInt32), .int ((x1 + 4) + 2)]) (h1 := mk g) rfl ?_
      refine Wp.steps 2 (pc1 := 79) (lo1 := [some (.int ((Int32.toUInt32 ((Int32.toUInt32 x0 >>> (Int32.toUInt32 4 &&& Int32.toUInt32 31)).toInt32) >>> (Int32.toUInt32 2 &&& Int32.toUInt32 31)).toInt32)), some (.int ((x1 + 4) + 2))]) (st1 := [.int (((x1 + 4) + 2) + ((Int32.toUInt32 ((Int32.toUInt32 ((Int32.toUInt32 x0 >>> (Int32.toUInt32 4 &&& Int32.toUInt32 31)).toInt32) >>> (Int32.toUInt32 2 &&& Int32.toUInt32 31)).toInt32) >>> (Int32.toUInt32 1 &&& Int32.toUInt32 31)).toInt32))]) (h1 := mk g) rfl ?_
      have e1 := e
      subst e1
      exact Wp.ret rfl rfl rfl (K _)
/-- java/lang/Integer.numberOfTrailingZeros(I)I -/
def d_189 (x0 : Int32) (g : G) : Int32 :=
  bif zm_cmp .gt ((x0 ^^^ (-1)) &&& (x0 - 1)) 0 then (
    bif zm_cmp .le ((x0 ^^^ (-1)) &&& (x0 - 1)) 65536 then (
      bif zm_cmp .le ((x0 ^^^ (-1)) &&& (x0 - 1)) 256 then (
        d_189_49 ((x0 ^^^ (-1)) &&& (x0 - 1)) 1 g) else
      d_189_49 ((Int32.toUInt32 ((x0 ^^^ (-1)) &&& (x0 - 1)) >>> (Int32.toUInt32 8 &&& Int32.toUInt32 31)).toInt32) 9 g) else
    bif zm_cmp .le ((Int32.toUInt32 ((x0 ^^^ (-1)) &&& (x0 - 1)) >>> (Int32.toUInt32 16 &&& Int32.toUInt32 31)).toInt32) 256 then (
      d_189_49 ((Int32.toUInt32 ((x0 ^^^ (-1)) &&& (x0 - 1)) >>> (Int32.toUInt32 16 &&& Int32.toUInt32 31)).toInt32) 17 g) else
    d_189_49 ((Int32.toUInt32 ((Int32.toUInt32 ((x0 ^^^ (-1)) &&& (x0 - 1)) >>> (Int32.toUInt32 16 &&& Int32.toUInt32 31)).toInt32) >>> (Int32.toUInt32 8 &&& Int32.toUInt32 31)).toInt32) 25 g) else
  (((x0 ^^^ (-1)) &&& (x0 - 1)) &&& 32)
set_option maxRecDepth 100000 in
set_option maxHeartbeats 4000000 in
theorem w_189 {sc : Option (List Int32)} {d : Nat} (x0 : Int32) (g : G) {r : Int32} (e : d_189 x0 g = r) : zB sc (d) 189 0 (zm_ent (z_L 189) [.int x0]) [] (mk g) [.int r] (mk g) := by
  unfold d_189 at e
  intro Q K
  show Wp sc (d) 189 0 [some (.int x0), none] [] (mk g) Q
  refine Wp.steps 8 (pc1 := 8) (lo1 := [some (.int ((x0 ^^^ (-1)) &&& (x0 - 1))), none]) (st1 := []) (h1 := mk g) rfl ?_
  refine Wp.steps 1 (pc1 := 9) (lo1 := [some (.int ((x0 ^^^ (-1)) &&& (x0 - 1))), none]) (st1 := [.int ((x0 ^^^ (-1)) &&& (x0 - 1))]) (h1 := mk g) rfl ?_
  rcases zb_if e with ⟨hc1, e⟩ | ⟨hc1, e⟩
  · skip
    refine Wp.iT (pc1 := 17) rfl hc1 rfl ?_
    refine Wp.steps 4 (pc1 := 23) (lo1 := [some (.int ((x0 ^^^ (-1)) &&& (x0 - 1))), some (.int 1)]) (st1 := [.int 65536, .int ((x0 ^^^ (-1)) &&& (x0 - 1))]) (h1 := mk g) rfl ?_
    rcases zb_if e with ⟨hc2, e⟩ | ⟨hc2, e⟩
    · skip
      refine Wp.cT (pc1 := 34) rfl hc2 rfl ?_
      refine Wp.steps 2 (pc1 := 38) (lo1 := [some (.int ((x0 ^^^ (-1)) &&& (x0 - 1))), some (.int 1)]) (st1 := [.int 256, .int ((x0 ^^^ (-1)) &&& (x0 - 1))]) (h1 := mk g) rfl ?_
      rcases zb_if e with ⟨hc3, e⟩ | ⟨hc3, e⟩
      · skip
        refine Wp.cT (pc1 := 49) rfl hc3 rfl ?_
        exact w_189_49 (sc := sc) (d := d) ((x0 ^^^ (-1)) &&& (x0 - 1)) 1 g _ e Q K
      · skip
        refine Wp.cF (pc1 := 41) rfl hc3 rfl ?_
        refine Wp.steps 5 (pc1 := 49) (lo1 := [some (.int ((Int32.toUInt32 ((x0 ^^^ (-1)) &&& (x0 - 1)) >>> (Int32.toUInt32 8 &&& Int32.toUInt32 31)).toInt32)), some (.int 9)]) (st1 := []) (h1 := mk g) rfl ?_
        exact w_189_49 (sc := sc) (d := d) ((Int32.toUInt32 ((x0 ^^^ (-1)) &&& (x0 - 1)) >>> (Int32.toUInt32 8 &&& Int32.toUInt32 31)).toInt32) 9 g _ e Q K
    · skip
      refine Wp.cF (pc1 := 26) rfl hc2 rfl ?_
      refine Wp.steps 7 (pc1 := 38) (lo1 := [some (.int ((Int32.toUInt32 ((x0 ^^^ (-1)) &&& (x0 - 1)) >>> (Int32.toUInt32 16 &&& Int32.toUInt32 31)).toInt32)), some (.int 17)]) (st1 := [.int 256, .int ((Int32.toUInt32 ((x0 ^^^ (-1)) &&& (x0 - 1)) >>> (Int32.toUInt32 16 &&& Int32.toUInt32 31)).toInt32)]) (h1 := mk g) rfl ?_
      rcases zb_if e with ⟨hc7, e⟩ | ⟨hc7, e⟩
      · skip
        refine Wp.cT (pc1 := 49) rfl hc7 rfl ?_
        exact w_189_49 (sc := sc) (d := d) ((Int32.toUInt32 ((x0 ^^^ (-1)) &&& (x0 - 1)) >>> (Int32.toUInt32 16 &&& Int32.toUInt32 31)).toInt32) 17 g _ e Q K
      · skip
        refine Wp.cF (pc1 := 41) rfl hc7 rfl ?_
        refine Wp.steps 5 (pc1 := 49) (lo1 := [some (.int ((Int32.toUInt32 ((Int32.toUInt32 ((x0 ^^^ (-1)) &&& (x0 - 1)) >>> (Int32.toUInt32 16 &&& Int32.toUInt32 31)).toInt32) >>> (Int32.toUInt32 8 &&& Int32.toUInt32 31)).toInt32)), some (.int 25)]) (st1 := []) (h1 := mk g) rfl ?_
        exact w_189_49 (sc := sc) (d := d) ((Int32.toUInt32 ((Int32.toUInt32 ((x0 ^^^ (-1)) &&& (x0 - 1)) >>> (Int32.toUInt32 16 &&& Int32.toUInt32 31)).toInt32) >>> (Int32.toUInt32 8 &&& Int32.toUInt32 31)).toInt32) 25 g _ e Q K
  · skip
    refine Wp.iF (pc1 := 12) rfl hc1 rfl ?_
    refine Wp.steps 3 (pc1 := 16) (lo1 := [some (.int ((x0 ^^^ (-1)) &&& (x0 - 1))), none]) (st1 := [.int (((x0 ^^^ (-1)) &&& (x0 - 1)) &&& 32)]) (h1 := mk g) rfl ?_
    have e1 := e
    subst e1
    exact Wp.ret rfl rfl rfl (K _)
def d_69_33 (x1 : Int32) (x2 : Int32) (g : G) : Nat → Int32 → Option (Int32 × G)
  | 0, _ => none
  | f + 1, x3 =>
    bif zm_cmp .ge x3 (g 1 2) then (
      some ((-4), g)) else
    zb_l (d_90 x1 x3) fun v7 =>
    bif v7 then (
      Option.bind (d_4 x3 x1 g) fun v9 =>
      bif zm_cmp .eq v9 0 then (
        d_69_33 x1 x2 g f (x3 + 1)) else
      bif zm_cmp .ne x2 0 then (
        zb_l (d_189 v9 g) fun v12 =>
        some (v12, g)) else
      some (x3, g)) else
    d_69_33 x1 x2 g f (x3 + 1)
set_option maxRecDepth 100000 in
set_option maxHeartbeats 4000000 in
theorem w_69_33 {sc : Option (List Int32)} {d : Nat} (x1 : Int32) (x2 : Int32) (g : G) : ∀ (f : Nat) (x3 : Int32) (r : Int32) (g' : G), d_69_33 x1 x2 g f x3 = some (r, g') → zB sc (d + 4) 69 33 [some (.ref 0), some (.int x1), some (.int x2), some (.int x3), none] [] (mk g) [.int r] (mk g') := by
  intro f
  induction f with
  | zero =>
    intro x3 r g' e
    rw [d_69_33.eq_1] at e
    cases e
  | succ f ih =>
    intro x3 r g' e
    rw [d_69_33.eq_2] at e
    intro Q K
    refine Wp.steps 2 (pc1 := 35) (lo1 := [some (.ref 0), some (.int x1), some (.int x2), some (.int x3), none]) (st1 := [.ref 0, .int x3]) (h1 := mk g) rfl ?_
    refine Wp.gf (pc1 := 38) (v := .ref 1) rfl rfl rfl rfl rfl ?_
    refine Wp.gf (pc1 := 41) (v := .int (g 1 2)) rfl rfl rfl rfl rfl ?_
    rcases zb_if e with ⟨hc6, e⟩ | ⟨hc6, e⟩
    · skip
      refine Wp.cT (pc1 := 92) rfl hc6 rfl ?_
      refine Wp.steps 1 (pc1 := 94) (lo1 := [some (.ref 0), some (.int x1), some (.int x2), some (.int x3), none]) (st1 := [.int (-4)]) (h1 := mk g) rfl ?_
      obtain ⟨e1, e2⟩ := zb_r2 e
      subst e1
      subst e2
      exact Wp.ret rfl rfl rfl (K _)
    · skip
      refine Wp.cF (pc1 := 44) rfl hc6 rfl ?_
      refine Wp.steps 2 (pc1 := 46) (lo1 := [some (.ref 0), some (.int x1), some (.int x2), some (.int x3), none]) (st1 := [.int x3, .int x1]) (h1 := mk g) rfl ?_
      obtain ⟨v7, hvv7, e⟩ := zb_let e
      refine Wp.ca (m := 90) (d1 := d + 3) (as := [.int x1, .int x3]) (rest := []) (st1 := [.int (zb_i v7)]) (pc1 := 49) rfl rfl rfl rfl rfl rfl rfl rfl rfl rfl rfl rfl (w_90 (sc := sc) (d := d + 3) x1 x3 g hvv7) ?_
      rcases zb_if e with ⟨hc8, e⟩ | ⟨hc8, e⟩
      · skip
        refine Wp.iF (pc1 := 52) rfl (zb_eqF hc8) rfl ?_
        refine Wp.steps 1 (pc1 := 53) (lo1 := [some (.ref 0), some (.int x1), some (.int x2), some (.int x3), none]) (st1 := [.ref 0]) (h1 := mk g) rfl ?_
        refine Wp.gf (pc1 := 56) (v := .ref 25) rfl rfl rfl rfl rfl ?_
        refine Wp.steps 2 (pc1 := 58) (lo1 := [some (.ref 0), some (.int x1), some (.int x2), some (.int x3), none]) (st1 := [.int x1, .int x3, .ref 25]) (h1 := mk g) rfl ?_
        obtain ⟨v9, hvv9, e⟩ := zb_bind e
        refine Wp.ca (m := 4) (d1 := d + 3) (as := [.ref 25, .int x3, .int x1]) (rest := []) (st1 := [.int v9]) (pc1 := 61) rfl rfl rfl rfl rfl rfl rfl rfl (mk_rok rfl rfl rfl rfl) rfl rfl rfl (w_4 (sc := sc) (d := d + 3) x3 x1 g hvv9) ?_
        refine Wp.steps 3 (pc1 := 69) (lo1 := [some (.ref 0), some (.int x1), some (.int x2), some (.int x3), some (.int v9)]) (st1 := [.int v9]) (h1 := mk g) rfl ?_
        rcases zb_if e with ⟨hc10, e⟩ | ⟨hc10, e⟩
        · skip
          refine Wp.iT (pc1 := 86) rfl hc10 rfl ?_
          refine Wp.steps 2 (pc1 := 33) (lo1 := [some (.ref 0), some (.int x1), some (.int x2), some (.int (x3 + 1)), some (.int v9)]) (st1 := []) (h1 := mk g) rfl ?_
          refine Wp.fg [some (.ref 0), some (.int x1), some (.int x2), some (.int (x3 + 1)), none] (zm_lle_s (zm_lle_s (zm_lle_s (zm_lle_s (zm_lle_n zm_lle_0))))) ?_
          exact ih _ _ _ e Q K
        · skip
          refine Wp.iF (pc1 := 72) rfl hc10 rfl ?_
          refine Wp.steps 1 (pc1 := 73) (lo1 := [some (.ref 0), some (.int x1), some (.int x2), some (.int x3), some (.int v9)]) (st1 := [.int x2]) (h1 := mk g) rfl ?_
          rcases zb_if e with ⟨hc11, e⟩ | ⟨hc11, e⟩
          · skip
            refine Wp.iT (pc1 := 80) rfl hc11 rfl ?_
            refine Wp.steps 1 (pc1 := 82) (lo1 := [some (.ref 0), some (.int x1), some (.int x2), some (.int x3), some (.int v9)]) (st1 := [.int v9]) (h1 := mk g) rfl ?_
            obtain ⟨v12, hvv12, e⟩ := zb_let e
            refine Wp.ca (m := 189) (d1 := d + 3) (as := [.int v9]) (rest := []) (st1 := [.int v12]) (pc1 := 85) rfl rfl rfl rfl rfl rfl rfl rfl rfl rfl rfl rfl (w_189 (sc := sc) (d := d + 3) v9 g hvv12) ?_
            obtain ⟨e1, e2⟩ := zb_r2 e
            subst e1
            subst e2
            exact Wp.ret rfl rfl rfl (K _)
          · skip
            refine Wp.iF (pc1 := 76) rfl hc11 rfl ?_
            refine Wp.steps 2 (pc1 := 85) (lo1 := [some (.ref 0), some (.int x1), some (.int x2), some (.int x3), some (.int v9)]) (st1 := [.int x3]) (h1 := mk g) rfl ?_
            obtain ⟨e1, e2⟩ := zb_r2 e
            subst e1
            subst e2
            exact Wp.ret rfl rfl rfl (K _)
      · skip
        refine Wp.iT (pc1 := 64) rfl (zb_eqT hc8) rfl ?_
        refine Wp.steps 6 (pc1 := 33) (lo1 := [some (.ref 0), some (.int x1), some (.int x2), some (.int (x3 + 1)), some (.int 0)]) (st1 := []) (h1 := mk g) rfl ?_
        refine Wp.fg [some (.ref 0), some (.int x1), some (.int x2), some (.int (x3 + 1)), none] (zm_lle_s (zm_lle_s (zm_lle_s (zm_lle_s (zm_lle_n zm_lle_0))))) ?_
        exact ih _ _ _ e Q K
/-- EveningFirst.lacks(II)I -/
def d_69 (x1 : Int32) (x2 : Int32) (g : G) : Option (Int32 × G) :=
  zb_l (d_21 1 x1 g) fun v1 =>
  bif v1 then (
    zb_l (d_95 x2) fun v3 =>
    bif v3 then (
      some ((-1), g)) else
    Option.bind (d_2 1 g) fun g5 =>
    d_69_33 x1 x2 g5 300 0) else
  some ((-1), g)
set_option maxRecDepth 100000 in
set_option maxHeartbeats 4000000 in
theorem w_69 {sc : Option (List Int32)} {d : Nat} (x1 : Int32) (x2 : Int32) (g : G) {r : Int32} {g' : G} (e : d_69 x1 x2 g = some (r, g')) : zB sc (d + 4) 69 0 (zm_ent (z_L 69) [.ref 0, .int x1, .int x2]) [] (mk g) [.int r] (mk g') := by
  unfold d_69 at e
  intro Q K
  show Wp sc (d + 4) 69 0 [some (.ref 0), some (.int x1), some (.int x2), none, none] [] (mk g) Q
  refine Wp.steps 1 (pc1 := 1) (lo1 := [some (.ref 0), some (.int x1), some (.int x2), none, none]) (st1 := [.ref 0]) (h1 := mk g) rfl ?_
  refine Wp.gf (pc1 := 4) (v := .ref 1) rfl rfl rfl rfl rfl ?_
  refine Wp.steps 1 (pc1 := 5) (lo1 := [some (.ref 0), some (.int x1), some (.int x2), none, none]) (st1 := [.int x1, .ref 1]) (h1 := mk g) rfl ?_
  obtain ⟨v1, hvv1, e⟩ := zb_let e
  refine Wp.ca (m := 21) (d1 := d + 3) (as := [.ref 1, .int x1]) (rest := []) (st1 := [.int (zb_i v1)]) (pc1 := 8) rfl rfl rfl rfl rfl rfl rfl rfl (mk_rok rfl rfl rfl rfl) rfl rfl rfl (w_21 (sc := sc) (d := d + 3) 1 x1 rfl g hvv1) ?_
  rcases zb_if e with ⟨hc2, e⟩ | ⟨hc2, e⟩
  · skip
    refine Wp.iF (pc1 := 11) rfl (zb_eqF hc2) rfl ?_
    refine Wp.steps 1 (pc1 := 12) (lo1 := [some (.ref 0), some (.int x1), some (.int x2), none, none]) (st1 := [.int x2]) (h1 := mk g) rfl ?_
    obtain ⟨v3, hvv3, e⟩ := zb_let e
    refine Wp.ca (m := 95) (d1 := d + 3) (as := [.int x2]) (rest := []) (st1 := [.int (zb_i v3)]) (pc1 := 15) rfl rfl rfl rfl rfl rfl rfl rfl rfl rfl rfl rfl (w_95 (sc := sc) (d := d + 3) x2 g hvv3) ?_
    rcases zb_if e with ⟨hc4, e⟩ | ⟨hc4, e⟩
    · skip
      refine Wp.iF (pc1 := 18) rfl (zb_eqF hc4) rfl ?_
      refine Wp.steps 1 (pc1 := 19) (lo1 := [some (.ref 0), some (.int x1), some (.int x2), none, none]) (st1 := [.int (-1)]) (h1 := mk g) rfl ?_
      obtain ⟨e1, e2⟩ := zb_r2 e
      subst e1
      subst e2
      exact Wp.ret rfl rfl rfl (K _)
    · skip
      refine Wp.iT (pc1 := 20) rfl (zb_eqT hc4) rfl ?_
      refine Wp.steps 1 (pc1 := 21) (lo1 := [some (.ref 0), some (.int x1), some (.int x2), none, none]) (st1 := [.ref 0]) (h1 := mk g) rfl ?_
      refine Wp.gf (pc1 := 24) (v := .ref 25) rfl rfl rfl rfl rfl ?_
      refine Wp.steps 1 (pc1 := 25) (lo1 := [some (.ref 0), some (.int x1), some (.int x2), none, none]) (st1 := [.ref 0, .ref 25]) (h1 := mk g) rfl ?_
      refine Wp.gf (pc1 := 28) (v := .ref 1) rfl rfl rfl rfl rfl ?_
      obtain ⟨g5, hvg5, e⟩ := zb_bind e
      refine Wp.ca (m := 2) (d1 := d + 3) (as := [.ref 25, .ref 1]) (rest := []) (st1 := []) (pc1 := 31) rfl rfl rfl rfl rfl rfl rfl rfl (mk_rok rfl rfl rfl rfl) rfl rfl rfl (w_2 (sc := sc) (d := d) 1 rfl g hvg5) ?_
      refine Wp.steps 2 (pc1 := 33) (lo1 := [some (.ref 0), some (.int x1), some (.int x2), some (.int 0), none]) (st1 := []) (h1 := mk g5) rfl ?_
      exact w_69_33 (sc := sc) (d := d) x1 x2 g5 300 0 _ _ e Q K
  · skip
    refine Wp.iT (pc1 := 18) rfl (zb_eqT hc2) rfl ?_
    refine Wp.steps 1 (pc1 := 19) (lo1 := [some (.ref 0), some (.int x1), some (.int x2), none, none]) (st1 := [.int (-1)]) (h1 := mk g) rfl ?_
    obtain ⟨e1, e2⟩ := zb_r2 e
    subst e1
    subst e2
    exact Wp.ret rfl rfl rfl (K _)
def d_155_2 (x0 : Int32) (g : G) : Nat → Int32 → Option Int32
  | 0, _ => none
  | f + 1, x1 =>
    bif zm_cmp .ne ((x0 >>> (x1 &&& 31)) &&& 1) 0 then (
      some x1) else
    d_155_2 x0 g f (x1 + 1)
set_option maxRecDepth 100000 in
set_option maxHeartbeats 4000000 in
theorem w_155_2 {sc : Option (List Int32)} {d : Nat} (x0 : Int32) (g : G) : ∀ (f : Nat) (x1 : Int32) (r : Int32), d_155_2 x0 g f x1 = some r → zB sc (d) 155 2 [some (.int x0), some (.int x1)] [] (mk g) [.int r] (mk g) := by
  intro f
  induction f with
  | zero =>
    intro x1 r e
    rw [d_155_2.eq_1] at e
    cases e
  | succ f ih =>
    intro x1 r e
    rw [d_155_2.eq_2] at e
    intro Q K
    refine Wp.steps 5 (pc1 := 7) (lo1 := [some (.int x0), some (.int x1)]) (st1 := [.int ((x0 >>> (x1 &&& 31)) &&& 1)]) (h1 := mk g) rfl ?_
    rcases zb_if e with ⟨hc1, e⟩ | ⟨hc1, e⟩
    · skip
      refine Wp.iT (pc1 := 16) rfl hc1 rfl ?_
      refine Wp.steps 1 (pc1 := 17) (lo1 := [some (.int x0), some (.int x1)]) (st1 := [.int x1]) (h1 := mk g) rfl ?_
      have e1 := zb_r1 e
      subst e1
      exact Wp.ret rfl rfl rfl (K _)
    · skip
      refine Wp.iF (pc1 := 10) rfl hc1 rfl ?_
      refine Wp.steps 2 (pc1 := 2) (lo1 := [some (.int x0), some (.int (x1 + 1))]) (st1 := []) (h1 := mk g) rfl ?_
      exact ih _ _ e Q K
/-- EveningFirstModel.lowestOf(I)I -/
def d_155 (x0 : Int32) (g : G) : Option Int32 :=
  d_155_2 x0 g 300 0
set_option maxRecDepth 100000 in
set_option maxHeartbeats 4000000 in
theorem w_155 {sc : Option (List Int32)} {d : Nat} (x0 : Int32) (g : G) {r : Int32} (e : d_155 x0 g = some r) : zB sc (d) 155 0 (zm_ent (z_L 155) [.int x0]) [] (mk g) [.int r] (mk g) := by
  unfold d_155 at e
  intro Q K
  show Wp sc (d) 155 0 [some (.int x0), none] [] (mk g) Q
  refine Wp.steps 2 (pc1 := 2) (lo1 := [some (.int x0), some (.int 0)]) (st1 := []) (h1 := mk g) rfl ?_
  exact w_155_2 (sc := sc) (d := d) x0 g 300 0 _ e Q K
def d_156_22 (x1 : Int32) (x2 : Int32) (g : G) : Nat → Int32 → Option Int32
  | 0, _ => none
  | f + 1, x3 =>
    bif zm_cmp .ge x3 (g 114 8) then (
      some (-4)) else
    bif zm_cmp .ne ((x1 >>> (x3 &&& 31)) &&& 1) 1 then (
      d_156_22 x1 x2 g f (x3 + 1)) else
    Option.bind (d_151 x3 x1 g) fun v7 =>
    bif zm_cmp .eq v7 0 then (
      d_156_22 x1 x2 g f (x3 + 1)) else
    bif zm_cmp .ne x2 0 then (
      Option.bind (d_155 v7 g) fun v10 =>
      some v10) else
    some x3
set_option maxRecDepth 100000 in
set_option maxHeartbeats 4000000 in
theorem w_156_22 {sc : Option (List Int32)} {d : Nat} (x1 : Int32) (x2 : Int32) (g : G) : ∀ (f : Nat) (x3 : Int32) (r : Int32), d_156_22 x1 x2 g f x3 = some r → zB sc (d + 3) 156 22 [some (.ref 113), some (.int x1), some (.int x2), some (.int x3), none] [] (mk g) [.int r] (mk g) := by
  intro f
  induction f with
  | zero =>
    intro x3 r e
    rw [d_156_22.eq_1] at e
    cases e
  | succ f ih =>
    intro x3 r e
    rw [d_156_22.eq_2] at e
    intro Q K
    refine Wp.steps 2 (pc1 := 24) (lo1 := [some (.ref 113), some (.int x1), some (.int x2), some (.int x3), none]) (st1 := [.ref 113, .int x3]) (h1 := mk g) rfl ?_
    refine Wp.gf (pc1 := 27) (v := .ref 114) rfl rfl rfl rfl rfl ?_
    refine Wp.steps 1 (pc1 := 29) (lo1 := [some (.ref 113), some (.int x1), some (.int x2), some (.int x3), none]) (st1 := [.int 8, .ref 114, .int x3]) (h1 := mk g) rfl ?_
    refine Wp.ia (pc1 := 30) (k := 8) rfl rfl rfl rfl rfl ?_
    rcases zb_if e with ⟨hc5, e⟩ | ⟨hc5, e⟩
    · skip
      refine Wp.cT (pc1 := 79) rfl hc5 rfl ?_
      refine Wp.steps 1 (pc1 := 81) (lo1 := [some (.ref 113), some (.int x1), some (.int x2), some (.int x3), none]) (st1 := [.int (-4)]) (h1 := mk g) rfl ?_
      have e1 := zb_r1 e
      subst e1
      exact Wp.ret rfl rfl rfl (K _)
    · skip
      refine Wp.cF (pc1 := 33) rfl hc5 rfl ?_
      refine Wp.steps 6 (pc1 := 39) (lo1 := [some (.ref 113), some (.int x1), some (.int x2), some (.int x3), none]) (st1 := [.int 1, .int ((x1 >>> (x3 &&& 31)) &&& 1)]) (h1 := mk g) rfl ?_
      rcases zb_if e with ⟨hc6, e⟩ | ⟨hc6, e⟩
      · skip
        refine Wp.cT (pc1 := 51) rfl hc6 rfl ?_
        refine Wp.steps 6 (pc1 := 22) (lo1 := [some (.ref 113), some (.int x1), some (.int x2), some (.int (x3 + 1)), some (.int 0)]) (st1 := []) (h1 := mk g) rfl ?_
        refine Wp.fg [some (.ref 113), some (.int x1), some (.int x2), some (.int (x3 + 1)), none] (zm_lle_s (zm_lle_s (zm_lle_s (zm_lle_s (zm_lle_n zm_lle_0))))) ?_
        exact ih _ _ e Q K
      · skip
        refine Wp.cF (pc1 := 42) rfl hc6 rfl ?_
        refine Wp.steps 3 (pc1 := 45) (lo1 := [some (.ref 113), some (.int x1), some (.int x2), some (.int x3), none]) (st1 := [.int x1, .int x3, .ref 113]) (h1 := mk g) rfl ?_
        obtain ⟨v7, hvv7, e⟩ := zb_bind e
        refine Wp.ca (m := 151) (d1 := d + 2) (as := [.ref 113, .int x3, .int x1]) (rest := []) (st1 := [.int v7]) (pc1 := 48) rfl rfl rfl rfl rfl rfl rfl rfl (mk_rok rfl rfl rfl rfl) rfl rfl rfl (w_151 (sc := sc) (d := d) x3 x1 g hvv7) ?_
        refine Wp.steps 3 (pc1 := 56) (lo1 := [some (.ref 113), some (.int x1), some (.int x2), some (.int x3), some (.int v7)]) (st1 := [.int v7]) (h1 := mk g) rfl ?_
        rcases zb_if e with ⟨hc8, e⟩ | ⟨hc8, e⟩
        · skip
          refine Wp.iT (pc1 := 73) rfl hc8 rfl ?_
          refine Wp.steps 2 (pc1 := 22) (lo1 := [some (.ref 113), some (.int x1), some (.int x2), some (.int (x3 + 1)), some (.int v7)]) (st1 := []) (h1 := mk g) rfl ?_
          refine Wp.fg [some (.ref 113), some (.int x1), some (.int x2), some (.int (x3 + 1)), none] (zm_lle_s (zm_lle_s (zm_lle_s (zm_lle_s (zm_lle_n zm_lle_0))))) ?_
          exact ih _ _ e Q K
        · skip
          refine Wp.iF (pc1 := 59) rfl hc8 rfl ?_
          refine Wp.steps 1 (pc1 := 60) (lo1 := [some (.ref 113), some (.int x1), some (.int x2), some (.int x3), some (.int v7)]) (st1 := [.int x2]) (h1 := mk g) rfl ?_
          rcases zb_if e with ⟨hc9, e⟩ | ⟨hc9, e⟩
          · skip
            refine Wp.iT (pc1 := 67) rfl hc9 rfl ?_
            refine Wp.steps 1 (pc1 := 69) (lo1 := [some (.ref 113), some (.int x1), some (.int x2), some (.int x3), some (.int v7)]) (st1 := [.int v7]) (h1 := mk g) rfl ?_
            obtain ⟨v10, hvv10, e⟩ := zb_bind e
            refine Wp.ca (m := 155) (d1 := d + 2) (as := [.int v7]) (rest := []) (st1 := [.int v10]) (pc1 := 72) rfl rfl rfl rfl rfl rfl rfl rfl rfl rfl rfl rfl (w_155 (sc := sc) (d := d + 2) v7 g hvv10) ?_
            have e1 := zb_r1 e
            subst e1
            exact Wp.ret rfl rfl rfl (K _)
          · skip
            refine Wp.iF (pc1 := 63) rfl hc9 rfl ?_
            refine Wp.steps 2 (pc1 := 72) (lo1 := [some (.ref 113), some (.int x1), some (.int x2), some (.int x3), some (.int v7)]) (st1 := [.int x3]) (h1 := mk g) rfl ?_
            have e1 := zb_r1 e
            subst e1
            exact Wp.ret rfl rfl rfl (K _)
/-- EveningFirstModel.lacks(II)I -/
def d_156 (x1 : Int32) (x2 : Int32) (g : G) : Option Int32 :=
  zb_l (d_135 x1 g) fun v1 =>
  bif v1 then (
    zb_l (d_107 (Int32.toInt64 x2) 0 1) fun v3 =>
    bif v3 then (
      d_156_22 x1 x2 g 300 0) else
    some (-1)) else
  some (-1)
set_option maxRecDepth 100000 in
set_option maxHeartbeats 4000000 in
theorem w_156 {sc : Option (List Int32)} {d : Nat} (x1 : Int32) (x2 : Int32) (g : G) {r : Int32} (e : d_156 x1 x2 g = some r) : zB sc (d + 3) 156 0 (zm_ent (z_L 156) [.ref 113, .int x1, .int x2]) [] (mk g) [.int r] (mk g) := by
  unfold d_156 at e
  intro Q K
  show Wp sc (d + 3) 156 0 [some (.ref 113), some (.int x1), some (.int x2), none, none] [] (mk g) Q
  refine Wp.steps 2 (pc1 := 2) (lo1 := [some (.ref 113), some (.int x1), some (.int x2), none, none]) (st1 := [.int x1, .ref 113]) (h1 := mk g) rfl ?_
  obtain ⟨v1, hvv1, e⟩ := zb_let e
  refine Wp.ca (m := 135) (d1 := d + 2) (as := [.ref 113, .int x1]) (rest := []) (st1 := [.int (zb_i v1)]) (pc1 := 5) rfl rfl rfl rfl rfl rfl rfl rfl (mk_rok rfl rfl rfl rfl) rfl rfl rfl (w_135 (sc := sc) (d := d + 1) x1 g hvv1) ?_
  rcases zb_if e with ⟨hc2, e⟩ | ⟨hc2, e⟩
  · skip
    refine Wp.iF (pc1 := 8) rfl (zb_eqF hc2) rfl ?_
    refine Wp.steps 4 (pc1 := 12) (lo1 := [some (.ref 113), some (.int x1), some (.int x2), none, none]) (st1 := [.long 1, .long 0, .long (Int32.toInt64 x2)]) (h1 := mk g) rfl ?_
    obtain ⟨v3, hvv3, e⟩ := zb_let e
    refine Wp.ca (m := 107) (d1 := d + 2) (as := [.long (Int32.toInt64 x2), .long 0, .long 1]) (rest := []) (st1 := [.int (zb_i v3)]) (pc1 := 15) rfl rfl rfl rfl rfl rfl rfl rfl rfl rfl rfl rfl (w_107 (sc := sc) (d := d + 2) (Int32.toInt64 x2) 0 1 g hvv3) ?_
    rcases zb_if e with ⟨hc4, e⟩ | ⟨hc4, e⟩
    · skip
      refine Wp.iT (pc1 := 20) rfl (zb_neT hc4) rfl ?_
      refine Wp.steps 2 (pc1 := 22) (lo1 := [some (.ref 113), some (.int x1), some (.int x2), some (.int 0), none]) (st1 := []) (h1 := mk g) rfl ?_
      exact w_156_22 (sc := sc) (d := d) x1 x2 g 300 0 _ e Q K
    · skip
      refine Wp.iF (pc1 := 18) rfl (zb_neF hc4) rfl ?_
      refine Wp.steps 1 (pc1 := 19) (lo1 := [some (.ref 113), some (.int x1), some (.int x2), none, none]) (st1 := [.int (-1)]) (h1 := mk g) rfl ?_
      have e1 := zb_r1 e
      subst e1
      exact Wp.ret rfl rfl rfl (K _)
  · skip
    refine Wp.iT (pc1 := 18) rfl (zb_eqT hc2) rfl ?_
    refine Wp.steps 1 (pc1 := 19) (lo1 := [some (.ref 113), some (.int x1), some (.int x2), none, none]) (st1 := [.int (-1)]) (h1 := mk g) rfl ?_
    have e1 := zb_r1 e
    subst e1
    exact Wp.ret rfl rfl rfl (K _)
/-- EveningFirst$Bonds.allow(I)Z -/
def d_7 (x1 : Int32) (g : G) : Option Bool :=
  bif zm_cmp .ne (x1 &&& (g 25 1)) (g 25 1) then (
    some false) else
  bif zm_cmp .ne (x1 &&& (g 25 2)) 0 then (
    some false) else
  Option.bind (d_6 x1 g) fun v3 =>
  bif v3 then (
    some true) else
  some false
set_option maxRecDepth 100000 in
set_option maxHeartbeats 4000000 in
theorem w_7 {sc : Option (List Int32)} {d : Nat} (x1 : Int32) (g : G) {r : Bool} (e : d_7 x1 g = some r) : zB sc (d + 3) 7 0 (zm_ent (z_L 7) [.ref 25, .int x1]) [] (mk g) [.int (zb_i r)] (mk g) := by
  unfold d_7 at e
  intro Q K
  show Wp sc (d + 3) 7 0 [some (.ref 25), some (.int x1)] [] (mk g) Q
  refine Wp.steps 2 (pc1 := 2) (lo1 := [some (.ref 25), some (.int x1)]) (st1 := [.ref 25, .int x1]) (h1 := mk g) rfl ?_
  refine Wp.gf (pc1 := 5) (v := .int (g 25 1)) rfl rfl rfl rfl rfl ?_
  refine Wp.steps 2 (pc1 := 7) (lo1 := [some (.ref 25), some (.int x1)]) (st1 := [.ref 25, .int (x1 &&& (g 25 1))]) (h1 := mk g) rfl ?_
  refine Wp.gf (pc1 := 10) (v := .int (g 25 1)) rfl rfl rfl rfl rfl ?_
  rcases zb_if e with ⟨hc1, e⟩ | ⟨hc1, e⟩
  · skip
    refine Wp.cT (pc1 := 34) rfl hc1 rfl ?_
    refine Wp.steps 1 (pc1 := 35) (lo1 := [some (.ref 25), some (.int x1)]) (st1 := [.int 0]) (h1 := mk g) rfl ?_
    have e1 := zb_r1 e
    subst e1
    exact Wp.ret rfl rfl rfl (K _)
  · skip
    refine Wp.cF (pc1 := 13) rfl hc1 rfl ?_
    refine Wp.steps 2 (pc1 := 15) (lo1 := [some (.ref 25), some (.int x1)]) (st1 := [.ref 25, .int x1]) (h1 := mk g) rfl ?_
    refine Wp.gf (pc1 := 18) (v := .int (g 25 2)) rfl rfl rfl rfl rfl ?_
    refine Wp.steps 1 (pc1 := 19) (lo1 := [some (.ref 25), some (.int x1)]) (st1 := [.int (x1 &&& (g 25 2))]) (h1 := mk g) rfl ?_
    rcases zb_if e with ⟨hc2, e⟩ | ⟨hc2, e⟩
    · skip
      refine Wp.iT (pc1 := 34) rfl hc2 rfl ?_
      refine Wp.steps 1 (pc1 := 35) (lo1 := [some (.ref 25), some (.int x1)]) (st1 := [.int 0]) (h1 := mk g) rfl ?_
      have e1 := zb_r1 e
      subst e1
      exact Wp.ret rfl rfl rfl (K _)
    · skip
      refine Wp.iF (pc1 := 22) rfl hc2 rfl ?_
      refine Wp.steps 2 (pc1 := 24) (lo1 := [some (.ref 25), some (.int x1)]) (st1 := [.int x1, .ref 25]) (h1 := mk g) rfl ?_
      obtain ⟨v3, hvv3, e⟩ := zb_bind e
      refine Wp.ca (m := 6) (d1 := d + 2) (as := [.ref 25, .int x1]) (rest := []) (st1 := [.int (zb_i v3)]) (pc1 := 27) rfl rfl rfl rfl rfl rfl rfl rfl (mk_rok rfl rfl rfl rfl) rfl rfl rfl (w_6 (sc := sc) (d := d) x1 g hvv3) ?_
      rcases zb_if e with ⟨hc4, e⟩ | ⟨hc4, e⟩
      · skip
        refine Wp.iF (pc1 := 30) rfl (zb_eqF hc4) rfl ?_
        refine Wp.steps 2 (pc1 := 35) (lo1 := [some (.ref 25), some (.int x1)]) (st1 := [.int 1]) (h1 := mk g) rfl ?_
        have e1 := zb_r1 e
        subst e1
        exact Wp.ret rfl rfl rfl (K _)
      · skip
        refine Wp.iT (pc1 := 34) rfl (zb_eqT hc4) rfl ?_
        refine Wp.steps 1 (pc1 := 35) (lo1 := [some (.ref 25), some (.int x1)]) (st1 := [.int 0]) (h1 := mk g) rfl ?_
        have e1 := zb_r1 e
        subst e1
        exact Wp.ret rfl rfl rfl (K _)
