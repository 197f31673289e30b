/-! printed by wip/tools/den.py -/
/-- EveningFirstModel.isDeed(I)Z -/
def d_132 (x1 : Int32) (g : G) : Bool :=
  zb_l (d_107 (Int32.toInt64 x1) 0 (Int32.toInt64 ((g 114 8) - 1))) fun v1 =>
  v1
set_option maxRecDepth 100000 in
set_option maxHeartbeats 4000000 in
theorem w_132 {sc : Option (List Int32)} {d : Nat} (x1 : Int32) (g : G) {r : Bool} (e : d_132 x1 g = r) : zB sc (d + 1) 132 0 (zm_ent (z_L 132) [.ref 113, .int x1]) [] (mk g) [.int (zb_i r)] (mk g) := by
  unfold d_132 at e
  intro Q K
  show Wp sc (d + 1) 132 0 [some (.ref 113), some (.int x1)] [] (mk g) Q
  refine Wp.steps 4 (pc1 := 4) (lo1 := [some (.ref 113), some (.int x1)]) (st1 := [.ref 113, .long 0, .long (Int32.toInt64 x1)]) (h1 := mk g) rfl ?_
  refine Wp.gf (pc1 := 7) (v := .ref 114) rfl rfl rfl rfl rfl ?_
  refine Wp.steps 1 (pc1 := 9) (lo1 := [some (.ref 113), some (.int x1)]) (st1 := [.int 8, .ref 114, .long 0, .long (Int32.toInt64 x1)]) (h1 := mk g) rfl ?_
  refine Wp.ia (pc1 := 10) (k := 8) rfl rfl rfl rfl rfl ?_
  refine Wp.steps 3 (pc1 := 13) (lo1 := [some (.ref 113), some (.int x1)]) (st1 := [.long (Int32.toInt64 ((g 114 8) - 1)), .long 0, .long (Int32.toInt64 x1)]) (h1 := mk g) rfl ?_
  obtain ⟨v1, hvv1, e⟩ := zb_let e
  refine Wp.ca (m := 107) (d1 := d) (as := [.long (Int32.toInt64 x1), .long 0, .long (Int32.toInt64 ((g 114 8) - 1))]) (rest := []) (st1 := [.int (zb_i v1)]) (pc1 := 16) rfl rfl rfl rfl rfl rfl rfl rfl rfl rfl rfl rfl (w_107 (sc := sc) (d := d) (Int32.toInt64 x1) 0 (Int32.toInt64 ((g 114 8) - 1)) g hvv1) ?_
  have e1 := e
  subst e1
  exact Wp.ret rfl rfl (zb_ok _) (K _)
/-- EveningFirstModel.of(II)I -/
def d_136 (x1 : Int32) (x2 : Int32) (g : G) : Option Int32 :=
  Option.bind (zm_ix ((9 + (7 * x1)) + x2) 294) fun k1 =>
  some (g 114 k1)
set_option maxRecDepth 100000 in
set_option maxHeartbeats 4000000 in
theorem w_136 {sc : Option (List Int32)} {d : Nat} (x1 : Int32) (x2 : Int32) (g : G) {r : Int32} (e : d_136 x1 x2 g = some r) : zB sc (d) 136 0 (zm_ent (z_L 136) [.ref 113, .int x1, .int x2]) [] (mk g) [.int r] (mk g) := by
  unfold d_136 at e
  intro Q K
  show Wp sc (d) 136 0 [some (.ref 113), some (.int x1), some (.int x2)] [] (mk g) Q
  refine Wp.steps 1 (pc1 := 1) (lo1 := [some (.ref 113), some (.int x1), some (.int x2)]) (st1 := [.ref 113]) (h1 := mk g) rfl ?_
  refine Wp.gf (pc1 := 4) (v := .ref 114) rfl rfl rfl rfl rfl ?_
  refine Wp.steps 7 (pc1 := 13) (lo1 := [some (.ref 113), some (.int x1), some (.int x2)]) (st1 := [.int ((9 + (7 * x1)) + x2), .ref 114]) (h1 := mk g) rfl ?_
  obtain ⟨k1, hk1, e⟩ := zb_bind e
  refine Wp.ia (pc1 := 14) rfl rfl rfl hk1 rfl ?_
  have e1 := zb_r1 e
  subst e1
  exact Wp.ret rfl rfl rfl (K _)
/-- EveningFirstModel.deed(II)I -/
def d_141 (x1 : Int32) (x2 : Int32) (g : G) : Option Int32 :=
  zb_l (d_132 x1 g) fun v1 =>
  bif v1 then (
    zb_l (d_107 (Int32.toInt64 x2) 0 6) fun v3 =>
    bif v3 then (
      Option.bind (d_136 x1 x2 g) fun v5 =>
      some v5) else
    some (-1)) else
  some (-1)
set_option maxRecDepth 100000 in
set_option maxHeartbeats 4000000 in
theorem w_141 {sc : Option (List Int32)} {d : Nat} (x1 : Int32) (x2 : Int32) (g : G) {r : Int32} (e : d_141 x1 x2 g = some r) : zB sc (d + 2) 141 0 (zm_ent (z_L 141) [.ref 113, .int x1, .int x2]) [] (mk g) [.int r] (mk g) := by
  unfold d_141 at e
  intro Q K
  show Wp sc (d + 2) 141 0 [some (.ref 113), some (.int x1), some (.int x2)] [] (mk g) Q
  refine Wp.steps 2 (pc1 := 2) (lo1 := [some (.ref 113), some (.int x1), some (.int x2)]) (st1 := [.int x1, .ref 113]) (h1 := mk g) rfl ?_
  obtain ⟨v1, hvv1, e⟩ := zb_let e
  refine Wp.ca (m := 132) (d1 := d + 1) (as := [.ref 113, .int x1]) (rest := []) (st1 := [.int (zb_i v1)]) (pc1 := 5) rfl rfl rfl rfl rfl rfl rfl rfl (mk_rok rfl rfl rfl rfl) rfl rfl rfl (w_132 (sc := sc) (d := d) x1 g hvv1) ?_
  rcases zb_if e with ⟨hc2, e⟩ | ⟨hc2, e⟩
  · skip
    refine Wp.iF (pc1 := 8) rfl (zb_eqF hc2) rfl ?_
    refine Wp.steps 4 (pc1 := 14) (lo1 := [some (.ref 113), some (.int x1), some (.int x2)]) (st1 := [.long 6, .long 0, .long (Int32.toInt64 x2)]) (h1 := mk g) rfl ?_
    obtain ⟨v3, hvv3, e⟩ := zb_let e
    refine Wp.ca (m := 107) (d1 := d + 1) (as := [.long (Int32.toInt64 x2), .long 0, .long 6]) (rest := []) (st1 := [.int (zb_i v3)]) (pc1 := 17) rfl rfl rfl rfl rfl rfl rfl rfl rfl rfl rfl rfl (w_107 (sc := sc) (d := d + 1) (Int32.toInt64 x2) 0 6 g hvv3) ?_
    rcases zb_if e with ⟨hc4, e⟩ | ⟨hc4, e⟩
    · skip
      refine Wp.iF (pc1 := 20) rfl (zb_eqF hc4) rfl ?_
      refine Wp.steps 3 (pc1 := 23) (lo1 := [some (.ref 113), some (.int x1), some (.int x2)]) (st1 := [.int x2, .int x1, .ref 113]) (h1 := mk g) rfl ?_
      obtain ⟨v5, hvv5, e⟩ := zb_bind e
      refine Wp.ca (m := 136) (d1 := d + 1) (as := [.ref 113, .int x1, .int x2]) (rest := []) (st1 := [.int v5]) (pc1 := 26) rfl rfl rfl rfl rfl rfl rfl rfl (mk_rok rfl rfl rfl rfl) rfl rfl rfl (w_136 (sc := sc) (d := d + 1) x1 x2 g hvv5) ?_
      refine Wp.steps 1 (pc1 := 30) (lo1 := [some (.ref 113), some (.int x1), some (.int x2)]) (st1 := [.int v5]) (h1 := mk g) rfl ?_
      have e1 := zb_r1 e
      subst e1
      exact Wp.ret rfl rfl rfl (K _)
    · skip
      refine Wp.iT (pc1 := 29) rfl (zb_eqT hc4) rfl ?_
      refine Wp.steps 1 (pc1 := 30) (lo1 := [some (.ref 113), some (.int x1), some (.int x2)]) (st1 := [.int (-1)]) (h1 := mk g) rfl ?_
      have e1 := zb_r1 e
      subst e1
      exact Wp.ret rfl rfl rfl (K _)
  · skip
    refine Wp.iT (pc1 := 29) rfl (zb_eqT hc2) rfl ?_
    refine Wp.steps 1 (pc1 := 30) (lo1 := [some (.ref 113), some (.int x1), some (.int x2)]) (st1 := [.int (-1)]) (h1 := mk g) rfl ?_
    have e1 := zb_r1 e
    subst e1
    exact Wp.ret rfl rfl rfl (K _)
/-- EveningFirst.go(II)I -/
def d_61 (x1 : Int32) (x2 : Int32) (g : G) : Option (Int32 × G) :=
  zb_l (d_18 1 x1 g) fun v1 =>
  bif v1 then (
    bif zm_cmp .lt x2 0 then (
      some ((-1), g)) else
    bif zm_cmp .lt x2 3 then (
      Option.bind (zm_ix x1 4) fun k5 =>
      Option.bind (zm_ix x1 4) fun k6 =>
      zb_l (zg_up g (5 + k6) 0 x2) fun g7 =>
      some ((g (5 + k5) 0), g7)) else
    some ((-1), g)) else
  some ((-1), g)
set_option maxRecDepth 100000 in
set_option maxHeartbeats 4000000 in
theorem w_61 {sc : Option (List Int32)} {d : Nat} (x1 : Int32) (x2 : Int32) (g : G) {r : Int32} {g' : G} (e : d_61 x1 x2 g = some (r, g')) : zB sc (d + 1) 61 0 (zm_ent (z_L 61) [.ref 0, .int x1, .int x2]) [] (mk g) [.int r] (mk g') := by
  unfold d_61 at e
  intro Q K
  show Wp sc (d + 1) 61 0 [some (.ref 0), some (.int x1), some (.int x2), none] [] (mk g) Q
  refine Wp.steps 1 (pc1 := 1) (lo1 := [some (.ref 0), some (.int x1), some (.int x2), none]) (st1 := [.ref 0]) (h1 := mk g) rfl ?_
  refine Wp.gf (pc1 := 4) (v := .ref 1) rfl rfl rfl rfl rfl ?_
  refine Wp.steps 1 (pc1 := 5) (lo1 := [some (.ref 0), some (.int x1), some (.int x2), none]) (st1 := [.int x1, .ref 1]) (h1 := mk g) rfl ?_
  obtain ⟨v1, hvv1, e⟩ := zb_let e
  refine Wp.ca (m := 18) (d1 := d) (as := [.ref 1, .int x1]) (rest := []) (st1 := [.int (zb_i v1)]) (pc1 := 8) rfl rfl rfl rfl rfl rfl rfl rfl (mk_rok rfl rfl rfl rfl) rfl rfl rfl (w_18 (sc := sc) (d := d) 1 x1 rfl g hvv1) ?_
  rcases zb_if e with ⟨hc2, e⟩ | ⟨hc2, e⟩
  · skip
    refine Wp.iF (pc1 := 11) rfl (zb_eqF hc2) rfl ?_
    refine Wp.steps 1 (pc1 := 12) (lo1 := [some (.ref 0), some (.int x1), some (.int x2), none]) (st1 := [.int x2]) (h1 := mk g) rfl ?_
    rcases zb_if e with ⟨hc3, e⟩ | ⟨hc3, e⟩
    · skip
      refine Wp.iT (pc1 := 20) rfl hc3 rfl ?_
      refine Wp.steps 1 (pc1 := 21) (lo1 := [some (.ref 0), some (.int x1), some (.int x2), none]) (st1 := [.int (-1)]) (h1 := mk g) rfl ?_
      obtain ⟨e1, e2⟩ := zb_r2 e
      subst e1
      subst e2
      exact Wp.ret rfl rfl rfl (K _)
    · skip
      refine Wp.iF (pc1 := 15) rfl hc3 rfl ?_
      refine Wp.steps 2 (pc1 := 17) (lo1 := [some (.ref 0), some (.int x1), some (.int x2), none]) (st1 := [.int 3, .int x2]) (h1 := mk g) rfl ?_
      rcases zb_if e with ⟨hc4, e⟩ | ⟨hc4, e⟩
      · skip
        refine Wp.cT (pc1 := 22) rfl hc4 rfl ?_
        refine Wp.steps 1 (pc1 := 23) (lo1 := [some (.ref 0), some (.int x1), some (.int x2), none]) (st1 := [.ref 0]) (h1 := mk g) rfl ?_
        refine Wp.gf (pc1 := 26) (v := .ref 1) rfl rfl rfl rfl rfl ?_
        refine Wp.gf (pc1 := 29) (v := .ref 2) rfl rfl rfl rfl rfl ?_
        refine Wp.steps 1 (pc1 := 30) (lo1 := [some (.ref 0), some (.int x1), some (.int x2), none]) (st1 := [.int x1, .ref 2]) (h1 := mk g) rfl ?_
        obtain ⟨k5, hk5, e⟩ := zb_bind e
        refine Wp.aa (pc1 := 31) (v := (5 + k5)) rfl (zg_rones (b := 1) rfl) rfl hk5 (by omega) rfl ?_
        refine Wp.gf (pc1 := 34) (v := .int (g (5 + k5) 0)) rfl (zg_one (b := 1) rfl hk5) rfl rfl rfl ?_
        refine Wp.steps 2 (pc1 := 36) (lo1 := [some (.ref 0), some (.int x1), some (.int x2), some (.int (g (5 + k5) 0))]) (st1 := [.ref 0]) (h1 := mk g) rfl ?_
        refine Wp.gf (pc1 := 39) (v := .ref 1) rfl rfl rfl rfl rfl ?_
        refine Wp.gf (pc1 := 42) (v := .ref 2) rfl rfl rfl rfl rfl ?_
        refine Wp.steps 1 (pc1 := 43) (lo1 := [some (.ref 0), some (.int x1), some (.int x2), some (.int (g (5 + k5) 0))]) (st1 := [.int x1, .ref 2]) (h1 := mk g) rfl ?_
        obtain ⟨k6, hk6, e⟩ := zb_bind e
        refine Wp.aa (pc1 := 44) (v := (5 + k6)) rfl (zg_rones (b := 1) rfl) rfl hk6 (by omega) rfl ?_
        refine Wp.steps 1 (pc1 := 45) (lo1 := [some (.ref 0), some (.int x1), some (.int x2), some (.int (g (5 + k5) 0))]) (st1 := [.int x2, .ref (5 + k6)]) (h1 := mk g) rfl ?_
        obtain ⟨g7, hg7, e⟩ := zb_let e
        refine Wp.pf (pc1 := 48) rfl (zg_one (b := 1) rfl hk6) rfl rfl rfl rfl hg7 rfl ?_
        refine Wp.steps 1 (pc1 := 49) (lo1 := [some (.ref 0), some (.int x1), some (.int x2), some (.int (g (5 + k5) 0))]) (st1 := [.int (g (5 + k5) 0)]) (h1 := mk g7) rfl ?_
        obtain ⟨e1, e2⟩ := zb_r2 e
        subst e1
        subst e2
        exact Wp.ret rfl rfl rfl (K _)
      · skip
        refine Wp.cF (pc1 := 20) rfl hc4 rfl ?_
        refine Wp.steps 1 (pc1 := 21) (lo1 := [some (.ref 0), some (.int x1), some (.int x2), none]) (st1 := [.int (-1)]) (h1 := mk g) rfl ?_
        obtain ⟨e1, e2⟩ := zb_r2 e
        subst e1
        subst e2
        exact Wp.ret rfl rfl rfl (K _)
  · skip
    refine Wp.iT (pc1 := 20) rfl (zb_eqT hc2) rfl ?_
    refine Wp.steps 1 (pc1 := 21) (lo1 := [some (.ref 0), some (.int x1), some (.int x2), none]) (st1 := [.int (-1)]) (h1 := mk g) rfl ?_
    obtain ⟨e1, e2⟩ := zb_r2 e
    subst e1
    subst e2
    exact Wp.ret rfl rfl rfl (K _)
/-- EveningFirstModel.becomes(II)I -/
def d_142 (x1 : Int32) (x2 : Int32) (g : G) : Option (Int32 × G) :=
  Option.bind (zm_ix x1 294) fun k1 =>
  Option.bind (zm_ix x1 294) fun k3 =>
  zb_l (zg_up g 114 k3 x2) fun g2 =>
  some ((g 114 k1), g2)
set_option maxRecDepth 100000 in
set_option maxHeartbeats 4000000 in
theorem w_142 {sc : Option (List Int32)} {d : Nat} (x1 : Int32) (x2 : Int32) (g : G) {r : Int32} {g' : G} (e : d_142 x1 x2 g = some (r, g')) : zB sc (d) 142 0 (zm_ent (z_L 142) [.ref 113, .int x1, .int x2]) [] (mk g) [.int r] (mk g') := by
  unfold d_142 at e
  intro Q K
  show Wp sc (d) 142 0 [some (.ref 113), some (.int x1), some (.int x2), none] [] (mk g) Q
  refine Wp.steps 1 (pc1 := 1) (lo1 := [some (.ref 113), some (.int x1), some (.int x2), none]) (st1 := [.ref 113]) (h1 := mk g) rfl ?_
  refine Wp.gf (pc1 := 4) (v := .ref 114) rfl rfl rfl rfl rfl ?_
  refine Wp.steps 1 (pc1 := 5) (lo1 := [some (.ref 113), some (.int x1), some (.int x2), none]) (st1 := [.int x1, .ref 114]) (h1 := mk g) rfl ?_
  obtain ⟨k1, hk1, e⟩ := zb_bind e
  refine Wp.ia (pc1 := 6) rfl rfl rfl hk1 rfl ?_
  refine Wp.steps 2 (pc1 := 8) (lo1 := [some (.ref 113), some (.int x1), some (.int x2), some (.int (g 114 k1))]) (st1 := [.ref 113]) (h1 := mk g) rfl ?_
  refine Wp.gf (pc1 := 11) (v := .ref 114) rfl rfl rfl rfl rfl ?_
  refine Wp.steps 2 (pc1 := 13) (lo1 := [some (.ref 113), some (.int x1), some (.int x2), some (.int (g 114 k1))]) (st1 := [.int x2, .int x1, .ref 114]) (h1 := mk g) rfl ?_
  obtain ⟨k3, hk3, e⟩ := zb_bind e
  obtain ⟨g2, hg2, e⟩ := zb_let e
  refine Wp.ias (pc1 := 14) rfl rfl rfl hk3 hg2 rfl ?_
  refine Wp.steps 1 (pc1 := 15) (lo1 := [some (.ref 113), some (.int x1), some (.int x2), some (.int (g 114 k1))]) (st1 := [.int (g 114 k1)]) (h1 := mk g2) rfl ?_
  obtain ⟨e1, e2⟩ := zb_r2 e
  subst e1
  subst e2
  exact Wp.ret rfl rfl rfl (K _)
/-- EveningFirstModel.go(II)I -/
def d_143 (x1 : Int32) (x2 : Int32) (g : G) : Option (Int32 × G) :=
  zb_l (d_131 x1 g) fun v1 =>
  bif v1 then (
    zb_l (d_107 (Int32.toInt64 x2) 0 2) fun v3 =>
    bif v3 then (
      zb_bp (d_142 (0 + x1) x2 g) fun v5 g6 =>
      some (v5, g6)) else
    some ((-1), g)) else
  some ((-1), g)
set_option maxRecDepth 100000 in
set_option maxHeartbeats 4000000 in
theorem w_143 {sc : Option (List Int32)} {d : Nat} (x1 : Int32) (x2 : Int32) (g : G) {r : Int32} {g' : G} (e : d_143 x1 x2 g = some (r, g')) : zB sc (d + 2) 143 0 (zm_ent (z_L 143) [.ref 113, .int x1, .int x2]) [] (mk g) [.int r] (mk g') := by
  unfold d_143 at e
  intro Q K
  show Wp sc (d + 2) 143 0 [some (.ref 113), some (.int x1), some (.int x2)] [] (mk g) Q
  refine Wp.steps 2 (pc1 := 2) (lo1 := [some (.ref 113), some (.int x1), some (.int x2)]) (st1 := [.int x1, .ref 113]) (h1 := mk g) rfl ?_
  obtain ⟨v1, hvv1, e⟩ := zb_let e
  refine Wp.ca (m := 131) (d1 := d + 1) (as := [.ref 113, .int x1]) (rest := []) (st1 := [.int (zb_i v1)]) (pc1 := 5) rfl rfl rfl rfl rfl rfl rfl rfl (mk_rok rfl rfl rfl rfl) rfl rfl rfl (w_131 (sc := sc) (d := d) x1 g hvv1) ?_
  rcases zb_if e with ⟨hc2, e⟩ | ⟨hc2, e⟩
  · skip
    refine Wp.iF (pc1 := 8) rfl (zb_eqF hc2) rfl ?_
    refine Wp.steps 4 (pc1 := 14) (lo1 := [some (.ref 113), some (.int x1), some (.int x2)]) (st1 := [.long 2, .long 0, .long (Int32.toInt64 x2)]) (h1 := mk g) rfl ?_
    obtain ⟨v3, hvv3, e⟩ := zb_let e
    refine Wp.ca (m := 107) (d1 := d + 1) (as := [.long (Int32.toInt64 x2), .long 0, .long 2]) (rest := []) (st1 := [.int (zb_i v3)]) (pc1 := 17) rfl rfl rfl rfl rfl rfl rfl rfl rfl rfl rfl rfl (w_107 (sc := sc) (d := d + 1) (Int32.toInt64 x2) 0 2 g hvv3) ?_
    rcases zb_if e with ⟨hc4, e⟩ | ⟨hc4, e⟩
    · skip
      refine Wp.iF (pc1 := 20) rfl (zb_eqF hc4) rfl ?_
      refine Wp.steps 5 (pc1 := 25) (lo1 := [some (.ref 113), some (.int x1), some (.int x2)]) (st1 := [.int x2, .int (0 + x1), .ref 113]) (h1 := mk g) rfl ?_
      obtain ⟨v5, g6, hvv5, e⟩ := zb_bpair e
      refine Wp.ca (m := 142) (d1 := d + 1) (as := [.ref 113, .int (0 + x1), .int x2]) (rest := []) (st1 := [.int v5]) (pc1 := 28) rfl rfl rfl rfl rfl rfl rfl rfl (mk_rok rfl rfl rfl rfl) rfl rfl rfl (w_142 (sc := sc) (d := d + 1) (0 + x1) x2 g hvv5) ?_
      refine Wp.steps 1 (pc1 := 32) (lo1 := [some (.ref 113), some (.int x1), some (.int x2)]) (st1 := [.int v5]) (h1 := mk g6) rfl ?_
      obtain ⟨e1, e2⟩ := zb_r2 e
      subst e1
      subst e2
      exact Wp.ret rfl rfl rfl (K _)
    · skip
      refine Wp.iT (pc1 := 31) rfl (zb_eqT hc4) rfl ?_
      refine Wp.steps 1 (pc1 := 32) (lo1 := [some (.ref 113), some (.int x1), some (.int x2)]) (st1 := [.int (-1)]) (h1 := mk g) rfl ?_
      obtain ⟨e1, e2⟩ := zb_r2 e
      subst e1
      subst e2
      exact Wp.ret rfl rfl rfl (K _)
  · skip
    refine Wp.iT (pc1 := 31) rfl (zb_eqT hc2) rfl ?_
    refine Wp.steps 1 (pc1 := 32) (lo1 := [some (.ref 113), some (.int x1), some (.int x2)]) (st1 := [.int (-1)]) (h1 := mk g) rfl ?_
    obtain ⟨e1, e2⟩ := zb_r2 e
    subst e1
    subst e2
    exact Wp.ret rfl rfl rfl (K _)
/-- EveningFirst.areThings(I)Z -/
def d_92 (x0 : Int32) : Bool :=
  bif zm_cmp .lt x0 0 then (
    false) else
  bif zm_cmp .ge x0 64 then (
    false) else
  true
set_option maxRecDepth 100000 in
set_option maxHeartbeats 4000000 in
theorem w_92 {sc : Option (List Int32)} {d : Nat} (x0 : Int32) (g : G) {r : Bool} (e : d_92 x0 = r) : zB sc (d) 92 0 (zm_ent (z_L 92) [.int x0]) [] (mk g) [.int (zb_i r)] (mk g) := by
  unfold d_92 at e
  intro Q K
  show Wp sc (d) 92 0 [some (.int x0)] [] (mk g) Q
  refine Wp.steps 1 (pc1 := 1) (lo1 := [some (.int x0)]) (st1 := [.int x0]) (h1 := mk g) rfl ?_
  rcases zb_if e with ⟨hc1, e⟩ | ⟨hc1, e⟩
  · skip
    refine Wp.iT (pc1 := 14) rfl hc1 rfl ?_
    refine Wp.steps 1 (pc1 := 15) (lo1 := [some (.int x0)]) (st1 := [.int 0]) (h1 := mk g) rfl ?_
    have e1 := e
    subst e1
    exact Wp.ret rfl rfl rfl (K _)
  · skip
    refine Wp.iF (pc1 := 4) rfl hc1 rfl ?_
    refine Wp.steps 2 (pc1 := 7) (lo1 := [some (.int x0)]) (st1 := [.int 64, .int x0]) (h1 := mk g) rfl ?_
    rcases zb_if e with ⟨hc2, e⟩ | ⟨hc2, e⟩
    · skip
      refine Wp.cT (pc1 := 14) rfl hc2 rfl ?_
      refine Wp.steps 1 (pc1 := 15) (lo1 := [some (.int x0)]) (st1 := [.int 0]) (h1 := mk g) rfl ?_
      have e1 := e
      subst e1
      exact Wp.ret rfl rfl rfl (K _)
    · skip
      refine Wp.cF (pc1 := 10) rfl hc2 rfl ?_
      refine Wp.steps 2 (pc1 := 15) (lo1 := [some (.int x0)]) (st1 := [.int 1]) (h1 := mk g) rfl ?_
      have e1 := e
      subst e1
      exact Wp.ret rfl rfl rfl (K _)
/-- EveningFirst.birth(II)I -/
def d_62 (x1 : Int32) (x2 : Int32) (g : G) : Option (Int32 × G) :=
  zb_l (d_18 1 x1 g) fun v1 =>
  bif v1 then (
    zb_l (d_92 x2) fun v3 =>
    bif v3 then (
      Option.bind (zm_ix x1 4) fun k5 =>
      Option.bind (zm_ix x1 4) fun k6 =>
      zb_l (zg_up g (5 + k6) 1 x2) fun g7 =>
      some ((g (5 + k5) 1), g7)) else
    some ((-1), g)) else
  some ((-1), g)
set_option maxRecDepth 100000 in
set_option maxHeartbeats 4000000 in
theorem w_62 {sc : Option (List Int32)} {d : Nat} (x1 : Int32) (x2 : Int32) (g : G) {r : Int32} {g' : G} (e : d_62 x1 x2 g = some (r, g')) : zB sc (d + 1) 62 0 (zm_ent (z_L 62) [.ref 0, .int x1, .int x2]) [] (mk g) [.int r] (mk g') := by
  unfold d_62 at e
  intro Q K
  show Wp sc (d + 1) 62 0 [some (.ref 0), some (.int x1), some (.int x2), none] [] (mk g) Q
  refine Wp.steps 1 (pc1 := 1) (lo1 := [some (.ref 0), some (.int x1), some (.int x2), none]) (st1 := [.ref 0]) (h1 := mk g) rfl ?_
  refine Wp.gf (pc1 := 4) (v := .ref 1) rfl rfl rfl rfl rfl ?_
  refine Wp.steps 1 (pc1 := 5) (lo1 := [some (.ref 0), some (.int x1), some (.int x2), none]) (st1 := [.int x1, .ref 1]) (h1 := mk g) rfl ?_
  obtain ⟨v1, hvv1, e⟩ := zb_let e
  refine Wp.ca (m := 18) (d1 := d) (as := [.ref 1, .int x1]) (rest := []) (st1 := [.int (zb_i v1)]) (pc1 := 8) rfl rfl rfl rfl rfl rfl rfl rfl (mk_rok rfl rfl rfl rfl) rfl rfl rfl (w_18 (sc := sc) (d := d) 1 x1 rfl g hvv1) ?_
  rcases zb_if e with ⟨hc2, e⟩ | ⟨hc2, e⟩
  · skip
    refine Wp.iF (pc1 := 11) rfl (zb_eqF hc2) rfl ?_
    refine Wp.steps 1 (pc1 := 12) (lo1 := [some (.ref 0), some (.int x1), some (.int x2), none]) (st1 := [.int x2]) (h1 := mk g) rfl ?_
    obtain ⟨v3, hvv3, e⟩ := zb_let e
    refine Wp.ca (m := 92) (d1 := d) (as := [.int x2]) (rest := []) (st1 := [.int (zb_i v3)]) (pc1 := 15) rfl rfl rfl rfl rfl rfl rfl rfl rfl rfl rfl rfl (w_92 (sc := sc) (d := d) x2 g hvv3) ?_
    rcases zb_if e with ⟨hc4, e⟩ | ⟨hc4, e⟩
    · skip
      refine Wp.iT (pc1 := 20) rfl (zb_neT hc4) rfl ?_
      refine Wp.steps 1 (pc1 := 21) (lo1 := [some (.ref 0), some (.int x1), some (.int x2), none]) (st1 := [.ref 0]) (h1 := mk g) rfl ?_
      refine Wp.gf (pc1 := 24) (v := .ref 1) rfl rfl rfl rfl rfl ?_
      refine Wp.gf (pc1 := 27) (v := .ref 2) rfl rfl rfl rfl rfl ?_
      refine Wp.steps 1 (pc1 := 28) (lo1 := [some (.ref 0), some (.int x1), some (.int x2), none]) (st1 := [.int x1, .ref 2]) (h1 := mk g) rfl ?_
      obtain ⟨k5, hk5, e⟩ := zb_bind e
      refine Wp.aa (pc1 := 29) (v := (5 + k5)) rfl (zg_rones (b := 1) rfl) rfl hk5 (by omega) rfl ?_
      refine Wp.gf (pc1 := 32) (v := .int (g (5 + k5) 1)) rfl (zg_one (b := 1) rfl hk5) rfl rfl rfl ?_
      refine Wp.steps 2 (pc1 := 34) (lo1 := [some (.ref 0), some (.int x1), some (.int x2), some (.int (g (5 + k5) 1))]) (st1 := [.ref 0]) (h1 := mk g) rfl ?_
      refine Wp.gf (pc1 := 37) (v := .ref 1) rfl rfl rfl rfl rfl ?_
      refine Wp.gf (pc1 := 40) (v := .ref 2) rfl rfl rfl rfl rfl ?_
      refine Wp.steps 1 (pc1 := 41) (lo1 := [some (.ref 0), some (.int x1), some (.int x2), some (.int (g (5 + k5) 1))]) (st1 := [.int x1, .ref 2]) (h1 := mk g) rfl ?_
      obtain ⟨k6, hk6, e⟩ := zb_bind e
      refine Wp.aa (pc1 := 42) (v := (5 + k6)) rfl (zg_rones (b := 1) rfl) rfl hk6 (by omega) rfl ?_
      refine Wp.steps 1 (pc1 := 43) (lo1 := [some (.ref 0), some (.int x1), some (.int x2), some (.int (g (5 + k5) 1))]) (st1 := [.int x2, .ref (5 + k6)]) (h1 := mk g) rfl ?_
      obtain ⟨g7, hg7, e⟩ := zb_let e
      refine Wp.pf (pc1 := 46) rfl (zg_one (b := 1) rfl hk6) rfl rfl rfl rfl hg7 rfl ?_
      refine Wp.steps 1 (pc1 := 47) (lo1 := [some (.ref 0), some (.int x1), some (.int x2), some (.int (g (5 + k5) 1))]) (st1 := [.int (g (5 + k5) 1)]) (h1 := mk g7) rfl ?_
      obtain ⟨e1, e2⟩ := zb_r2 e
      subst e1
      subst e2
      exact Wp.ret rfl rfl rfl (K _)
    · skip
      refine Wp.iF (pc1 := 18) rfl (zb_neF hc4) rfl ?_
      refine Wp.steps 1 (pc1 := 19) (lo1 := [some (.ref 0), some (.int x1), some (.int x2), none]) (st1 := [.int (-1)]) (h1 := mk g) rfl ?_
      obtain ⟨e1, e2⟩ := zb_r2 e
      subst e1
      subst e2
      exact Wp.ret rfl rfl rfl (K _)
  · skip
    refine Wp.iT (pc1 := 18) rfl (zb_eqT hc2) rfl ?_
    refine Wp.steps 1 (pc1 := 19) (lo1 := [some (.ref 0), some (.int x1), some (.int x2), none]) (st1 := [.int (-1)]) (h1 := mk g) rfl ?_
    obtain ⟨e1, e2⟩ := zb_r2 e
    subst e1
    subst e2
    exact Wp.ret rfl rfl rfl (K _)
/-- EveningFirstModel.areThings(I)Z -/
def d_144 (x0 : Int32) : Bool :=
  zb_l (d_107 (Int32.toInt64 x0) 0 63) fun v1 =>
  v1
set_option maxRecDepth 100000 in
set_option maxHeartbeats 4000000 in
theorem w_144 {sc : Option (List Int32)} {d : Nat} (x0 : Int32) (g : G) {r : Bool} (e : d_144 x0 = r) : zB sc (d + 1) 144 0 (zm_ent (z_L 144) [.int x0]) [] (mk g) [.int (zb_i r)] (mk g) := by
  unfold d_144 at e
  intro Q K
  show Wp sc (d + 1) 144 0 [some (.int x0)] [] (mk g) Q
  refine Wp.steps 4 (pc1 := 6) (lo1 := [some (.int x0)]) (st1 := [.long 63, .long 0, .long (Int32.toInt64 x0)]) (h1 := mk g) rfl ?_
  obtain ⟨v1, hvv1, e⟩ := zb_let e
  refine Wp.ca (m := 107) (d1 := d) (as := [.long (Int32.toInt64 x0), .long 0, .long 63]) (rest := []) (st1 := [.int (zb_i v1)]) (pc1 := 9) rfl rfl rfl rfl rfl rfl rfl rfl rfl rfl rfl rfl (w_107 (sc := sc) (d := d) (Int32.toInt64 x0) 0 63 g hvv1) ?_
  have e1 := e
  subst e1
  exact Wp.ret rfl rfl (zb_ok _) (K _)
/-- EveningFirstModel.birth(II)I -/
def d_145 (x1 : Int32) (x2 : Int32) (g : G) : Option (Int32 × G) :=
  zb_l (d_131 x1 g) fun v1 =>
  bif v1 then (
    zb_l (d_144 x2) fun v3 =>
    bif v3 then (
      zb_bp (d_142 (4 + x1) x2 g) fun v5 g6 =>
      some (v5, g6)) else
    some ((-1), g)) else
  some ((-1), g)
set_option maxRecDepth 100000 in
set_option maxHeartbeats 4000000 in
theorem w_145 {sc : Option (List Int32)} {d : Nat} (x1 : Int32) (x2 : Int32) (g : G) {r : Int32} {g' : G} (e : d_145 x1 x2 g = some (r, g')) : zB sc (d + 2) 145 0 (zm_ent (z_L 145) [.ref 113, .int x1, .int x2]) [] (mk g) [.int r] (mk g') := by
  unfold d_145 at e
  intro Q K
  show Wp sc (d + 2) 145 0 [some (.ref 113), some (.int x1), some (.int x2)] [] (mk g) Q
  refine Wp.steps 2 (pc1 := 2) (lo1 := [some (.ref 113), some (.int x1), some (.int x2)]) (st1 := [.int x1, .ref 113]) (h1 := mk g) rfl ?_
  obtain ⟨v1, hvv1, e⟩ := zb_let e
  refine Wp.ca (m := 131) (d1 := d + 1) (as := [.ref 113, .int x1]) (rest := []) (st1 := [.int (zb_i v1)]) (pc1 := 5) rfl rfl rfl rfl rfl rfl rfl rfl (mk_rok rfl rfl rfl rfl) rfl rfl rfl (w_131 (sc := sc) (d := d) x1 g hvv1) ?_
  rcases zb_if e with ⟨hc2, e⟩ | ⟨hc2, e⟩
  · skip
    refine Wp.iF (pc1 := 8) rfl (zb_eqF hc2) rfl ?_
    refine Wp.steps 1 (pc1 := 9) (lo1 := [some (.ref 113), some (.int x1), some (.int x2)]) (st1 := [.int x2]) (h1 := mk g) rfl ?_
    obtain ⟨v3, hvv3, e⟩ := zb_let e
    refine Wp.ca (m := 144) (d1 := d + 1) (as := [.int x2]) (rest := []) (st1 := [.int (zb_i v3)]) (pc1 := 12) rfl rfl rfl rfl rfl rfl rfl rfl rfl rfl rfl rfl (w_144 (sc := sc) (d := d) x2 g hvv3) ?_
    rcases zb_if e with ⟨hc4, e⟩ | ⟨hc4, e⟩
    · skip
      refine Wp.iF (pc1 := 15) rfl (zb_eqF hc4) rfl ?_
      refine Wp.steps 5 (pc1 := 20) (lo1 := [some (.ref 113), some (.int x1), some (.int x2)]) (st1 := [.int x2, .int (4 + x1), .ref 113]) (h1 := mk g) rfl ?_
      obtain ⟨v5, g6, hvv5, e⟩ := zb_bpair e
      refine Wp.ca (m := 142) (d1 := d + 1) (as := [.ref 113, .int (4 + x1), .int x2]) (rest := []) (st1 := [.int v5]) (pc1 := 23) rfl rfl rfl rfl rfl rfl rfl rfl (mk_rok rfl rfl rfl rfl) rfl rfl rfl (w_142 (sc := sc) (d := d + 1) (4 + x1) x2 g hvv5) ?_
      refine Wp.steps 1 (pc1 := 27) (lo1 := [some (.ref 113), some (.int x1), some (.int x2)]) (st1 := [.int v5]) (h1 := mk g6) rfl ?_
      obtain ⟨e1, e2⟩ := zb_r2 e
      subst e1
      subst e2
      exact Wp.ret rfl rfl rfl (K _)
    · skip
      refine Wp.iT (pc1 := 26) rfl (zb_eqT hc4) rfl ?_
      refine Wp.steps 1 (pc1 := 27) (lo1 := [some (.ref 113), some (.int x1), some (.int x2)]) (st1 := [.int (-1)]) (h1 := mk g) rfl ?_
      obtain ⟨e1, e2⟩ := zb_r2 e
      subst e1
      subst e2
      exact Wp.ret rfl rfl rfl (K _)
  · skip
    refine Wp.iT (pc1 := 26) rfl (zb_eqT hc2) rfl ?_
    refine Wp.steps 1 (pc1 := 27) (lo1 := [some (.ref 113), some (.int x1), some (.int x2)]) (st1 := [.int (-1)]) (h1 := mk g) rfl ?_
    obtain ⟨e1, e2⟩ := zb_r2 e
    subst e1
    subst e2
    exact Wp.ret rfl rfl rfl (K _)
/-- EveningFirst.isThing(I)Z -/
def d_91 (x0 : Int32) : Bool :=
  bif zm_cmp .lt x0 0 then (
    false) else
  bif zm_cmp .ge x0 6 then (
    false) else
  true
set_option maxRecDepth 100000 in
set_option maxHeartbeats 4000000 in
theorem w_91 {sc : Option (List Int32)} {d : Nat} (x0 : Int32) (g : G) {r : Bool} (e : d_91 x0 = r) : zB sc (d) 91 0 (zm_ent (z_L 91) [.int x0]) [] (mk g) [.int (zb_i r)] (mk g) := by
  unfold d_91 at e
  intro Q K
  show Wp sc (d) 91 0 [some (.int x0)] [] (mk g) Q
  refine Wp.steps 1 (pc1 := 1) (lo1 := [some (.int x0)]) (st1 := [.int x0]) (h1 := mk g) rfl ?_
  rcases zb_if e with ⟨hc1, e⟩ | ⟨hc1, e⟩
  · skip
    refine Wp.iT (pc1 := 14) rfl hc1 rfl ?_
    refine Wp.steps 1 (pc1 := 15) (lo1 := [some (.int x0)]) (st1 := [.int 0]) (h1 := mk g) rfl ?_
    have e1 := e
    subst e1
    exact Wp.ret rfl rfl rfl (K _)
  · skip
    refine Wp.iF (pc1 := 4) rfl hc1 rfl ?_
    refine Wp.steps 2 (pc1 := 7) (lo1 := [some (.int x0)]) (st1 := [.int 6, .int x0]) (h1 := mk g) rfl ?_
    rcases zb_if e with ⟨hc2, e⟩ | ⟨hc2, e⟩
    · skip
      refine Wp.cT (pc1 := 14) rfl hc2 rfl ?_
      refine Wp.steps 1 (pc1 := 15) (lo1 := [some (.int x0)]) (st1 := [.int 0]) (h1 := mk g) rfl ?_
      have e1 := e
      subst e1
      exact Wp.ret rfl rfl rfl (K _)
    · skip
      refine Wp.cF (pc1 := 10) rfl hc2 rfl ?_
      refine Wp.steps 2 (pc1 := 15) (lo1 := [some (.int x0)]) (st1 := [.int 1]) (h1 := mk g) rfl ?_
      have e1 := e
      subst e1
      exact Wp.ret rfl rfl rfl (K _)
/-- EveningFirst.does(IIIII)I -/
def d_63 (x1 : Int32) (x2 : Int32) (x3 : Int32) (x4 : Int32) (x5 : Int32) (g : G) : Option (Int32 × G) :=
  zb_l (d_19 1 x1 g) fun v1 =>
  bif v1 then (
    zb_l (d_18 1 x2 g) fun v3 =>
    bif v3 then (
      zb_l (d_18 1 x3 g) fun v5 =>
      bif v5 then (
        zb_l (d_91 x4) fun v7 =>
        bif v7 then (
          zb_l (d_92 x5) fun v9 =>
          bif v9 then (
            bif zm_cmp .lt (g 1 2) 8 then (
              Option.bind (zm_ix (g 1 2) 8) fun k12 =>
              zb_l (zg_up g (9 + k12) 0 x1) fun g13 =>
              zb_l (zg_up g13 (9 + k12) 1 x2) fun g14 =>
              zb_l (zg_up g14 (9 + k12) 2 x3) fun g15 =>
              zb_l (zg_up g15 (9 + k12) 3 x4) fun g16 =>
              zb_l (zg_up g16 (9 + k12) 4 x5) fun g17 =>
              zb_l (zg_up g17 (9 + k12) 5 0) fun g18 =>
              zb_l (zg_up g18 (9 + k12) 6 10) fun g19 =>
              zb_l (zg_up g19 1 2 ((g19 1 2) + 1)) fun g20 =>
              some ((g20 1 2), g20)) else
            some ((-3), g)) else
          some ((-1), g)) else
        some ((-1), g)) else
      some ((-1), g)) else
    some ((-1), g)) else
  some ((-1), g)
set_option maxRecDepth 100000 in
set_option maxHeartbeats 4000000 in
theorem w_63 {sc : Option (List Int32)} {d : Nat} (x1 : Int32) (x2 : Int32) (x3 : Int32) (x4 : Int32) (x5 : Int32) (g : G) {r : Int32} {g' : G} (e : d_63 x1 x2 x3 x4 x5 g = some (r, g')) : zB sc (d + 1) 63 0 (zm_ent (z_L 63) [.ref 0, .int x1, .int x2, .int x3, .int x4, .int x5]) [] (mk g) [.int r] (mk g') := by
  unfold d_63 at e
  intro Q K
  show Wp sc (d + 1) 63 0 [some (.ref 0), some (.int x1), some (.int x2), some (.int x3), some (.int x4), some (.int x5), none] [] (mk g) Q
  refine Wp.steps 1 (pc1 := 1) (lo1 := [some (.ref 0), some (.int x1), some (.int x2), some (.int x3), some (.int x4), some (.int x5), none]) (st1 := [.ref 0]) (h1 := mk g) rfl ?_
  refine Wp.gf (pc1 := 4) (v := .ref 1) rfl rfl rfl rfl rfl ?_
  refine Wp.steps 1 (pc1 := 5) (lo1 := [some (.ref 0), some (.int x1), some (.int x2), some (.int x3), some (.int x4), some (.int x5), none]) (st1 := [.int x1, .ref 1]) (h1 := mk g) rfl ?_
  obtain ⟨v1, hvv1, e⟩ := zb_let e
  refine Wp.ca (m := 19) (d1 := d) (as := [.ref 1, .int x1]) (rest := []) (st1 := [.int (zb_i v1)]) (pc1 := 8) rfl rfl rfl rfl rfl rfl rfl rfl (mk_rok rfl rfl rfl rfl) rfl rfl rfl (w_19 (sc := sc) (d := d) 1 x1 rfl g hvv1) ?_
  rcases zb_if e with ⟨hc2, e⟩ | ⟨hc2, e⟩
  · skip
    refine Wp.iF (pc1 := 11) rfl (zb_eqF hc2) rfl ?_
    refine Wp.steps 1 (pc1 := 12) (lo1 := [some (.ref 0), some (.int x1), some (.int x2), some (.int x3), some (.int x4), some (.int x5), none]) (st1 := [.ref 0]) (h1 := mk g) rfl ?_
    refine Wp.gf (pc1 := 15) (v := .ref 1) rfl rfl rfl rfl rfl ?_
    refine Wp.steps 1 (pc1 := 16) (lo1 := [some (.ref 0), some (.int x1), some (.int x2), some (.int x3), some (.int x4), some (.int x5), none]) (st1 := [.int x2, .ref 1]) (h1 := mk g) rfl ?_
    obtain ⟨v3, hvv3, e⟩ := zb_let e
    refine Wp.ca (m := 18) (d1 := d) (as := [.ref 1, .int x2]) (rest := []) (st1 := [.int (zb_i v3)]) (pc1 := 19) rfl rfl rfl rfl rfl rfl rfl rfl (mk_rok rfl rfl rfl rfl) rfl rfl rfl (w_18 (sc := sc) (d := d) 1 x2 rfl g hvv3) ?_
    rcases zb_if e with ⟨hc4, e⟩ | ⟨hc4, e⟩
    · skip
      refine Wp.iF (pc1 := 22) rfl (zb_eqF hc4) rfl ?_
      refine Wp.steps 1 (pc1 := 23) (lo1 := [some (.ref 0), some (.int x1), some (.int x2), some (.int x3), some (.int x4), some (.int x5), none]) (st1 := [.ref 0]) (h1 := mk g) rfl ?_
      refine Wp.gf (pc1 := 26) (v := .ref 1) rfl rfl rfl rfl rfl ?_
      refine Wp.steps 1 (pc1 := 27) (lo1 := [some (.ref 0), some (.int x1), some (.int x2), some (.int x3), some (.int x4), some (.int x5), none]) (st1 := [.int x3, .ref 1]) (h1 := mk g) rfl ?_
      obtain ⟨v5, hvv5, e⟩ := zb_let e
      refine Wp.ca (m := 18) (d1 := d) (as := [.ref 1, .int x3]) (rest := []) (st1 := [.int (zb_i v5)]) (pc1 := 30) rfl rfl rfl rfl rfl rfl rfl rfl (mk_rok rfl rfl rfl rfl) rfl rfl rfl (w_18 (sc := sc) (d := d) 1 x3 rfl g hvv5) ?_
      rcases zb_if e with ⟨hc6, e⟩ | ⟨hc6, e⟩
      · skip
        refine Wp.iF (pc1 := 33) rfl (zb_eqF hc6) rfl ?_
        refine Wp.steps 1 (pc1 := 35) (lo1 := [some (.ref 0), some (.int x1), some (.int x2), some (.int x3), some (.int x4), some (.int x5), none]) (st1 := [.int x4]) (h1 := mk g) rfl ?_
        obtain ⟨v7, hvv7, e⟩ := zb_let e
        refine Wp.ca (m := 91) (d1 := d) (as := [.int x4]) (rest := []) (st1 := [.int (zb_i v7)]) (pc1 := 38) rfl rfl rfl rfl rfl rfl rfl rfl rfl rfl rfl rfl (w_91 (sc := sc) (d := d) x4 g hvv7) ?_
        rcases zb_if e with ⟨hc8, e⟩ | ⟨hc8, e⟩
        · skip
          refine Wp.iF (pc1 := 41) rfl (zb_eqF hc8) rfl ?_
          refine Wp.steps 1 (pc1 := 43) (lo1 := [some (.ref 0), some (.int x1), some (.int x2), some (.int x3), some (.int x4), some (.int x5), none]) (st1 := [.int x5]) (h1 := mk g) rfl ?_
          obtain ⟨v9, hvv9, e⟩ := zb_let e
          refine Wp.ca (m := 92) (d1 := d) (as := [.int x5]) (rest := []) (st1 := [.int (zb_i v9)]) (pc1 := 46) rfl rfl rfl rfl rfl rfl rfl rfl rfl rfl rfl rfl (w_92 (sc := sc) (d := d) x5 g hvv9) ?_
          rcases zb_if e with ⟨hc10, e⟩ | ⟨hc10, e⟩
          · skip
            refine Wp.iT (pc1 := 51) rfl (zb_neT hc10) rfl ?_
            refine Wp.steps 1 (pc1 := 52) (lo1 := [some (.ref 0), some (.int x1), some (.int x2), some (.int x3), some (.int x4), some (.int x5), none]) (st1 := [.ref 0]) (h1 := mk g) rfl ?_
            refine Wp.gf (pc1 := 55) (v := .ref 1) rfl rfl rfl rfl rfl ?_
            refine Wp.gf (pc1 := 58) (v := .int (g 1 2)) rfl rfl rfl rfl rfl ?_
            refine Wp.steps 1 (pc1 := 60) (lo1 := [some (.ref 0), some (.int x1), some (.int x2), some (.int x3), some (.int x4), some (.int x5), none]) (st1 := [.int 8, .int (g 1 2)]) (h1 := mk g) rfl ?_
            rcases zb_if e with ⟨hc11, e⟩ | ⟨hc11, e⟩
            · skip
              refine Wp.cT (pc1 := 66) rfl hc11 rfl ?_
              refine Wp.steps 1 (pc1 := 67) (lo1 := [some (.ref 0), some (.int x1), some (.int x2), some (.int x3), some (.int x4), some (.int x5), none]) (st1 := [.ref 0]) (h1 := mk g) rfl ?_
              refine Wp.gf (pc1 := 70) (v := .ref 1) rfl rfl rfl rfl rfl ?_
              refine Wp.gf (pc1 := 73) (v := .ref 3) rfl rfl rfl rfl rfl ?_
              refine Wp.steps 1 (pc1 := 74) (lo1 := [some (.ref 0), some (.int x1), some (.int x2), some (.int x3), some (.int x4), some (.int x5), none]) (st1 := [.ref 0, .ref 3]) (h1 := mk g) rfl ?_
              refine Wp.gf (pc1 := 77) (v := .ref 1) rfl rfl rfl rfl rfl ?_
              refine Wp.gf (pc1 := 80) (v := .int (g 1 2)) rfl rfl rfl rfl rfl ?_
              obtain ⟨k12, hk12, e⟩ := zb_bind e
              refine Wp.aa (pc1 := 81) (v := (9 + k12)) rfl (zg_rdeeds (b := 1) rfl) rfl hk12 (by omega) rfl ?_
              refine Wp.steps 3 (pc1 := 86) (lo1 := [some (.ref 0), some (.int x1), some (.int x2), some (.int x3), some (.int x4), some (.int x5), some (.ref (9 + k12))]) (st1 := [.int x1, .ref (9 + k12)]) (h1 := mk g) rfl ?_
              obtain ⟨g13, hg13, e⟩ := zb_let e
              refine Wp.pf (pc1 := 89) rfl (zg_deed (b := 1) rfl hk12) rfl rfl rfl rfl hg13 rfl ?_
              refine Wp.steps 2 (pc1 := 92) (lo1 := [some (.ref 0), some (.int x1), some (.int x2), some (.int x3), some (.int x4), some (.int x5), some (.ref (9 + k12))]) (st1 := [.int x2, .ref (9 + k12)]) (h1 := mk g13) rfl ?_
              obtain ⟨g14, hg14, e⟩ := zb_let e
              refine Wp.pf (pc1 := 95) rfl (zg_deed (b := 1) rfl hk12) rfl rfl rfl rfl hg14 rfl ?_
              refine Wp.steps 2 (pc1 := 98) (lo1 := [some (.ref 0), some (.int x1), some (.int x2), some (.int x3), some (.int x4), some (.int x5), some (.ref (9 + k12))]) (st1 := [.int x3, .ref (9 + k12)]) (h1 := mk g14) rfl ?_
              obtain ⟨g15, hg15, e⟩ := zb_let e
              refine Wp.pf (pc1 := 101) rfl (zg_deed (b := 1) rfl hk12) rfl rfl rfl rfl hg15 rfl ?_
              refine Wp.steps 2 (pc1 := 105) (lo1 := [some (.ref 0), some (.int x1), some (.int x2), some (.int x3), some (.int x4), some (.int x5), some (.ref (9 + k12))]) (st1 := [.int x4, .ref (9 + k12)]) (h1 := mk g15) rfl ?_
              obtain ⟨g16, hg16, e⟩ := zb_let e
              refine Wp.pf (pc1 := 108) rfl (zg_deed (b := 1) rfl hk12) rfl rfl rfl rfl hg16 rfl ?_
              refine Wp.steps 2 (pc1 := 112) (lo1 := [some (.ref 0), some (.int x1), some (.int x2), some (.int x3), some (.int x4), some (.int x5), some (.ref (9 + k12))]) (st1 := [.int x5, .ref (9 + k12)]) (h1 := mk g16) rfl ?_
              obtain ⟨g17, hg17, e⟩ := zb_let e
              refine Wp.pf (pc1 := 115) rfl (zg_deed (b := 1) rfl hk12) rfl rfl rfl rfl hg17 rfl ?_
              refine Wp.steps 2 (pc1 := 118) (lo1 := [some (.ref 0), some (.int x1), some (.int x2), some (.int x3), some (.int x4), some (.int x5), some (.ref (9 + k12))]) (st1 := [.int 0, .ref (9 + k12)]) (h1 := mk g17) rfl ?_
              obtain ⟨g18, hg18, e⟩ := zb_let e
              refine Wp.pf (pc1 := 121) rfl (zg_deed (b := 1) rfl hk12) rfl rfl rfl rfl hg18 rfl ?_
              refine Wp.steps 2 (pc1 := 125) (lo1 := [some (.ref 0), some (.int x1), some (.int x2), some (.int x3), some (.int x4), some (.int x5), some (.ref (9 + k12))]) (st1 := [.int 10, .ref (9 + k12)]) (h1 := mk g18) rfl ?_
              obtain ⟨g19, hg19, e⟩ := zb_let e
              refine Wp.pf (pc1 := 128) rfl (zg_deed (b := 1) rfl hk12) rfl rfl rfl rfl hg19 rfl ?_
              refine Wp.steps 1 (pc1 := 129) (lo1 := [some (.ref 0), some (.int x1), some (.int x2), some (.int x3), some (.int x4), some (.int x5), some (.ref (9 + k12))]) (st1 := [.ref 0]) (h1 := mk g19) rfl ?_
              refine Wp.gf (pc1 := 132) (v := .ref 1) rfl rfl rfl rfl rfl ?_
              refine Wp.steps 1 (pc1 := 133) (lo1 := [some (.ref 0), some (.int x1), some (.int x2), some (.int x3), some (.int x4), some (.int x5), some (.ref (9 + k12))]) (st1 := [.ref 1, .ref 1]) (h1 := mk g19) rfl ?_
              refine Wp.gf (pc1 := 136) (v := .int (g19 1 2)) rfl rfl rfl rfl rfl ?_
              refine Wp.steps 2 (pc1 := 138) (lo1 := [some (.ref 0), some (.int x1), some (.int x2), some (.int x3), some (.int x4), some (.int x5), some (.ref (9 + k12))]) (st1 := [.int ((g19 1 2) + 1), .ref 1]) (h1 := mk g19) rfl ?_
              obtain ⟨g20, hg20, e⟩ := zb_let e
              refine Wp.pf (pc1 := 141) rfl rfl rfl rfl rfl rfl hg20 rfl ?_
              refine Wp.steps 1 (pc1 := 142) (lo1 := [some (.ref 0), some (.int x1), some (.int x2), some (.int x3), some (.int x4), some (.int x5), some (.ref (9 + k12))]) (st1 := [.ref 0]) (h1 := mk g20) rfl ?_
              refine Wp.gf (pc1 := 145) (v := .ref 1) rfl rfl rfl rfl rfl ?_
              refine Wp.gf (pc1 := 148) (v := .int (g20 1 2)) rfl rfl rfl rfl rfl ?_
              obtain ⟨e1, e2⟩ := zb_r2 e
              subst e1
              subst e2
              exact Wp.ret rfl rfl rfl (K _)
            · skip
              refine Wp.cF (pc1 := 63) rfl hc11 rfl ?_
              refine Wp.steps 1 (pc1 := 65) (lo1 := [some (.ref 0), some (.int x1), some (.int x2), some (.int x3), some (.int x4), some (.int x5), none]) (st1 := [.int (-3)]) (h1 := mk g) rfl ?_
              obtain ⟨e1, e2⟩ := zb_r2 e
              subst e1
              subst e2
              exact Wp.ret rfl rfl rfl (K _)
          · skip
            refine Wp.iF (pc1 := 49) rfl (zb_neF hc10) rfl ?_
            refine Wp.steps 1 (pc1 := 50) (lo1 := [some (.ref 0), some (.int x1), some (.int x2), some (.int x3), some (.int x4), some (.int x5), none]) (st1 := [.int (-1)]) (h1 := mk g) rfl ?_
            obtain ⟨e1, e2⟩ := zb_r2 e
            subst e1
            subst e2
            exact Wp.ret rfl rfl rfl (K _)
        · skip
          refine Wp.iT (pc1 := 49) rfl (zb_eqT hc8) rfl ?_
          refine Wp.steps 1 (pc1 := 50) (lo1 := [some (.ref 0), some (.int x1), some (.int x2), some (.int x3), some (.int x4), some (.int x5), none]) (st1 := [.int (-1)]) (h1 := mk g) rfl ?_
          obtain ⟨e1, e2⟩ := zb_r2 e
          subst e1
          subst e2
          exact Wp.ret rfl rfl rfl (K _)
      · skip
        refine Wp.iT (pc1 := 49) rfl (zb_eqT hc6) rfl ?_
        refine Wp.steps 1 (pc1 := 50) (lo1 := [some (.ref 0), some (.int x1), some (.int x2), some (.int x3), some (.int x4), some (.int x5), none]) (st1 := [.int (-1)]) (h1 := mk g) rfl ?_
        obtain ⟨e1, e2⟩ := zb_r2 e
        subst e1
        subst e2
        exact Wp.ret rfl rfl rfl (K _)
    · skip
      refine Wp.iT (pc1 := 49) rfl (zb_eqT hc4) rfl ?_
      refine Wp.steps 1 (pc1 := 50) (lo1 := [some (.ref 0), some (.int x1), some (.int x2), some (.int x3), some (.int x4), some (.int x5), none]) (st1 := [.int (-1)]) (h1 := mk g) rfl ?_
      obtain ⟨e1, e2⟩ := zb_r2 e
      subst e1
      subst e2
      exact Wp.ret rfl rfl rfl (K _)
  · skip
    refine Wp.iT (pc1 := 49) rfl (zb_eqT hc2) rfl ?_
    refine Wp.steps 1 (pc1 := 50) (lo1 := [some (.ref 0), some (.int x1), some (.int x2), some (.int x3), some (.int x4), some (.int x5), none]) (st1 := [.int (-1)]) (h1 := mk g) rfl ?_
    obtain ⟨e1, e2⟩ := zb_r2 e
    subst e1
    subst e2
    exact Wp.ret rfl rfl rfl (K _)
