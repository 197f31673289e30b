/-! printed by wip/tools/den.py -/
/-- EveningFirst.feed(I)I -/
def d_54 (x1 : Int32) (g : G) : Option (Int32 × G) :=
  bif zm_cmp .lt x1 0 then (
    some ((-1), g)) else
  bif zm_cmp .le x1 127 then (
    bif zm_cmp .lt (g 28 1) 160 then (
      Option.bind (zm_ix (g 28 1) 160) fun k5 =>
      zb_l (zg_up g 29 k5 (zm_nar 1 ((Int32.toInt8 x1).toInt32))) fun g4 =>
      zb_l (zg_up g4 28 1 ((g4 28 1) + 1)) fun g6 =>
      some ((g6 28 1), g6)) else
    some ((-3), g)) else
  some ((-1), g)
set_option maxRecDepth 100000 in
set_option maxHeartbeats 4000000 in
theorem w_54 {sc : Option (List Int32)} {d : Nat} (x1 : Int32) (g : G) {r : Int32} {g' : G} (e : d_54 x1 g = some (r, g')) : zB sc (d) 54 0 (zm_ent (z_L 54) [.ref 0, .int x1]) [] (mk g) [.int r] (mk g') := by
  unfold d_54 at e
  intro Q K
  show Wp sc (d) 54 0 [some (.ref 0), some (.int x1)] [] (mk g) Q
  refine Wp.steps 1 (pc1 := 1) (lo1 := [some (.ref 0), some (.int x1)]) (st1 := [.int x1]) (h1 := mk g) rfl ?_
  rcases zb_if e with ⟨hc1, e⟩ | ⟨hc1, e⟩
  · skip
    refine Wp.iT (pc1 := 10) rfl hc1 rfl ?_
    refine Wp.steps 1 (pc1 := 11) (lo1 := [some (.ref 0), some (.int x1)]) (st1 := [.int (-1)]) (h1 := mk g) rfl ?_
    obtain ⟨e1, e2⟩ := zb_r2 e
    subst e1
    subst e2
    exact Wp.ret rfl rfl rfl (K _)
  · skip
    refine Wp.iF (pc1 := 4) rfl hc1 rfl ?_
    refine Wp.steps 2 (pc1 := 7) (lo1 := [some (.ref 0), some (.int x1)]) (st1 := [.int 127, .int x1]) (h1 := mk g) rfl ?_
    rcases zb_if e with ⟨hc2, e⟩ | ⟨hc2, e⟩
    · skip
      refine Wp.cT (pc1 := 12) rfl hc2 rfl ?_
      refine Wp.steps 1 (pc1 := 13) (lo1 := [some (.ref 0), some (.int x1)]) (st1 := [.ref 0]) (h1 := mk g) rfl ?_
      refine Wp.gf (pc1 := 16) (v := .ref 28) rfl rfl rfl rfl rfl ?_
      refine Wp.gf (pc1 := 19) (v := .int (g 28 1)) rfl rfl rfl rfl rfl ?_
      refine Wp.steps 1 (pc1 := 22) (lo1 := [some (.ref 0), some (.int x1)]) (st1 := [.int 160, .int (g 28 1)]) (h1 := mk g) rfl ?_
      rcases zb_if e with ⟨hc3, e⟩ | ⟨hc3, e⟩
      · skip
        refine Wp.cT (pc1 := 28) rfl hc3 rfl ?_
        refine Wp.steps 1 (pc1 := 29) (lo1 := [some (.ref 0), some (.int x1)]) (st1 := [.ref 0]) (h1 := mk g) rfl ?_
        refine Wp.gf (pc1 := 32) (v := .ref 28) rfl rfl rfl rfl rfl ?_
        refine Wp.gf (pc1 := 35) (v := .ref 29) rfl rfl rfl rfl rfl ?_
        refine Wp.steps 1 (pc1 := 36) (lo1 := [some (.ref 0), some (.int x1)]) (st1 := [.ref 0, .ref 29]) (h1 := mk g) rfl ?_
        refine Wp.gf (pc1 := 39) (v := .ref 28) rfl rfl rfl rfl rfl ?_
        refine Wp.gf (pc1 := 42) (v := .int (g 28 1)) rfl rfl rfl rfl rfl ?_
        refine Wp.steps 2 (pc1 := 44) (lo1 := [some (.ref 0), some (.int x1)]) (st1 := [.int ((Int32.toInt8 x1).toInt32), .int (g 28 1), .ref 29]) (h1 := mk g) rfl ?_
        obtain ⟨k5, hk5, e⟩ := zb_bind e
        obtain ⟨g4, hg4, e⟩ := zb_let e
        refine Wp.bas (pc1 := 45) rfl rfl rfl hk5 hg4 rfl ?_
        refine Wp.steps 1 (pc1 := 46) (lo1 := [some (.ref 0), some (.int x1)]) (st1 := [.ref 0]) (h1 := mk g4) rfl ?_
        refine Wp.gf (pc1 := 49) (v := .ref 28) rfl rfl rfl rfl rfl ?_
        refine Wp.steps 1 (pc1 := 50) (lo1 := [some (.ref 0), some (.int x1)]) (st1 := [.ref 28, .ref 28]) (h1 := mk g4) rfl ?_
        refine Wp.gf (pc1 := 53) (v := .int (g4 28 1)) rfl rfl rfl rfl rfl ?_
        refine Wp.steps 2 (pc1 := 55) (lo1 := [some (.ref 0), some (.int x1)]) (st1 := [.int ((g4 28 1) + 1), .ref 28]) (h1 := mk g4) rfl ?_
        obtain ⟨g6, hg6, e⟩ := zb_let e
        refine Wp.pf (pc1 := 58) rfl rfl rfl rfl rfl rfl hg6 rfl ?_
        refine Wp.steps 1 (pc1 := 59) (lo1 := [some (.ref 0), some (.int x1)]) (st1 := [.ref 0]) (h1 := mk g6) rfl ?_
        refine Wp.gf (pc1 := 62) (v := .ref 28) rfl rfl rfl rfl rfl ?_
        refine Wp.gf (pc1 := 65) (v := .int (g6 28 1)) rfl rfl rfl rfl rfl ?_
        obtain ⟨e1, e2⟩ := zb_r2 e
        subst e1
        subst e2
        exact Wp.ret rfl rfl rfl (K _)
      · skip
        refine Wp.cF (pc1 := 25) rfl hc3 rfl ?_
        refine Wp.steps 1 (pc1 := 27) (lo1 := [some (.ref 0), some (.int x1)]) (st1 := [.int (-3)]) (h1 := mk g) rfl ?_
        obtain ⟨e1, e2⟩ := zb_r2 e
        subst e1
        subst e2
        exact Wp.ret rfl rfl rfl (K _)
    · skip
      refine Wp.cF (pc1 := 10) rfl hc2 rfl ?_
      refine Wp.steps 1 (pc1 := 11) (lo1 := [some (.ref 0), some (.int x1)]) (st1 := [.int (-1)]) (h1 := mk g) rfl ?_
      obtain ⟨e1, e2⟩ := zb_r2 e
      subst e1
      subst e2
      exact Wp.ret rfl rfl rfl (K _)
/-- EveningFirstModel.in(JJJ)Z -/
def d_107 (x0 : Int64) (x2 : Int64) (x4 : Int64) : Bool :=
  bif zm_cmp .lt (lg_cmp x0 x2) 0 then (
    false) else
  bif zm_cmp .gt (lg_cmp x0 x4) 0 then (
    false) else
  true
set_option maxRecDepth 100000 in
set_option maxHeartbeats 4000000 in
theorem w_107 {sc : Option (List Int32)} {d : Nat} (x0 : Int64) (x2 : Int64) (x4 : Int64) (g : G) {r : Bool} (e : d_107 x0 x2 x4 = r) : zB sc (d) 107 0 (zm_ent (z_L 107) [.long x0, .long x2, .long x4]) [] (mk g) [.int (zb_i r)] (mk g) := by
  unfold d_107 at e
  intro Q K
  show Wp sc (d) 107 0 [some (.long x0), none, some (.long x2), none, some (.long x4), none] [] (mk g) Q
  refine Wp.steps 3 (pc1 := 3) (lo1 := [some (.long x0), none, some (.long x2), none, some (.long x4), none]) (st1 := [.int (lg_cmp x0 x2)]) (h1 := mk g) rfl ?_
  rcases zb_if e with ⟨hc1, e⟩ | ⟨hc1, e⟩
  · skip
    refine Wp.iT (pc1 := 17) rfl hc1 rfl ?_
    refine Wp.steps 1 (pc1 := 18) (lo1 := [some (.long x0), none, some (.long x2), none, some (.long x4), none]) (st1 := [.int 0]) (h1 := mk g) rfl ?_
    have e1 := e
    subst e1
    exact Wp.ret rfl rfl rfl (K _)
  · skip
    refine Wp.iF (pc1 := 6) rfl hc1 rfl ?_
    refine Wp.steps 3 (pc1 := 10) (lo1 := [some (.long x0), none, some (.long x2), none, some (.long x4), none]) (st1 := [.int (lg_cmp x0 x4)]) (h1 := mk g) rfl ?_
    rcases zb_if e with ⟨hc2, e⟩ | ⟨hc2, e⟩
    · skip
      refine Wp.iT (pc1 := 17) rfl hc2 rfl ?_
      refine Wp.steps 1 (pc1 := 18) (lo1 := [some (.long x0), none, some (.long x2), none, some (.long x4), none]) (st1 := [.int 0]) (h1 := mk g) rfl ?_
      have e1 := e
      subst e1
      exact Wp.ret rfl rfl rfl (K _)
    · skip
      refine Wp.iF (pc1 := 13) rfl hc2 rfl ?_
      refine Wp.steps 2 (pc1 := 18) (lo1 := [some (.long x0), none, some (.long x2), none, some (.long x4), none]) (st1 := [.int 1]) (h1 := mk g) rfl ?_
      have e1 := e
      subst e1
      exact Wp.ret rfl rfl rfl (K _)
/-- EveningFirstModel.feed(I)I -/
def d_111 (x1 : Int32) (g : G) : Option (Int32 × G) :=
  zb_l (d_107 (Int32.toInt64 x1) 0 127) fun v1 =>
  bif v1 then (
    bif zm_cmp .ne (g 113 14) 160 then (
      Option.bind (zm_ix (g 113 14) 160) fun k5 =>
      zb_l (zg_up g 117 k5 x1) fun g4 =>
      zb_l (zg_up g4 113 14 ((g4 113 14) + 1)) fun g6 =>
      some ((g6 113 14), g6)) else
    some ((-3), g)) else
  some ((-1), g)
set_option maxRecDepth 100000 in
set_option maxHeartbeats 4000000 in
theorem w_111 {sc : Option (List Int32)} {d : Nat} (x1 : Int32) (g : G) {r : Int32} {g' : G} (e : d_111 x1 g = some (r, g')) : zB sc (d + 1) 111 0 (zm_ent (z_L 111) [.ref 113, .int x1]) [] (mk g) [.int r] (mk g') := by
  unfold d_111 at e
  intro Q K
  show Wp sc (d + 1) 111 0 [some (.ref 113), some (.int x1)] [] (mk g) Q
  refine Wp.steps 4 (pc1 := 6) (lo1 := [some (.ref 113), some (.int x1)]) (st1 := [.long 127, .long 0, .long (Int32.toInt64 x1)]) (h1 := mk g) rfl ?_
  obtain ⟨v1, hvv1, e⟩ := zb_let e
  refine Wp.ca (m := 107) (d1 := d) (as := [.long (Int32.toInt64 x1), .long 0, .long 127]) (rest := []) (st1 := [.int (zb_i v1)]) (pc1 := 9) rfl rfl rfl rfl rfl rfl rfl rfl rfl rfl rfl rfl (w_107 (sc := sc) (d := d) (Int32.toInt64 x1) 0 127 g hvv1) ?_
  rcases zb_if e with ⟨hc2, e⟩ | ⟨hc2, e⟩
  · skip
    refine Wp.iT (pc1 := 14) rfl (zb_neT hc2) rfl ?_
    refine Wp.steps 1 (pc1 := 15) (lo1 := [some (.ref 113), some (.int x1)]) (st1 := [.ref 113]) (h1 := mk g) rfl ?_
    refine Wp.gf (pc1 := 18) (v := .int (g 113 14)) rfl rfl rfl rfl rfl ?_
    refine Wp.steps 1 (pc1 := 21) (lo1 := [some (.ref 113), some (.int x1)]) (st1 := [.int 160, .int (g 113 14)]) (h1 := mk g) rfl ?_
    rcases zb_if e with ⟨hc3, e⟩ | ⟨hc3, e⟩
    · skip
      refine Wp.cT (pc1 := 27) rfl hc3 rfl ?_
      refine Wp.steps 1 (pc1 := 28) (lo1 := [some (.ref 113), some (.int x1)]) (st1 := [.ref 113]) (h1 := mk g) rfl ?_
      refine Wp.gf (pc1 := 31) (v := .ref 117) rfl rfl rfl rfl rfl ?_
      refine Wp.steps 1 (pc1 := 32) (lo1 := [some (.ref 113), some (.int x1)]) (st1 := [.ref 113, .ref 117]) (h1 := mk g) rfl ?_
      refine Wp.gf (pc1 := 35) (v := .int (g 113 14)) rfl rfl rfl rfl rfl ?_
      refine Wp.steps 1 (pc1 := 36) (lo1 := [some (.ref 113), some (.int x1)]) (st1 := [.int x1, .int (g 113 14), .ref 117]) (h1 := mk g) rfl ?_
      obtain ⟨k5, hk5, e⟩ := zb_bind e
      obtain ⟨g4, hg4, e⟩ := zb_let e
      refine Wp.ias (pc1 := 37) rfl rfl rfl hk5 hg4 rfl ?_
      refine Wp.steps 2 (pc1 := 39) (lo1 := [some (.ref 113), some (.int x1)]) (st1 := [.ref 113, .ref 113]) (h1 := mk g4) rfl ?_
      refine Wp.gf (pc1 := 42) (v := .int (g4 113 14)) rfl rfl rfl rfl rfl ?_
      refine Wp.steps 2 (pc1 := 44) (lo1 := [some (.ref 113), some (.int x1)]) (st1 := [.int ((g4 113 14) + 1), .ref 113]) (h1 := mk g4) rfl ?_
      obtain ⟨g6, hg6, e⟩ := zb_let e
      refine Wp.pf (pc1 := 47) rfl rfl rfl rfl rfl rfl hg6 rfl ?_
      refine Wp.steps 1 (pc1 := 48) (lo1 := [some (.ref 113), some (.int x1)]) (st1 := [.ref 113]) (h1 := mk g6) rfl ?_
      refine Wp.gf (pc1 := 51) (v := .int (g6 113 14)) rfl rfl rfl rfl rfl ?_
      obtain ⟨e1, e2⟩ := zb_r2 e
      subst e1
      subst e2
      exact Wp.ret rfl rfl rfl (K _)
    · skip
      refine Wp.cF (pc1 := 24) rfl hc3 rfl ?_
      refine Wp.steps 1 (pc1 := 26) (lo1 := [some (.ref 113), some (.int x1)]) (st1 := [.int (-3)]) (h1 := mk g) rfl ?_
      obtain ⟨e1, e2⟩ := zb_r2 e
      subst e1
      subst e2
      exact Wp.ret rfl rfl rfl (K _)
  · skip
    refine Wp.iF (pc1 := 12) rfl (zb_neF hc2) rfl ?_
    refine Wp.steps 1 (pc1 := 13) (lo1 := [some (.ref 113), some (.int x1)]) (st1 := [.int (-1)]) (h1 := mk g) rfl ?_
    obtain ⟨e1, e2⟩ := zb_r2 e
    subst e1
    subst e2
    exact Wp.ret rfl rfl rfl (K _)
/-- EveningFirst.end(I)I -/
def d_55 (x1 : Int32) (g : G) : Int32 × G :=
  bif zm_cmp .lt x1 0 then (
    ((-1), g)) else
  bif zm_cmp .le x1 (g 28 1) then (
    zb_l (zg_up g 28 1 x1) fun g3 =>
    ((g 28 1), g3)) else
  ((-1), g)
set_option maxRecDepth 100000 in
set_option maxHeartbeats 4000000 in
theorem w_55 {sc : Option (List Int32)} {d : Nat} (x1 : Int32) (g : G) {r : Int32} {g' : G} (e : d_55 x1 g = (r, g')) : zB sc (d) 55 0 (zm_ent (z_L 55) [.ref 0, .int x1]) [] (mk g) [.int r] (mk g') := by
  unfold d_55 at e
  intro Q K
  show Wp sc (d) 55 0 [some (.ref 0), some (.int x1), none] [] (mk g) Q
  refine Wp.steps 1 (pc1 := 1) (lo1 := [some (.ref 0), some (.int x1), none]) (st1 := [.ref 0]) (h1 := mk g) rfl ?_
  refine Wp.gf (pc1 := 4) (v := .ref 28) rfl rfl rfl rfl rfl ?_
  refine Wp.gf (pc1 := 7) (v := .int (g 28 1)) rfl rfl rfl rfl rfl ?_
  refine Wp.steps 2 (pc1 := 9) (lo1 := [some (.ref 0), some (.int x1), some (.int (g 28 1))]) (st1 := [.int x1]) (h1 := mk g) rfl ?_
  rcases zb_if e with ⟨hc1, e⟩ | ⟨hc1, e⟩
  · skip
    refine Wp.iT (pc1 := 17) rfl hc1 rfl ?_
    refine Wp.steps 1 (pc1 := 18) (lo1 := [some (.ref 0), some (.int x1), some (.int (g 28 1))]) (st1 := [.int (-1)]) (h1 := mk g) rfl ?_
    obtain ⟨e1, e2⟩ := zb_q2 e
    subst e1
    subst e2
    exact Wp.ret rfl rfl rfl (K _)
  · skip
    refine Wp.iF (pc1 := 12) rfl hc1 rfl ?_
    refine Wp.steps 2 (pc1 := 14) (lo1 := [some (.ref 0), some (.int x1), some (.int (g 28 1))]) (st1 := [.int (g 28 1), .int x1]) (h1 := mk g) rfl ?_
    rcases zb_if e with ⟨hc2, e⟩ | ⟨hc2, e⟩
    · skip
      refine Wp.cT (pc1 := 19) rfl hc2 rfl ?_
      refine Wp.steps 1 (pc1 := 20) (lo1 := [some (.ref 0), some (.int x1), some (.int (g 28 1))]) (st1 := [.ref 0]) (h1 := mk g) rfl ?_
      refine Wp.gf (pc1 := 23) (v := .ref 28) rfl rfl rfl rfl rfl ?_
      refine Wp.steps 1 (pc1 := 24) (lo1 := [some (.ref 0), some (.int x1), some (.int (g 28 1))]) (st1 := [.int x1, .ref 28]) (h1 := mk g) rfl ?_
      obtain ⟨g3, hg3, e⟩ := zb_let e
      refine Wp.pf (pc1 := 27) rfl rfl rfl rfl rfl rfl hg3 rfl ?_
      refine Wp.steps 1 (pc1 := 28) (lo1 := [some (.ref 0), some (.int x1), some (.int (g 28 1))]) (st1 := [.int (g 28 1)]) (h1 := mk g3) rfl ?_
      obtain ⟨e1, e2⟩ := zb_q2 e
      subst e1
      subst e2
      exact Wp.ret rfl rfl rfl (K _)
    · skip
      refine Wp.cF (pc1 := 17) rfl hc2 rfl ?_
      refine Wp.steps 1 (pc1 := 18) (lo1 := [some (.ref 0), some (.int x1), some (.int (g 28 1))]) (st1 := [.int (-1)]) (h1 := mk g) rfl ?_
      obtain ⟨e1, e2⟩ := zb_q2 e
      subst e1
      subst e2
      exact Wp.ret rfl rfl rfl (K _)
/-- EveningFirstModel.end(I)I -/
def d_112 (x1 : Int32) (g : G) : Int32 × G :=
  zb_l (d_107 (Int32.toInt64 x1) 0 (Int32.toInt64 (g 113 14))) fun v1 =>
  bif v1 then (
    zb_l (zg_up g 113 14 x1) fun g3 =>
    ((g 113 14), g3)) else
  ((-1), g)
set_option maxRecDepth 100000 in
set_option maxHeartbeats 4000000 in
theorem w_112 {sc : Option (List Int32)} {d : Nat} (x1 : Int32) (g : G) {r : Int32} {g' : G} (e : d_112 x1 g = (r, g')) : zB sc (d + 1) 112 0 (zm_ent (z_L 112) [.ref 113, .int x1]) [] (mk g) [.int r] (mk g') := by
  unfold d_112 at e
  intro Q K
  show Wp sc (d + 1) 112 0 [some (.ref 113), some (.int x1), none] [] (mk g) Q
  refine Wp.steps 4 (pc1 := 4) (lo1 := [some (.ref 113), some (.int x1), none]) (st1 := [.ref 113, .long 0, .long (Int32.toInt64 x1)]) (h1 := mk g) rfl ?_
  refine Wp.gf (pc1 := 7) (v := .int (g 113 14)) rfl rfl rfl rfl rfl ?_
  refine Wp.steps 1 (pc1 := 8) (lo1 := [some (.ref 113), some (.int x1), none]) (st1 := [.long (Int32.toInt64 (g 113 14)), .long 0, .long (Int32.toInt64 x1)]) (h1 := mk g) rfl ?_
  obtain ⟨v1, hvv1, e⟩ := zb_let e
  refine Wp.ca (m := 107) (d1 := d) (as := [.long (Int32.toInt64 x1), .long 0, .long (Int32.toInt64 (g 113 14))]) (rest := []) (st1 := [.int (zb_i v1)]) (pc1 := 11) rfl rfl rfl rfl rfl rfl rfl rfl rfl rfl rfl rfl (w_107 (sc := sc) (d := d) (Int32.toInt64 x1) 0 (Int32.toInt64 (g 113 14)) g hvv1) ?_
  rcases zb_if e with ⟨hc2, e⟩ | ⟨hc2, e⟩
  · skip
    refine Wp.iT (pc1 := 16) rfl (zb_neT hc2) rfl ?_
    refine Wp.steps 1 (pc1 := 17) (lo1 := [some (.ref 113), some (.int x1), none]) (st1 := [.ref 113]) (h1 := mk g) rfl ?_
    refine Wp.gf (pc1 := 20) (v := .int (g 113 14)) rfl rfl rfl rfl rfl ?_
    refine Wp.steps 3 (pc1 := 23) (lo1 := [some (.ref 113), some (.int x1), some (.int (g 113 14))]) (st1 := [.int x1, .ref 113]) (h1 := mk g) rfl ?_
    obtain ⟨g3, hg3, e⟩ := zb_let e
    refine Wp.pf (pc1 := 26) rfl rfl rfl rfl rfl rfl hg3 rfl ?_
    refine Wp.steps 1 (pc1 := 27) (lo1 := [some (.ref 113), some (.int x1), some (.int (g 113 14))]) (st1 := [.int (g 113 14)]) (h1 := mk g3) rfl ?_
    obtain ⟨e1, e2⟩ := zb_q2 e
    subst e1
    subst e2
    exact Wp.ret rfl rfl rfl (K _)
  · skip
    refine Wp.iF (pc1 := 14) rfl (zb_neF hc2) rfl ?_
    refine Wp.steps 1 (pc1 := 15) (lo1 := [some (.ref 113), some (.int x1), none]) (st1 := [.int (-1)]) (h1 := mk g) rfl ?_
    obtain ⟨e1, e2⟩ := zb_q2 e
    subst e1
    subst e2
    exact Wp.ret rfl rfl rfl (K _)
def d_16_22 (r0 : Nat) : Nat → Int32 → G → Option G
  | 0, _, _ => none
  | f + 1, x1, g =>
    bif zm_cmp .ge x1 8 then (
      some g) else
    Option.bind (zm_ix x1 8) fun k6 =>
    zb_l (zg_up g (r0 + 8 + k6) 5 0) fun g7 =>
    Option.bind (zm_ix x1 8) fun k8 =>
    zb_l (zg_up g7 (r0 + 8 + k8) 6 10) fun g9 =>
    d_16_22 r0 f (x1 + 1) g9
set_option maxRecDepth 100000 in
set_option maxHeartbeats 4000000 in
theorem w_16_22 {sc : Option (List Int32)} {d : Nat} (r0 : Nat) (h0 : zg_cl r0 = 2) : ∀ (f : Nat) (x1 : Int32) (g : G) (g' : G), d_16_22 r0 f x1 g = some g' → zB sc (d) 16 22 [some (.ref r0), some (.int x1)] [] (mk g) [] (mk g') := by
  intro f
  induction f with
  | zero =>
    intro x1 g g' e
    rw [d_16_22.eq_1] at e
    cases e
  | succ f ih =>
    intro x1 g g' e
    rw [d_16_22.eq_2] at e
    intro Q K
    refine Wp.steps 2 (pc1 := 25) (lo1 := [some (.ref r0), some (.int x1)]) (st1 := [.int 8, .int x1]) (h1 := mk g) rfl ?_
    rcases zb_if e with ⟨hc5, e⟩ | ⟨hc5, e⟩
    · skip
      refine Wp.cT (pc1 := 55) rfl hc5 rfl ?_
      have e1 := zb_r1 e
      subst e1
      exact Wp.ret rfl rfl rfl (K _)
    · skip
      refine Wp.cF (pc1 := 28) rfl hc5 rfl ?_
      refine Wp.steps 1 (pc1 := 29) (lo1 := [some (.ref r0), some (.int x1)]) (st1 := [.ref r0]) (h1 := mk g) rfl ?_
      refine Wp.gf (pc1 := 32) (v := .ref (r0 + 2)) rfl h0 rfl rfl rfl ?_
      refine Wp.steps 1 (pc1 := 33) (lo1 := [some (.ref r0), some (.int x1)]) (st1 := [.int x1, .ref (r0 + 2)]) (h1 := mk g) rfl ?_
      obtain ⟨k6, hk6, e⟩ := zb_bind e
      refine Wp.aa (pc1 := 34) (v := (r0 + 8 + k6)) rfl (zg_rdeeds (b := r0) h0) rfl hk6 (by omega) rfl ?_
      refine Wp.steps 1 (pc1 := 35) (lo1 := [some (.ref r0), some (.int x1)]) (st1 := [.int 0, .ref (r0 + 8 + k6)]) (h1 := mk g) rfl ?_
      obtain ⟨g7, hg7, e⟩ := zb_let e
      refine Wp.pf (pc1 := 38) rfl (zg_deed (b := r0) h0 hk6) rfl rfl rfl rfl hg7 rfl ?_
      refine Wp.steps 1 (pc1 := 39) (lo1 := [some (.ref r0), some (.int x1)]) (st1 := [.ref r0]) (h1 := mk g7) rfl ?_
      refine Wp.gf (pc1 := 42) (v := .ref (r0 + 2)) rfl h0 rfl rfl rfl ?_
      refine Wp.steps 1 (pc1 := 43) (lo1 := [some (.ref r0), some (.int x1)]) (st1 := [.int x1, .ref (r0 + 2)]) (h1 := mk g7) rfl ?_
      obtain ⟨k8, hk8, e⟩ := zb_bind e
      refine Wp.aa (pc1 := 44) (v := (r0 + 8 + k8)) rfl (zg_rdeeds (b := r0) h0) rfl hk8 (by omega) rfl ?_
      refine Wp.steps 1 (pc1 := 46) (lo1 := [some (.ref r0), some (.int x1)]) (st1 := [.int 10, .ref (r0 + 8 + k8)]) (h1 := mk g7) rfl ?_
      obtain ⟨g9, hg9, e⟩ := zb_let e
      refine Wp.pf (pc1 := 49) rfl (zg_deed (b := r0) h0 hk8) rfl rfl rfl rfl hg9 rfl ?_
      refine Wp.steps 2 (pc1 := 22) (lo1 := [some (.ref r0), some (.int (x1 + 1))]) (st1 := []) (h1 := mk g9) rfl ?_
      exact ih _ _ _ e Q K
/-- EveningFirst$Family.empty()V -/
def d_16 (r0 : Nat) (g : G) : Option G :=
  zb_l (zg_up g r0 0 4) fun g1 =>
  zb_l (zg_up g1 r0 1 0) fun g2 =>
  zb_l (zg_up g2 r0 2 0) fun g3 =>
  zb_l (zg_up g3 r0 3 0) fun g4 =>
  d_16_22 r0 300 0 g4
set_option maxRecDepth 100000 in
set_option maxHeartbeats 4000000 in
theorem w_16 {sc : Option (List Int32)} {d : Nat} (r0 : Nat) (h0 : zg_cl r0 = 2) (g : G) {g' : G} (e : d_16 r0 g = some g') : zB sc (d) 16 0 (zm_ent (z_L 16) [.ref r0]) [] (mk g) [] (mk g') := by
  unfold d_16 at e
  intro Q K
  show Wp sc (d) 16 0 [some (.ref r0), none] [] (mk g) Q
  refine Wp.steps 2 (pc1 := 2) (lo1 := [some (.ref r0), none]) (st1 := [.int 4, .ref r0]) (h1 := mk g) rfl ?_
  obtain ⟨g1, hg1, e⟩ := zb_let e
  refine Wp.pf (pc1 := 5) rfl h0 rfl rfl rfl rfl hg1 rfl ?_
  refine Wp.steps 2 (pc1 := 7) (lo1 := [some (.ref r0), none]) (st1 := [.int 0, .ref r0]) (h1 := mk g1) rfl ?_
  obtain ⟨g2, hg2, e⟩ := zb_let e
  refine Wp.pf (pc1 := 10) rfl h0 rfl rfl rfl rfl hg2 rfl ?_
  refine Wp.steps 2 (pc1 := 12) (lo1 := [some (.ref r0), none]) (st1 := [.int 0, .ref r0]) (h1 := mk g2) rfl ?_
  obtain ⟨g3, hg3, e⟩ := zb_let e
  refine Wp.pf (pc1 := 15) rfl h0 rfl rfl rfl rfl hg3 rfl ?_
  refine Wp.steps 2 (pc1 := 17) (lo1 := [some (.ref r0), none]) (st1 := [.int 0, .ref r0]) (h1 := mk g3) rfl ?_
  obtain ⟨g4, hg4, e⟩ := zb_let e
  refine Wp.pf (pc1 := 20) rfl h0 rfl rfl rfl rfl hg4 rfl ?_
  refine Wp.steps 2 (pc1 := 22) (lo1 := [some (.ref r0), some (.int 0)]) (st1 := []) (h1 := mk g4) rfl ?_
  exact w_16_22 (sc := sc) (d := d) r0 h0 300 0 g4 _ e Q K
def d_43_2 : Nat → Int32 → G → Option (Int32 × G)
  | 0, _, _ => none
  | f + 1, x1, g =>
    bif zm_cmp .ge (g 28 10) (g 28 1) then (
      some (x1, g)) else
    Option.bind (zm_ix (g 28 10) 160) fun k2 =>
    bif zm_cmp .lt (g 29 k2) 48 then (
      some (x1, g)) else
    Option.bind (zm_ix (g 28 10) 160) fun k4 =>
    bif zm_cmp .gt (g 29 k4) 57 then (
      some (x1, g)) else
    Option.bind (zm_ix (g 28 10) 160) fun k6 =>
    zb_l (zg_up g 28 10 ((g 28 10) + 1)) fun g7 =>
    d_43_2 f (((10 * x1) + (g 29 k6)) - 48) g7
set_option maxRecDepth 100000 in
set_option maxHeartbeats 4000000 in
theorem w_43_2 {sc : Option (List Int32)} {d : Nat} : ∀ (f : Nat) (x1 : Int32) (g : G) (r : Int32) (g' : G), d_43_2 f x1 g = some (r, g') → zB sc (d) 43 2 [some (.ref 28), some (.int x1)] [] (mk g) [.int r] (mk g') := by
  intro f
  induction f with
  | zero =>
    intro x1 g r g' e
    rw [d_43_2.eq_1] at e
    cases e
  | succ f ih =>
    intro x1 g r g' e
    rw [d_43_2.eq_2] at e
    intro Q K
    refine Wp.steps 1 (pc1 := 3) (lo1 := [some (.ref 28), some (.int x1)]) (st1 := [.ref 28]) (h1 := mk g) rfl ?_
    refine Wp.gf (pc1 := 6) (v := .int (g 28 10)) rfl rfl rfl rfl rfl ?_
    refine Wp.steps 1 (pc1 := 7) (lo1 := [some (.ref 28), some (.int x1)]) (st1 := [.ref 28, .int (g 28 10)]) (h1 := mk g) rfl ?_
    refine Wp.gf (pc1 := 10) (v := .int (g 28 1)) rfl rfl rfl rfl rfl ?_
    rcases zb_if e with ⟨hc1, e⟩ | ⟨hc1, e⟩
    · skip
      refine Wp.cT (pc1 := 72) rfl hc1 rfl ?_
      refine Wp.steps 1 (pc1 := 73) (lo1 := [some (.ref 28), some (.int x1)]) (st1 := [.int x1]) (h1 := mk g) rfl ?_
      obtain ⟨e1, e2⟩ := zb_r2 e
      subst e1
      subst e2
      exact Wp.ret rfl rfl rfl (K _)
    · skip
      refine Wp.cF (pc1 := 13) rfl hc1 rfl ?_
      refine Wp.steps 1 (pc1 := 14) (lo1 := [some (.ref 28), some (.int x1)]) (st1 := [.ref 28]) (h1 := mk g) rfl ?_
      refine Wp.gf (pc1 := 17) (v := .ref 29) rfl rfl rfl rfl rfl ?_
      refine Wp.steps 1 (pc1 := 18) (lo1 := [some (.ref 28), some (.int x1)]) (st1 := [.ref 28, .ref 29]) (h1 := mk g) rfl ?_
      refine Wp.gf (pc1 := 21) (v := .int (g 28 10)) rfl rfl rfl rfl rfl ?_
      obtain ⟨k2, hk2, e⟩ := zb_bind e
      refine Wp.ba (pc1 := 22) rfl rfl rfl hk2 rfl ?_
      refine Wp.steps 1 (pc1 := 24) (lo1 := [some (.ref 28), some (.int x1)]) (st1 := [.int 48, .int (g 29 k2)]) (h1 := mk g) rfl ?_
      rcases zb_if e with ⟨hc3, e⟩ | ⟨hc3, e⟩
      · skip
        refine Wp.cT (pc1 := 72) rfl hc3 rfl ?_
        refine Wp.steps 1 (pc1 := 73) (lo1 := [some (.ref 28), some (.int x1)]) (st1 := [.int x1]) (h1 := mk g) rfl ?_
        obtain ⟨e1, e2⟩ := zb_r2 e
        subst e1
        subst e2
        exact Wp.ret rfl rfl rfl (K _)
      · skip
        refine Wp.cF (pc1 := 27) rfl hc3 rfl ?_
        refine Wp.steps 1 (pc1 := 28) (lo1 := [some (.ref 28), some (.int x1)]) (st1 := [.ref 28]) (h1 := mk g) rfl ?_
        refine Wp.gf (pc1 := 31) (v := .ref 29) rfl rfl rfl rfl rfl ?_
        refine Wp.steps 1 (pc1 := 32) (lo1 := [some (.ref 28), some (.int x1)]) (st1 := [.ref 28, .ref 29]) (h1 := mk g) rfl ?_
        refine Wp.gf (pc1 := 35) (v := .int (g 28 10)) rfl rfl rfl rfl rfl ?_
        obtain ⟨k4, hk4, e⟩ := zb_bind e
        refine Wp.ba (pc1 := 36) rfl rfl rfl hk4 rfl ?_
        refine Wp.steps 1 (pc1 := 38) (lo1 := [some (.ref 28), some (.int x1)]) (st1 := [.int 57, .int (g 29 k4)]) (h1 := mk g) rfl ?_
        rcases zb_if e with ⟨hc5, e⟩ | ⟨hc5, e⟩
        · skip
          refine Wp.cT (pc1 := 72) rfl hc5 rfl ?_
          refine Wp.steps 1 (pc1 := 73) (lo1 := [some (.ref 28), some (.int x1)]) (st1 := [.int x1]) (h1 := mk g) rfl ?_
          obtain ⟨e1, e2⟩ := zb_r2 e
          subst e1
          subst e2
          exact Wp.ret rfl rfl rfl (K _)
        · skip
          refine Wp.cF (pc1 := 41) rfl hc5 rfl ?_
          refine Wp.steps 4 (pc1 := 46) (lo1 := [some (.ref 28), some (.int x1)]) (st1 := [.ref 28, .int (10 * x1)]) (h1 := mk g) rfl ?_
          refine Wp.gf (pc1 := 49) (v := .ref 29) rfl rfl rfl rfl rfl ?_
          refine Wp.steps 1 (pc1 := 50) (lo1 := [some (.ref 28), some (.int x1)]) (st1 := [.ref 28, .ref 29, .int (10 * x1)]) (h1 := mk g) rfl ?_
          refine Wp.gf (pc1 := 53) (v := .int (g 28 10)) rfl rfl rfl rfl rfl ?_
          obtain ⟨k6, hk6, e⟩ := zb_bind e
          refine Wp.ba (pc1 := 54) rfl rfl rfl hk6 rfl ?_
          refine Wp.steps 6 (pc1 := 61) (lo1 := [some (.ref 28), some (.int (((10 * x1) + (g 29 k6)) - 48))]) (st1 := [.ref 28, .ref 28]) (h1 := mk g) rfl ?_
          refine Wp.gf (pc1 := 64) (v := .int (g 28 10)) rfl rfl rfl rfl rfl ?_
          refine Wp.steps 2 (pc1 := 66) (lo1 := [some (.ref 28), some (.int (((10 * x1) + (g 29 k6)) - 48))]) (st1 := [.int ((g 28 10) + 1), .ref 28]) (h1 := mk g) rfl ?_
          obtain ⟨g7, hg7, e⟩ := zb_let e
          refine Wp.pf (pc1 := 69) rfl rfl rfl rfl rfl rfl hg7 rfl ?_
          refine Wp.steps 1 (pc1 := 2) (lo1 := [some (.ref 28), some (.int (((10 * x1) + (g 29 k6)) - 48))]) (st1 := []) (h1 := mk g7) rfl ?_
          exact ih _ _ _ _ e Q K
/-- EveningFirst$Reader.takeFigures()I -/
def d_43 (g : G) : Option (Int32 × G) :=
  d_43_2 300 0 g
set_option maxRecDepth 100000 in
set_option maxHeartbeats 4000000 in
theorem w_43 {sc : Option (List Int32)} {d : Nat} (g : G) {r : Int32} {g' : G} (e : d_43 g = some (r, g')) : zB sc (d) 43 0 (zm_ent (z_L 43) [.ref 28]) [] (mk g) [.int r] (mk g') := by
  unfold d_43 at e
  intro Q K
  show Wp sc (d) 43 0 [some (.ref 28), none] [] (mk g) Q
  refine Wp.steps 2 (pc1 := 2) (lo1 := [some (.ref 28), some (.int 0)]) (st1 := []) (h1 := mk g) rfl ?_
  exact w_43_2 (sc := sc) (d := d) 300 0 g _ _ e Q K
/-- EveningFirst$Reader.refuse(II)Z -/
def d_44 (x1 : Int32) (x2 : Int32) (g : G) : Bool × G :=
  zb_l (zg_up g 28 2 x1) fun g1 =>
  zb_l (zg_up g1 28 3 x2) fun g2 =>
  (false, g2)
set_option maxRecDepth 100000 in
set_option maxHeartbeats 4000000 in
theorem w_44 {sc : Option (List Int32)} {d : Nat} (x1 : Int32) (x2 : Int32) (g : G) {r : Bool} {g' : G} (e : d_44 x1 x2 g = (r, g')) : zB sc (d) 44 0 (zm_ent (z_L 44) [.ref 28, .int x1, .int x2]) [] (mk g) [.int (zb_i r)] (mk g') := by
  unfold d_44 at e
  intro Q K
  show Wp sc (d) 44 0 [some (.ref 28), some (.int x1), some (.int x2)] [] (mk g) Q
  refine Wp.steps 2 (pc1 := 2) (lo1 := [some (.ref 28), some (.int x1), some (.int x2)]) (st1 := [.int x1, .ref 28]) (h1 := mk g) rfl ?_
  obtain ⟨g1, hg1, e⟩ := zb_let e
  refine Wp.pf (pc1 := 5) rfl rfl rfl rfl rfl rfl hg1 rfl ?_
  refine Wp.steps 2 (pc1 := 7) (lo1 := [some (.ref 28), some (.int x1), some (.int x2)]) (st1 := [.int x2, .ref 28]) (h1 := mk g1) rfl ?_
  obtain ⟨g2, hg2, e⟩ := zb_let e
  refine Wp.pf (pc1 := 10) rfl rfl rfl rfl rfl rfl hg2 rfl ?_
  refine Wp.steps 1 (pc1 := 11) (lo1 := [some (.ref 28), some (.int x1), some (.int x2)]) (st1 := [.int 0]) (h1 := mk g2) rfl ?_
  obtain ⟨e1, e2⟩ := zb_q2 e
  subst e1
  subst e2
  exact Wp.ret rfl rfl rfl (K _)
def d_42_155 (g : G) : Option (Bool × G) :=
  bif zm_cmp .le (g 28 10) (g 28 9) then (
    zb_l (zg_up g 28 8 2) fun g9 =>
    zb_bp (d_43 g9) fun v10 g11 =>
    zb_l (zg_up g11 28 11 v10) fun g12 =>
    bif zm_cmp .le (g12 28 10) (g12 28 9) then (
      zb_p (d_44 1 (g12 28 9) g12) fun v14 g15 =>
      bif v14 then (
        some (true, g15)) else
      some (false, g15)) else
    bif zm_cmp .le (g12 28 10) ((g12 28 9) + 2) then (
      some (true, g12)) else
    zb_p (d_44 1 (g12 28 9) g12) fun v18 g19 =>
    bif v18 then (
      some (true, g19)) else
    some (false, g19)) else
  zb_l (zg_up g 28 8 1) fun g21 =>
  some (true, g21)
set_option maxRecDepth 100000 in
set_option maxHeartbeats 4000000 in
theorem w_42_155 {sc : Option (List Int32)} {d : Nat} (g : G) (r : Bool) (g' : G) (e : d_42_155 g = some (r, g')) : zB sc (d + 1) 42 155 [some (.ref 28)] [] (mk g) [.int (zb_i r)] (mk g') := by
  unfold d_42_155 at e
  intro Q K
  refine Wp.steps 1 (pc1 := 156) (lo1 := [some (.ref 28)]) (st1 := [.ref 28]) (h1 := mk g) rfl ?_
  refine Wp.gf (pc1 := 159) (v := .int (g 28 10)) rfl rfl rfl rfl rfl ?_
  refine Wp.steps 1 (pc1 := 160) (lo1 := [some (.ref 28)]) (st1 := [.ref 28, .int (g 28 10)]) (h1 := mk g) rfl ?_
  refine Wp.gf (pc1 := 163) (v := .int (g 28 9)) rfl rfl rfl rfl rfl ?_
  rcases zb_if e with ⟨hc8, e⟩ | ⟨hc8, e⟩
  · skip
    refine Wp.cT (pc1 := 173) rfl hc8 rfl ?_
    refine Wp.steps 2 (pc1 := 175) (lo1 := [some (.ref 28)]) (st1 := [.int 2, .ref 28]) (h1 := mk g) rfl ?_
    obtain ⟨g9, hg9, e⟩ := zb_let e
    refine Wp.pf (pc1 := 178) rfl rfl rfl rfl rfl rfl hg9 rfl ?_
    refine Wp.steps 2 (pc1 := 180) (lo1 := [some (.ref 28)]) (st1 := [.ref 28, .ref 28]) (h1 := mk g9) rfl ?_
    obtain ⟨v10, g11, hvv10, e⟩ := zb_bpair e
    refine Wp.ca (m := 43) (d1 := d) (as := [.ref 28]) (rest := [.ref 28]) (st1 := [.int v10, .ref 28]) (pc1 := 183) rfl rfl rfl rfl rfl rfl rfl rfl (mk_rok rfl rfl rfl rfl) rfl rfl rfl (w_43 (sc := sc) (d := d)  g9 hvv10) ?_
    obtain ⟨g12, hg12, e⟩ := zb_let e
    refine Wp.pf (pc1 := 186) rfl rfl rfl rfl rfl rfl hg12 rfl ?_
    refine Wp.steps 1 (pc1 := 187) (lo1 := [some (.ref 28)]) (st1 := [.ref 28]) (h1 := mk g12) rfl ?_
    refine Wp.gf (pc1 := 190) (v := .int (g12 28 10)) rfl rfl rfl rfl rfl ?_
    refine Wp.steps 1 (pc1 := 191) (lo1 := [some (.ref 28)]) (st1 := [.ref 28, .int (g12 28 10)]) (h1 := mk g12) rfl ?_
    refine Wp.gf (pc1 := 194) (v := .int (g12 28 9)) rfl rfl rfl rfl rfl ?_
    rcases zb_if e with ⟨hc13, e⟩ | ⟨hc13, e⟩
    · skip
      refine Wp.cT (pc1 := 210) rfl hc13 rfl ?_
      refine Wp.steps 3 (pc1 := 213) (lo1 := [some (.ref 28)]) (st1 := [.ref 28, .int 1, .ref 28]) (h1 := mk g12) rfl ?_
      refine Wp.gf (pc1 := 216) (v := .int (g12 28 9)) rfl rfl rfl rfl rfl ?_
      obtain ⟨v14, g15, hvv14, e⟩ := zb_pair e
      refine Wp.ca (m := 44) (d1 := d) (as := [.ref 28, .int 1, .int (g12 28 9)]) (rest := []) (st1 := [.int (zb_i v14)]) (pc1 := 219) rfl rfl rfl rfl rfl rfl rfl rfl (mk_rok rfl rfl rfl rfl) rfl rfl rfl (w_44 (sc := sc) (d := d) 1 (g12 28 9) g12 hvv14) ?_
      rcases zb_if e with ⟨hc16, e⟩ | ⟨hc16, e⟩
      · skip
        refine Wp.iF (pc1 := 222) rfl (zb_eqF hc16) rfl ?_
        refine Wp.steps 2 (pc1 := 227) (lo1 := [some (.ref 28)]) (st1 := [.int 1]) (h1 := mk g15) rfl ?_
        obtain ⟨e1, e2⟩ := zb_r2 e
        subst e1
        subst e2
        exact Wp.ret rfl rfl rfl (K _)
      · skip
        refine Wp.iT (pc1 := 226) rfl (zb_eqT hc16) rfl ?_
        refine Wp.steps 1 (pc1 := 227) (lo1 := [some (.ref 28)]) (st1 := [.int 0]) (h1 := mk g15) rfl ?_
        obtain ⟨e1, e2⟩ := zb_r2 e
        subst e1
        subst e2
        exact Wp.ret rfl rfl rfl (K _)
    · skip
      refine Wp.cF (pc1 := 197) rfl hc13 rfl ?_
      refine Wp.steps 1 (pc1 := 198) (lo1 := [some (.ref 28)]) (st1 := [.ref 28]) (h1 := mk g12) rfl ?_
      refine Wp.gf (pc1 := 201) (v := .int (g12 28 10)) rfl rfl rfl rfl rfl ?_
      refine Wp.steps 1 (pc1 := 202) (lo1 := [some (.ref 28)]) (st1 := [.ref 28, .int (g12 28 10)]) (h1 := mk g12) rfl ?_
      refine Wp.gf (pc1 := 205) (v := .int (g12 28 9)) rfl rfl rfl rfl rfl ?_
      refine Wp.steps 2 (pc1 := 207) (lo1 := [some (.ref 28)]) (st1 := [.int ((g12 28 9) + 2), .int (g12 28 10)]) (h1 := mk g12) rfl ?_
      rcases zb_if e with ⟨hc17, e⟩ | ⟨hc17, e⟩
      · skip
        refine Wp.cT (pc1 := 222) rfl hc17 rfl ?_
        refine Wp.steps 2 (pc1 := 227) (lo1 := [some (.ref 28)]) (st1 := [.int 1]) (h1 := mk g12) rfl ?_
        obtain ⟨e1, e2⟩ := zb_r2 e
        subst e1
        subst e2
        exact Wp.ret rfl rfl rfl (K _)
      · skip
        refine Wp.cF (pc1 := 210) rfl hc17 rfl ?_
        refine Wp.steps 3 (pc1 := 213) (lo1 := [some (.ref 28)]) (st1 := [.ref 28, .int 1, .ref 28]) (h1 := mk g12) rfl ?_
        refine Wp.gf (pc1 := 216) (v := .int (g12 28 9)) rfl rfl rfl rfl rfl ?_
        obtain ⟨v18, g19, hvv18, e⟩ := zb_pair e
        refine Wp.ca (m := 44) (d1 := d) (as := [.ref 28, .int 1, .int (g12 28 9)]) (rest := []) (st1 := [.int (zb_i v18)]) (pc1 := 219) rfl rfl rfl rfl rfl rfl rfl rfl (mk_rok rfl rfl rfl rfl) rfl rfl rfl (w_44 (sc := sc) (d := d) 1 (g12 28 9) g12 hvv18) ?_
        rcases zb_if e with ⟨hc20, e⟩ | ⟨hc20, e⟩
        · skip
          refine Wp.iF (pc1 := 222) rfl (zb_eqF hc20) rfl ?_
          refine Wp.steps 2 (pc1 := 227) (lo1 := [some (.ref 28)]) (st1 := [.int 1]) (h1 := mk g19) rfl ?_
          obtain ⟨e1, e2⟩ := zb_r2 e
          subst e1
          subst e2
          exact Wp.ret rfl rfl rfl (K _)
        · skip
          refine Wp.iT (pc1 := 226) rfl (zb_eqT hc20) rfl ?_
          refine Wp.steps 1 (pc1 := 227) (lo1 := [some (.ref 28)]) (st1 := [.int 0]) (h1 := mk g19) rfl ?_
          obtain ⟨e1, e2⟩ := zb_r2 e
          subst e1
          subst e2
          exact Wp.ret rfl rfl rfl (K _)
  · skip
    refine Wp.cF (pc1 := 166) rfl hc8 rfl ?_
    refine Wp.steps 2 (pc1 := 168) (lo1 := [some (.ref 28)]) (st1 := [.int 1, .ref 28]) (h1 := mk g) rfl ?_
    obtain ⟨g21, hg21, e⟩ := zb_let e
    refine Wp.pf (pc1 := 171) rfl rfl rfl rfl rfl rfl hg21 rfl ?_
    refine Wp.steps 1 (pc1 := 172) (lo1 := [some (.ref 28)]) (st1 := [.int 1]) (h1 := mk g21) rfl ?_
    obtain ⟨e1, e2⟩ := zb_r2 e
    subst e1
    subst e2
    exact Wp.ret rfl rfl rfl (K _)
def d_42_103 : Nat → G → Option (Bool × G)
  | 0, _ => none
  | f + 1, g =>
    bif zm_cmp .ge (g 28 10) (g 28 1) then (
      d_42_155 g) else
    Option.bind (zm_ix (g 28 10) 160) fun k22 =>
    bif zm_cmp .lt (g 29 k22) 97 then (
      d_42_155 g) else
    Option.bind (zm_ix (g 28 10) 160) fun k24 =>
    bif zm_cmp .gt (g 29 k24) 122 then (
      d_42_155 g) else
    zb_l (zg_up g 28 10 ((g 28 10) + 1)) fun g26 =>
    d_42_103 f g26
set_option maxRecDepth 100000 in
set_option maxHeartbeats 4000000 in
theorem w_42_103 {sc : Option (List Int32)} {d : Nat} : ∀ (f : Nat) (g : G) (r : Bool) (g' : G), d_42_103 f g = some (r, g') → zB sc (d + 1) 42 103 [some (.ref 28)] [] (mk g) [.int (zb_i r)] (mk g') := by
  intro f
  induction f with
  | zero =>
    intro g r g' e
    rw [d_42_103.eq_1] at e
    cases e
  | succ f ih =>
    intro g r g' e
    rw [d_42_103.eq_2] at e
    intro Q K
    refine Wp.steps 1 (pc1 := 104) (lo1 := [some (.ref 28)]) (st1 := [.ref 28]) (h1 := mk g) rfl ?_
    refine Wp.gf (pc1 := 107) (v := .int (g 28 10)) rfl rfl rfl rfl rfl ?_
    refine Wp.steps 1 (pc1 := 108) (lo1 := [some (.ref 28)]) (st1 := [.ref 28, .int (g 28 10)]) (h1 := mk g) rfl ?_
    refine Wp.gf (pc1 := 111) (v := .int (g 28 1)) rfl rfl rfl rfl rfl ?_
    rcases zb_if e with ⟨hc7, e⟩ | ⟨hc7, e⟩
    · skip
      refine Wp.cT (pc1 := 155) rfl hc7 rfl ?_
      exact w_42_155 (sc := sc) (d := d) g _ _ e Q K
    · skip
      refine Wp.cF (pc1 := 114) rfl hc7 rfl ?_
      refine Wp.steps 1 (pc1 := 115) (lo1 := [some (.ref 28)]) (st1 := [.ref 28]) (h1 := mk g) rfl ?_
      refine Wp.gf (pc1 := 118) (v := .ref 29) rfl rfl rfl rfl rfl ?_
      refine Wp.steps 1 (pc1 := 119) (lo1 := [some (.ref 28)]) (st1 := [.ref 28, .ref 29]) (h1 := mk g) rfl ?_
      refine Wp.gf (pc1 := 122) (v := .int (g 28 10)) rfl rfl rfl rfl rfl ?_
      obtain ⟨k22, hk22, e⟩ := zb_bind e
      refine Wp.ba (pc1 := 123) rfl rfl rfl hk22 rfl ?_
      refine Wp.steps 1 (pc1 := 125) (lo1 := [some (.ref 28)]) (st1 := [.int 97, .int (g 29 k22)]) (h1 := mk g) rfl ?_
      rcases zb_if e with ⟨hc23, e⟩ | ⟨hc23, e⟩
      · skip
        refine Wp.cT (pc1 := 155) rfl hc23 rfl ?_
        exact w_42_155 (sc := sc) (d := d) g _ _ e Q K
      · skip
        refine Wp.cF (pc1 := 128) rfl hc23 rfl ?_
        refine Wp.steps 1 (pc1 := 129) (lo1 := [some (.ref 28)]) (st1 := [.ref 28]) (h1 := mk g) rfl ?_
        refine Wp.gf (pc1 := 132) (v := .ref 29) rfl rfl rfl rfl rfl ?_
        refine Wp.steps 1 (pc1 := 133) (lo1 := [some (.ref 28)]) (st1 := [.ref 28, .ref 29]) (h1 := mk g) rfl ?_
        refine Wp.gf (pc1 := 136) (v := .int (g 28 10)) rfl rfl rfl rfl rfl ?_
        obtain ⟨k24, hk24, e⟩ := zb_bind e
        refine Wp.ba (pc1 := 137) rfl rfl rfl hk24 rfl ?_
        refine Wp.steps 1 (pc1 := 139) (lo1 := [some (.ref 28)]) (st1 := [.int 122, .int (g 29 k24)]) (h1 := mk g) rfl ?_
        rcases zb_if e with ⟨hc25, e⟩ | ⟨hc25, e⟩
        · skip
          refine Wp.cT (pc1 := 155) rfl hc25 rfl ?_
          exact w_42_155 (sc := sc) (d := d) g _ _ e Q K
        · skip
          refine Wp.cF (pc1 := 142) rfl hc25 rfl ?_
          refine Wp.steps 2 (pc1 := 144) (lo1 := [some (.ref 28)]) (st1 := [.ref 28, .ref 28]) (h1 := mk g) rfl ?_
          refine Wp.gf (pc1 := 147) (v := .int (g 28 10)) rfl rfl rfl rfl rfl ?_
          refine Wp.steps 2 (pc1 := 149) (lo1 := [some (.ref 28)]) (st1 := [.int ((g 28 10) + 1), .ref 28]) (h1 := mk g) rfl ?_
          obtain ⟨g26, hg26, e⟩ := zb_let e
          refine Wp.pf (pc1 := 152) rfl rfl rfl rfl rfl rfl hg26 rfl ?_
          refine Wp.steps 1 (pc1 := 103) (lo1 := [some (.ref 28)]) (st1 := []) (h1 := mk g26) rfl ?_
          exact ih _ _ _ e Q K
def d_42_8 : Nat → G → Option (Bool × G)
  | 0, _ => none
  | f + 1, g =>
    bif zm_cmp .ge (g 28 9) (g 28 1) then (
      zb_l (zg_up g 28 10 (g 28 9)) fun g3 =>
      bif zm_cmp .ne (g3 28 9) (g3 28 1) then (
        Option.bind (zm_ix (g3 28 9) 160) fun k5 =>
        bif zm_cmp .ne (g3 29 k5) 59 then (
          d_42_103 300 g3) else
        zb_l (zg_up g3 28 8 3) fun g27 =>
        zb_l (zg_up g27 28 10 ((g27 28 10) + 1)) fun g28 =>
        some (true, g28)) else
      zb_l (zg_up g3 28 8 0) fun g29 =>
      some (true, g29)) else
    Option.bind (zm_ix (g 28 9) 160) fun k30 =>
    bif zm_cmp .ne (g 29 k30) 32 then (
      zb_l (zg_up g 28 10 (g 28 9)) fun g32 =>
      bif zm_cmp .ne (g32 28 9) (g32 28 1) then (
        Option.bind (zm_ix (g32 28 9) 160) fun k34 =>
        bif zm_cmp .ne (g32 29 k34) 59 then (
          d_42_103 300 g32) else
        zb_l (zg_up g32 28 8 3) fun g36 =>
        zb_l (zg_up g36 28 10 ((g36 28 10) + 1)) fun g37 =>
        some (true, g37)) else
      zb_l (zg_up g32 28 8 0) fun g38 =>
      some (true, g38)) else
    zb_l (zg_up g 28 9 ((g 28 9) + 1)) fun g39 =>
    d_42_8 f g39
set_option maxRecDepth 100000 in
set_option maxHeartbeats 4000000 in
theorem w_42_8 {sc : Option (List Int32)} {d : Nat} : ∀ (f : Nat) (g : G) (r : Bool) (g' : G), d_42_8 f g = some (r, g') → zB sc (d + 1) 42 8 [some (.ref 28)] [] (mk g) [.int (zb_i r)] (mk g') := by
  intro f
  induction f with
  | zero =>
    intro g r g' e
    rw [d_42_8.eq_1] at e
    cases e
  | succ f ih =>
    intro g r g' e
    rw [d_42_8.eq_2] at e
    intro Q K
    refine Wp.steps 1 (pc1 := 9) (lo1 := [some (.ref 28)]) (st1 := [.ref 28]) (h1 := mk g) rfl ?_
    refine Wp.gf (pc1 := 12) (v := .int (g 28 9)) rfl rfl rfl rfl rfl ?_
    refine Wp.steps 1 (pc1 := 13) (lo1 := [some (.ref 28)]) (st1 := [.ref 28, .int (g 28 9)]) (h1 := mk g) rfl ?_
    refine Wp.gf (pc1 := 16) (v := .int (g 28 1)) rfl rfl rfl rfl rfl ?_
    rcases zb_if e with ⟨hc2, e⟩ | ⟨hc2, e⟩
    · skip
      refine Wp.cT (pc1 := 46) rfl hc2 rfl ?_
      refine Wp.steps 2 (pc1 := 48) (lo1 := [some (.ref 28)]) (st1 := [.ref 28, .ref 28]) (h1 := mk g) rfl ?_
      refine Wp.gf (pc1 := 51) (v := .int (g 28 9)) rfl rfl rfl rfl rfl ?_
      obtain ⟨g3, hg3, e⟩ := zb_let e
      refine Wp.pf (pc1 := 54) rfl rfl rfl rfl rfl rfl hg3 rfl ?_
      refine Wp.steps 1 (pc1 := 55) (lo1 := [some (.ref 28)]) (st1 := [.ref 28]) (h1 := mk g3) rfl ?_
      refine Wp.gf (pc1 := 58) (v := .int (g3 28 9)) rfl rfl rfl rfl rfl ?_
      refine Wp.steps 1 (pc1 := 59) (lo1 := [some (.ref 28)]) (st1 := [.ref 28, .int (g3 28 9)]) (h1 := mk g3) rfl ?_
      refine Wp.gf (pc1 := 62) (v := .int (g3 28 1)) rfl rfl rfl rfl rfl ?_
      rcases zb_if e with ⟨hc4, e⟩ | ⟨hc4, e⟩
      · skip
        refine Wp.cT (pc1 := 72) rfl hc4 rfl ?_
        refine Wp.steps 1 (pc1 := 73) (lo1 := [some (.ref 28)]) (st1 := [.ref 28]) (h1 := mk g3) rfl ?_
        refine Wp.gf (pc1 := 76) (v := .ref 29) rfl rfl rfl rfl rfl ?_
        refine Wp.steps 1 (pc1 := 77) (lo1 := [some (.ref 28)]) (st1 := [.ref 28, .ref 29]) (h1 := mk g3) rfl ?_
        refine Wp.gf (pc1 := 80) (v := .int (g3 28 9)) rfl rfl rfl rfl rfl ?_
        obtain ⟨k5, hk5, e⟩ := zb_bind e
        refine Wp.ba (pc1 := 81) rfl rfl rfl hk5 rfl ?_
        refine Wp.steps 1 (pc1 := 83) (lo1 := [some (.ref 28)]) (st1 := [.int 59, .int (g3 29 k5)]) (h1 := mk g3) rfl ?_
        rcases zb_if e with ⟨hc6, e⟩ | ⟨hc6, e⟩
        · skip
          refine Wp.cT (pc1 := 103) rfl hc6 rfl ?_
          exact w_42_103 (sc := sc) (d := d) 300 g3 _ _ e Q K
        · skip
          refine Wp.cF (pc1 := 86) rfl hc6 rfl ?_
          refine Wp.steps 2 (pc1 := 88) (lo1 := [some (.ref 28)]) (st1 := [.int 3, .ref 28]) (h1 := mk g3) rfl ?_
          obtain ⟨g27, hg27, e⟩ := zb_let e
          refine Wp.pf (pc1 := 91) rfl rfl rfl rfl rfl rfl hg27 rfl ?_
          refine Wp.steps 2 (pc1 := 93) (lo1 := [some (.ref 28)]) (st1 := [.ref 28, .ref 28]) (h1 := mk g27) rfl ?_
          refine Wp.gf (pc1 := 96) (v := .int (g27 28 10)) rfl rfl rfl rfl rfl ?_
          refine Wp.steps 2 (pc1 := 98) (lo1 := [some (.ref 28)]) (st1 := [.int ((g27 28 10) + 1), .ref 28]) (h1 := mk g27) rfl ?_
          obtain ⟨g28, hg28, e⟩ := zb_let e
          refine Wp.pf (pc1 := 101) rfl rfl rfl rfl rfl rfl hg28 rfl ?_
          refine Wp.steps 1 (pc1 := 102) (lo1 := [some (.ref 28)]) (st1 := [.int 1]) (h1 := mk g28) rfl ?_
          obtain ⟨e1, e2⟩ := zb_r2 e
          subst e1
          subst e2
          exact Wp.ret rfl rfl rfl (K _)
      · skip
        refine Wp.cF (pc1 := 65) rfl hc4 rfl ?_
        refine Wp.steps 2 (pc1 := 67) (lo1 := [some (.ref 28)]) (st1 := [.int 0, .ref 28]) (h1 := mk g3) rfl ?_
        obtain ⟨g29, hg29, e⟩ := zb_let e
        refine Wp.pf (pc1 := 70) rfl rfl rfl rfl rfl rfl hg29 rfl ?_
        refine Wp.steps 1 (pc1 := 71) (lo1 := [some (.ref 28)]) (st1 := [.int 1]) (h1 := mk g29) rfl ?_
        obtain ⟨e1, e2⟩ := zb_r2 e
        subst e1
        subst e2
        exact Wp.ret rfl rfl rfl (K _)
    · skip
      refine Wp.cF (pc1 := 19) rfl hc2 rfl ?_
      refine Wp.steps 1 (pc1 := 20) (lo1 := [some (.ref 28)]) (st1 := [.ref 28]) (h1 := mk g) rfl ?_
      refine Wp.gf (pc1 := 23) (v := .ref 29) rfl rfl rfl rfl rfl ?_
      refine Wp.steps 1 (pc1 := 24) (lo1 := [some (.ref 28)]) (st1 := [.ref 28, .ref 29]) (h1 := mk g) rfl ?_
      refine Wp.gf (pc1 := 27) (v := .int (g 28 9)) rfl rfl rfl rfl rfl ?_
      obtain ⟨k30, hk30, e⟩ := zb_bind e
      refine Wp.ba (pc1 := 28) rfl rfl rfl hk30 rfl ?_
      refine Wp.steps 1 (pc1 := 30) (lo1 := [some (.ref 28)]) (st1 := [.int 32, .int (g 29 k30)]) (h1 := mk g) rfl ?_
      rcases zb_if e with ⟨hc31, e⟩ | ⟨hc31, e⟩
      · skip
        refine Wp.cT (pc1 := 46) rfl hc31 rfl ?_
        refine Wp.steps 2 (pc1 := 48) (lo1 := [some (.ref 28)]) (st1 := [.ref 28, .ref 28]) (h1 := mk g) rfl ?_
        refine Wp.gf (pc1 := 51) (v := .int (g 28 9)) rfl rfl rfl rfl rfl ?_
        obtain ⟨g32, hg32, e⟩ := zb_let e
        refine Wp.pf (pc1 := 54) rfl rfl rfl rfl rfl rfl hg32 rfl ?_
        refine Wp.steps 1 (pc1 := 55) (lo1 := [some (.ref 28)]) (st1 := [.ref 28]) (h1 := mk g32) rfl ?_
        refine Wp.gf (pc1 := 58) (v := .int (g32 28 9)) rfl rfl rfl rfl rfl ?_
        refine Wp.steps 1 (pc1 := 59) (lo1 := [some (.ref 28)]) (st1 := [.ref 28, .int (g32 28 9)]) (h1 := mk g32) rfl ?_
        refine Wp.gf (pc1 := 62) (v := .int (g32 28 1)) rfl rfl rfl rfl rfl ?_
        rcases zb_if e with ⟨hc33, e⟩ | ⟨hc33, e⟩
        · skip
          refine Wp.cT (pc1 := 72) rfl hc33 rfl ?_
          refine Wp.steps 1 (pc1 := 73) (lo1 := [some (.ref 28)]) (st1 := [.ref 28]) (h1 := mk g32) rfl ?_
          refine Wp.gf (pc1 := 76) (v := .ref 29) rfl rfl rfl rfl rfl ?_
          refine Wp.steps 1 (pc1 := 77) (lo1 := [some (.ref 28)]) (st1 := [.ref 28, .ref 29]) (h1 := mk g32) rfl ?_
          refine Wp.gf (pc1 := 80) (v := .int (g32 28 9)) rfl rfl rfl rfl rfl ?_
          obtain ⟨k34, hk34, e⟩ := zb_bind e
          refine Wp.ba (pc1 := 81) rfl rfl rfl hk34 rfl ?_
          refine Wp.steps 1 (pc1 := 83) (lo1 := [some (.ref 28)]) (st1 := [.int 59, .int (g32 29 k34)]) (h1 := mk g32) rfl ?_
          rcases zb_if e with ⟨hc35, e⟩ | ⟨hc35, e⟩
          · skip
            refine Wp.cT (pc1 := 103) rfl hc35 rfl ?_
            exact w_42_103 (sc := sc) (d := d) 300 g32 _ _ e Q K
          · skip
            refine Wp.cF (pc1 := 86) rfl hc35 rfl ?_
            refine Wp.steps 2 (pc1 := 88) (lo1 := [some (.ref 28)]) (st1 := [.int 3, .ref 28]) (h1 := mk g32) rfl ?_
            obtain ⟨g36, hg36, e⟩ := zb_let e
            refine Wp.pf (pc1 := 91) rfl rfl rfl rfl rfl rfl hg36 rfl ?_
            refine Wp.steps 2 (pc1 := 93) (lo1 := [some (.ref 28)]) (st1 := [.ref 28, .ref 28]) (h1 := mk g36) rfl ?_
            refine Wp.gf (pc1 := 96) (v := .int (g36 28 10)) rfl rfl rfl rfl rfl ?_
            refine Wp.steps 2 (pc1 := 98) (lo1 := [some (.ref 28)]) (st1 := [.int ((g36 28 10) + 1), .ref 28]) (h1 := mk g36) rfl ?_
            obtain ⟨g37, hg37, e⟩ := zb_let e
            refine Wp.pf (pc1 := 101) rfl rfl rfl rfl rfl rfl hg37 rfl ?_
            refine Wp.steps 1 (pc1 := 102) (lo1 := [some (.ref 28)]) (st1 := [.int 1]) (h1 := mk g37) rfl ?_
            obtain ⟨e1, e2⟩ := zb_r2 e
            subst e1
            subst e2
            exact Wp.ret rfl rfl rfl (K _)
        · skip
          refine Wp.cF (pc1 := 65) rfl hc33 rfl ?_
          refine Wp.steps 2 (pc1 := 67) (lo1 := [some (.ref 28)]) (st1 := [.int 0, .ref 28]) (h1 := mk g32) rfl ?_
          obtain ⟨g38, hg38, e⟩ := zb_let e
          refine Wp.pf (pc1 := 70) rfl rfl rfl rfl rfl rfl hg38 rfl ?_
          refine Wp.steps 1 (pc1 := 71) (lo1 := [some (.ref 28)]) (st1 := [.int 1]) (h1 := mk g38) rfl ?_
          obtain ⟨e1, e2⟩ := zb_r2 e
          subst e1
          subst e2
          exact Wp.ret rfl rfl rfl (K _)
      · skip
        refine Wp.cF (pc1 := 33) rfl hc31 rfl ?_
        refine Wp.steps 2 (pc1 := 35) (lo1 := [some (.ref 28)]) (st1 := [.ref 28, .ref 28]) (h1 := mk g) rfl ?_
        refine Wp.gf (pc1 := 38) (v := .int (g 28 9)) rfl rfl rfl rfl rfl ?_
        refine Wp.steps 2 (pc1 := 40) (lo1 := [some (.ref 28)]) (st1 := [.int ((g 28 9) + 1), .ref 28]) (h1 := mk g) rfl ?_
        obtain ⟨g39, hg39, e⟩ := zb_let e
        refine Wp.pf (pc1 := 43) rfl rfl rfl rfl rfl rfl hg39 rfl ?_
        refine Wp.steps 1 (pc1 := 8) (lo1 := [some (.ref 28)]) (st1 := []) (h1 := mk g39) rfl ?_
        exact ih _ _ _ e Q K
/-- EveningFirst$Reader.takeToken()Z -/
def d_42 (g : G) : Option (Bool × G) :=
  zb_l (zg_up g 28 9 (g 28 10)) fun g1 =>
  d_42_8 300 g1
set_option maxRecDepth 100000 in
set_option maxHeartbeats 4000000 in
theorem w_42 {sc : Option (List Int32)} {d : Nat} (g : G) {r : Bool} {g' : G} (e : d_42 g = some (r, g')) : zB sc (d + 1) 42 0 (zm_ent (z_L 42) [.ref 28]) [] (mk g) [.int (zb_i r)] (mk g') := by
  unfold d_42 at e
  intro Q K
  show Wp sc (d + 1) 42 0 [some (.ref 28)] [] (mk g) Q
  refine Wp.steps 2 (pc1 := 2) (lo1 := [some (.ref 28)]) (st1 := [.ref 28, .ref 28]) (h1 := mk g) rfl ?_
  refine Wp.gf (pc1 := 5) (v := .int (g 28 10)) rfl rfl rfl rfl rfl ?_
  obtain ⟨g1, hg1, e⟩ := zb_let e
  refine Wp.pf (pc1 := 8) rfl rfl rfl rfl rfl rfl hg1 rfl ?_
  exact w_42_8 (sc := sc) (d := d) 300 g1 _ _ e Q K
