/-! printed by wip/tools/den.py -/
/-- EveningFirstModel.see(IIIZ)I -/
def d_175 (x1 : Int32) (x2 : Int32) (x3 : Int32) (x4 : Int32) (g : G) : Option (Int32 × G) :=
  zb_l (d_131 x1 g) fun v1 =>
  bif v1 then (
    zb_l (d_134 x2) fun v3 =>
    bif v3 then (
      zb_l (d_133 x3 g) fun v5 =>
      bif v5 then (
        bif zm_cmp .ne (g 114 65) 8 then (
          Option.bind (zm_ix (66 + (4 * (g 114 65))) 294) fun k9 =>
          zb_l (zg_up g 114 k9 x1) fun g8 =>
          Option.bind (zm_ix ((66 + (4 * (g 114 65))) + 1) 294) fun k11 =>
          zb_l (zg_up g8 114 k11 x2) fun g10 =>
          Option.bind (zm_ix ((66 + (4 * (g 114 65))) + 2) 294) fun k13 =>
          zb_l (zg_up g10 114 k13 x3) fun g12 =>
          zb_l (d_108 x4) fun v14 =>
          Option.bind (zm_ix ((66 + (4 * (g 114 65))) + 3) 294) fun k16 =>
          zb_l (zg_up g12 114 k16 v14) fun g15 =>
          zb_l (zg_up g15 114 65 ((g15 114 65) + 1)) fun g17 =>
          some ((g17 114 65), g17)) else
        some ((-3), g)) else
      some ((-1), g)) else
    some ((-1), g)) else
  some ((-1), g)
set_option maxRecDepth 100000 in
set_option maxHeartbeats 4000000 in
theorem w_175 {sc : Option (List Int32)} {d : Nat} (x1 : Int32) (x2 : Int32) (x3 : Int32) (x4 : Int32) (g : G) {r : Int32} {g' : G} (e : d_175 x1 x2 x3 x4 g = some (r, g')) : zB sc (d + 2) 175 0 (zm_ent (z_L 175) [.ref 113, .int x1, .int x2, .int x3, .int x4]) [] (mk g) [.int r] (mk g') := by
  unfold d_175 at e
  intro Q K
  show Wp sc (d + 2) 175 0 [some (.ref 113), some (.int x1), some (.int x2), some (.int x3), some (.int x4), none] [] (mk g) Q
  refine Wp.steps 2 (pc1 := 2) (lo1 := [some (.ref 113), some (.int x1), some (.int x2), some (.int x3), some (.int x4), none]) (st1 := [.int x1, .ref 113]) (h1 := mk g) rfl ?_
  obtain ⟨v1, hvv1, e⟩ := zb_let e
  refine Wp.ca (m := 131) (d1 := d + 1) (as := [.ref 113, .int x1]) (rest := []) (st1 := [.int (zb_i v1)]) (pc1 := 5) rfl rfl rfl rfl rfl rfl rfl rfl (mk_rok rfl rfl rfl rfl) rfl rfl rfl (w_131 (sc := sc) (d := d) x1 g hvv1) ?_
  rcases zb_if e with ⟨hc2, e⟩ | ⟨hc2, e⟩
  · skip
    refine Wp.iF (pc1 := 8) rfl (zb_eqF hc2) rfl ?_
    refine Wp.steps 1 (pc1 := 9) (lo1 := [some (.ref 113), some (.int x1), some (.int x2), some (.int x3), some (.int x4), none]) (st1 := [.int x2]) (h1 := mk g) rfl ?_
    obtain ⟨v3, hvv3, e⟩ := zb_let e
    refine Wp.ca (m := 134) (d1 := d + 1) (as := [.int x2]) (rest := []) (st1 := [.int (zb_i v3)]) (pc1 := 12) rfl rfl rfl rfl rfl rfl rfl rfl rfl rfl rfl rfl (w_134 (sc := sc) (d := d) x2 g hvv3) ?_
    rcases zb_if e with ⟨hc4, e⟩ | ⟨hc4, e⟩
    · skip
      refine Wp.iF (pc1 := 15) rfl (zb_eqF hc4) rfl ?_
      refine Wp.steps 2 (pc1 := 17) (lo1 := [some (.ref 113), some (.int x1), some (.int x2), some (.int x3), some (.int x4), none]) (st1 := [.int x3, .ref 113]) (h1 := mk g) rfl ?_
      obtain ⟨v5, hvv5, e⟩ := zb_let e
      refine Wp.ca (m := 133) (d1 := d + 1) (as := [.ref 113, .int x3]) (rest := []) (st1 := [.int (zb_i v5)]) (pc1 := 20) rfl rfl rfl rfl rfl rfl rfl rfl (mk_rok rfl rfl rfl rfl) rfl rfl rfl (w_133 (sc := sc) (d := d) x3 g hvv5) ?_
      rcases zb_if e with ⟨hc6, e⟩ | ⟨hc6, e⟩
      · skip
        refine Wp.iT (pc1 := 25) rfl (zb_neT hc6) rfl ?_
        refine Wp.steps 1 (pc1 := 26) (lo1 := [some (.ref 113), some (.int x1), some (.int x2), some (.int x3), some (.int x4), none]) (st1 := [.ref 113]) (h1 := mk g) rfl ?_
        refine Wp.gf (pc1 := 29) (v := .ref 114) rfl rfl rfl rfl rfl ?_
        refine Wp.steps 1 (pc1 := 31) (lo1 := [some (.ref 113), some (.int x1), some (.int x2), some (.int x3), some (.int x4), none]) (st1 := [.int 65, .ref 114]) (h1 := mk g) rfl ?_
        refine Wp.ia (pc1 := 32) (k := 65) rfl rfl rfl rfl rfl ?_
        refine Wp.steps 1 (pc1 := 34) (lo1 := [some (.ref 113), some (.int x1), some (.int x2), some (.int x3), some (.int x4), none]) (st1 := [.int 8, .int (g 114 65)]) (h1 := mk g) rfl ?_
        rcases zb_if e with ⟨hc7, e⟩ | ⟨hc7, e⟩
        · skip
          refine Wp.cT (pc1 := 40) rfl hc7 rfl ?_
          refine Wp.steps 3 (pc1 := 44) (lo1 := [some (.ref 113), some (.int x1), some (.int x2), some (.int x3), some (.int x4), none]) (st1 := [.ref 113, .int 4, .int 66]) (h1 := mk g) rfl ?_
          refine Wp.gf (pc1 := 47) (v := .ref 114) rfl rfl rfl rfl rfl ?_
          refine Wp.steps 1 (pc1 := 49) (lo1 := [some (.ref 113), some (.int x1), some (.int x2), some (.int x3), some (.int x4), none]) (st1 := [.int 65, .ref 114, .int 4, .int 66]) (h1 := mk g) rfl ?_
          refine Wp.ia (pc1 := 50) (k := 65) rfl rfl rfl rfl rfl ?_
          refine Wp.steps 4 (pc1 := 55) (lo1 := [some (.ref 113), some (.int x1), some (.int x2), some (.int x3), some (.int x4), some (.int (66 + (4 * (g 114 65))))]) (st1 := [.ref 113]) (h1 := mk g) rfl ?_
          refine Wp.gf (pc1 := 58) (v := .ref 114) rfl rfl rfl rfl rfl ?_
          refine Wp.steps 2 (pc1 := 61) (lo1 := [some (.ref 113), some (.int x1), some (.int x2), some (.int x3), some (.int x4), some (.int (66 + (4 * (g 114 65))))]) (st1 := [.int x1, .int (66 + (4 * (g 114 65))), .ref 114]) (h1 := mk g) rfl ?_
          obtain ⟨k9, hk9, e⟩ := zb_bind e
          obtain ⟨g8, hg8, e⟩ := zb_let e
          refine Wp.ias (pc1 := 62) rfl rfl rfl hk9 hg8 rfl ?_
          refine Wp.steps 1 (pc1 := 63) (lo1 := [some (.ref 113), some (.int x1), some (.int x2), some (.int x3), some (.int x4), some (.int (66 + (4 * (g 114 65))))]) (st1 := [.ref 113]) (h1 := mk g8) rfl ?_
          refine Wp.gf (pc1 := 66) (v := .ref 114) rfl rfl rfl rfl rfl ?_
          refine Wp.steps 4 (pc1 := 71) (lo1 := [some (.ref 113), some (.int x1), some (.int x2), some (.int x3), some (.int x4), some (.int (66 + (4 * (g 114 65))))]) (st1 := [.int x2, .int ((66 + (4 * (g 114 65))) + 1), .ref 114]) (h1 := mk g8) rfl ?_
          obtain ⟨k11, hk11, e⟩ := zb_bind e
          obtain ⟨g10, hg10, e⟩ := zb_let e
          refine Wp.ias (pc1 := 72) rfl rfl rfl hk11 hg10 rfl ?_
          refine Wp.steps 1 (pc1 := 73) (lo1 := [some (.ref 113), some (.int x1), some (.int x2), some (.int x3), some (.int x4), some (.int (66 + (4 * (g 114 65))))]) (st1 := [.ref 113]) (h1 := mk g10) rfl ?_
          refine Wp.gf (pc1 := 76) (v := .ref 114) rfl rfl rfl rfl rfl ?_
          refine Wp.steps 4 (pc1 := 81) (lo1 := [some (.ref 113), some (.int x1), some (.int x2), some (.int x3), some (.int x4), some (.int (66 + (4 * (g 114 65))))]) (st1 := [.int x3, .int ((66 + (4 * (g 114 65))) + 2), .ref 114]) (h1 := mk g10) rfl ?_
          obtain ⟨k13, hk13, e⟩ := zb_bind e
          obtain ⟨g12, hg12, e⟩ := zb_let e
          refine Wp.ias (pc1 := 82) rfl rfl rfl hk13 hg12 rfl ?_
          refine Wp.steps 1 (pc1 := 83) (lo1 := [some (.ref 113), some (.int x1), some (.int x2), some (.int x3), some (.int x4), some (.int (66 + (4 * (g 114 65))))]) (st1 := [.ref 113]) (h1 := mk g12) rfl ?_
          refine Wp.gf (pc1 := 86) (v := .ref 114) rfl rfl rfl rfl rfl ?_
          refine Wp.steps 4 (pc1 := 92) (lo1 := [some (.ref 113), some (.int x1), some (.int x2), some (.int x3), some (.int x4), some (.int (66 + (4 * (g 114 65))))]) (st1 := [.int x4, .int ((66 + (4 * (g 114 65))) + 3), .ref 114]) (h1 := mk g12) rfl ?_
          obtain ⟨v14, hvv14, e⟩ := zb_let e
          refine Wp.ca (m := 108) (d1 := d + 1) (as := [.int x4]) (rest := [.int ((66 + (4 * (g 114 65))) + 3), .ref 114]) (st1 := [.int v14, .int ((66 + (4 * (g 114 65))) + 3), .ref 114]) (pc1 := 95) rfl rfl rfl rfl rfl rfl rfl rfl rfl rfl rfl rfl (w_108 (sc := sc) (d := d + 1) x4 g12 hvv14) ?_
          obtain ⟨k16, hk16, e⟩ := zb_bind e
          obtain ⟨g15, hg15, e⟩ := zb_let e
          refine Wp.ias (pc1 := 96) rfl rfl rfl hk16 hg15 rfl ?_
          refine Wp.steps 1 (pc1 := 97) (lo1 := [some (.ref 113), some (.int x1), some (.int x2), some (.int x3), some (.int x4), some (.int (66 + (4 * (g 114 65))))]) (st1 := [.ref 113]) (h1 := mk g15) rfl ?_
          refine Wp.gf (pc1 := 100) (v := .ref 114) rfl rfl rfl rfl rfl ?_
          refine Wp.steps 2 (pc1 := 103) (lo1 := [some (.ref 113), some (.int x1), some (.int x2), some (.int x3), some (.int x4), some (.int (66 + (4 * (g 114 65))))]) (st1 := [.int 65, .ref 114, .int 65, .ref 114]) (h1 := mk g15) rfl ?_
          refine Wp.ia (pc1 := 104) (k := 65) rfl rfl rfl rfl rfl ?_
          refine Wp.steps 2 (pc1 := 106) (lo1 := [some (.ref 113), some (.int x1), some (.int x2), some (.int x3), some (.int x4), some (.int (66 + (4 * (g 114 65))))]) (st1 := [.int ((g15 114 65) + 1), .int 65, .ref 114]) (h1 := mk g15) rfl ?_
          obtain ⟨g17, hg17, e⟩ := zb_let e
          refine Wp.ias (pc1 := 107) (k := 65) rfl rfl rfl rfl hg17 rfl ?_
          refine Wp.steps 1 (pc1 := 108) (lo1 := [some (.ref 113), some (.int x1), some (.int x2), some (.int x3), some (.int x4), some (.int (66 + (4 * (g 114 65))))]) (st1 := [.ref 113]) (h1 := mk g17) rfl ?_
          refine Wp.gf (pc1 := 111) (v := .ref 114) rfl rfl rfl rfl rfl ?_
          refine Wp.steps 1 (pc1 := 113) (lo1 := [some (.ref 113), some (.int x1), some (.int x2), some (.int x3), some (.int x4), some (.int (66 + (4 * (g 114 65))))]) (st1 := [.int 65, .ref 114]) (h1 := mk g17) rfl ?_
          refine Wp.ia (pc1 := 114) (k := 65) rfl rfl rfl rfl rfl ?_
          obtain ⟨e1, e2⟩ := zb_r2 e
          subst e1
          subst e2
          exact Wp.ret rfl rfl rfl (K _)
        · skip
          refine Wp.cF (pc1 := 37) rfl hc7 rfl ?_
          refine Wp.steps 1 (pc1 := 39) (lo1 := [some (.ref 113), some (.int x1), some (.int x2), some (.int x3), some (.int x4), none]) (st1 := [.int (-3)]) (h1 := mk g) rfl ?_
          obtain ⟨e1, e2⟩ := zb_r2 e
          subst e1
          subst e2
          exact Wp.ret rfl rfl rfl (K _)
      · skip
        refine Wp.iF (pc1 := 23) rfl (zb_neF hc6) rfl ?_
        refine Wp.steps 1 (pc1 := 24) (lo1 := [some (.ref 113), some (.int x1), some (.int x2), some (.int x3), some (.int x4), none]) (st1 := [.int (-1)]) (h1 := mk g) rfl ?_
        obtain ⟨e1, e2⟩ := zb_r2 e
        subst e1
        subst e2
        exact Wp.ret rfl rfl rfl (K _)
    · skip
      refine Wp.iT (pc1 := 23) rfl (zb_eqT hc4) rfl ?_
      refine Wp.steps 1 (pc1 := 24) (lo1 := [some (.ref 113), some (.int x1), some (.int x2), some (.int x3), some (.int x4), none]) (st1 := [.int (-1)]) (h1 := mk g) rfl ?_
      obtain ⟨e1, e2⟩ := zb_r2 e
      subst e1
      subst e2
      exact Wp.ret rfl rfl rfl (K _)
  · skip
    refine Wp.iT (pc1 := 23) rfl (zb_eqT hc2) rfl ?_
    refine Wp.steps 1 (pc1 := 24) (lo1 := [some (.ref 113), some (.int x1), some (.int x2), some (.int x3), some (.int x4), none]) (st1 := [.int (-1)]) (h1 := mk g) rfl ?_
    obtain ⟨e1, e2⟩ := zb_r2 e
    subst e1
    subst e2
    exact Wp.ret rfl rfl rfl (K _)
/-- EveningFirst.forget(I)I -/
def d_80 (x1 : Int32) (g : G) : Int32 × G :=
  bif zm_cmp .lt x1 0 then (
    ((-1), g)) else
  bif zm_cmp .le x1 (g 1 3) then (
    zb_l (zg_up g 1 3 x1) fun g3 =>
    ((g 1 3), g3)) else
  ((-1), g)
set_option maxRecDepth 100000 in
set_option maxHeartbeats 4000000 in
theorem w_80 {sc : Option (List Int32)} {d : Nat} (x1 : Int32) (g : G) {r : Int32} {g' : G} (e : d_80 x1 g = (r, g')) : zB sc (d) 80 0 (zm_ent (z_L 80) [.ref 0, .int x1]) [] (mk g) [.int r] (mk g') := by
  unfold d_80 at e
  intro Q K
  show Wp sc (d) 80 0 [some (.ref 0), some (.int x1), none] [] (mk g) Q
  refine Wp.steps 1 (pc1 := 1) (lo1 := [some (.ref 0), some (.int x1), none]) (st1 := [.ref 0]) (h1 := mk g) rfl ?_
  refine Wp.gf (pc1 := 4) (v := .ref 1) rfl rfl rfl rfl rfl ?_
  refine Wp.gf (pc1 := 7) (v := .int (g 1 3)) rfl rfl rfl rfl rfl ?_
  refine Wp.steps 2 (pc1 := 9) (lo1 := [some (.ref 0), some (.int x1), some (.int (g 1 3))]) (st1 := [.int x1]) (h1 := mk g) rfl ?_
  rcases zb_if e with ⟨hc1, e⟩ | ⟨hc1, e⟩
  · skip
    refine Wp.iT (pc1 := 17) rfl hc1 rfl ?_
    refine Wp.steps 1 (pc1 := 18) (lo1 := [some (.ref 0), some (.int x1), some (.int (g 1 3))]) (st1 := [.int (-1)]) (h1 := mk g) rfl ?_
    obtain ⟨e1, e2⟩ := zb_q2 e
    subst e1
    subst e2
    exact Wp.ret rfl rfl rfl (K _)
  · skip
    refine Wp.iF (pc1 := 12) rfl hc1 rfl ?_
    refine Wp.steps 2 (pc1 := 14) (lo1 := [some (.ref 0), some (.int x1), some (.int (g 1 3))]) (st1 := [.int (g 1 3), .int x1]) (h1 := mk g) rfl ?_
    rcases zb_if e with ⟨hc2, e⟩ | ⟨hc2, e⟩
    · skip
      refine Wp.cT (pc1 := 19) rfl hc2 rfl ?_
      refine Wp.steps 1 (pc1 := 20) (lo1 := [some (.ref 0), some (.int x1), some (.int (g 1 3))]) (st1 := [.ref 0]) (h1 := mk g) rfl ?_
      refine Wp.gf (pc1 := 23) (v := .ref 1) rfl rfl rfl rfl rfl ?_
      refine Wp.steps 1 (pc1 := 24) (lo1 := [some (.ref 0), some (.int x1), some (.int (g 1 3))]) (st1 := [.int x1, .ref 1]) (h1 := mk g) rfl ?_
      obtain ⟨g3, hg3, e⟩ := zb_let e
      refine Wp.pf (pc1 := 27) rfl rfl rfl rfl rfl rfl hg3 rfl ?_
      refine Wp.steps 1 (pc1 := 28) (lo1 := [some (.ref 0), some (.int x1), some (.int (g 1 3))]) (st1 := [.int (g 1 3)]) (h1 := mk g3) rfl ?_
      obtain ⟨e1, e2⟩ := zb_q2 e
      subst e1
      subst e2
      exact Wp.ret rfl rfl rfl (K _)
    · skip
      refine Wp.cF (pc1 := 17) rfl hc2 rfl ?_
      refine Wp.steps 1 (pc1 := 18) (lo1 := [some (.ref 0), some (.int x1), some (.int (g 1 3))]) (st1 := [.int (-1)]) (h1 := mk g) rfl ?_
      obtain ⟨e1, e2⟩ := zb_q2 e
      subst e1
      subst e2
      exact Wp.ret rfl rfl rfl (K _)
/-- EveningFirstModel.forget(I)I -/
def d_176 (x1 : Int32) (g : G) : Option (Int32 × G) :=
  zb_l (d_107 (Int32.toInt64 x1) 0 (Int32.toInt64 (g 114 65))) fun v1 =>
  bif v1 then (
    zb_bp (d_142 65 x1 g) fun v3 g4 =>
    some (v3, g4)) else
  some ((-1), g)
set_option maxRecDepth 100000 in
set_option maxHeartbeats 4000000 in
theorem w_176 {sc : Option (List Int32)} {d : Nat} (x1 : Int32) (g : G) {r : Int32} {g' : G} (e : d_176 x1 g = some (r, g')) : zB sc (d + 1) 176 0 (zm_ent (z_L 176) [.ref 113, .int x1]) [] (mk g) [.int r] (mk g') := by
  unfold d_176 at e
  intro Q K
  show Wp sc (d + 1) 176 0 [some (.ref 113), some (.int x1)] [] (mk g) Q
  refine Wp.steps 4 (pc1 := 4) (lo1 := [some (.ref 113), some (.int x1)]) (st1 := [.ref 113, .long 0, .long (Int32.toInt64 x1)]) (h1 := mk g) rfl ?_
  refine Wp.gf (pc1 := 7) (v := .ref 114) rfl rfl rfl rfl rfl ?_
  refine Wp.steps 1 (pc1 := 9) (lo1 := [some (.ref 113), some (.int x1)]) (st1 := [.int 65, .ref 114, .long 0, .long (Int32.toInt64 x1)]) (h1 := mk g) rfl ?_
  refine Wp.ia (pc1 := 10) (k := 65) rfl rfl rfl rfl rfl ?_
  refine Wp.steps 1 (pc1 := 11) (lo1 := [some (.ref 113), some (.int x1)]) (st1 := [.long (Int32.toInt64 (g 114 65)), .long 0, .long (Int32.toInt64 x1)]) (h1 := mk g) rfl ?_
  obtain ⟨v1, hvv1, e⟩ := zb_let e
  refine Wp.ca (m := 107) (d1 := d) (as := [.long (Int32.toInt64 x1), .long 0, .long (Int32.toInt64 (g 114 65))]) (rest := []) (st1 := [.int (zb_i v1)]) (pc1 := 14) rfl rfl rfl rfl rfl rfl rfl rfl rfl rfl rfl rfl (w_107 (sc := sc) (d := d) (Int32.toInt64 x1) 0 (Int32.toInt64 (g 114 65)) g hvv1) ?_
  rcases zb_if e with ⟨hc2, e⟩ | ⟨hc2, e⟩
  · skip
    refine Wp.iF (pc1 := 17) rfl (zb_eqF hc2) rfl ?_
    refine Wp.steps 3 (pc1 := 21) (lo1 := [some (.ref 113), some (.int x1)]) (st1 := [.int x1, .int 65, .ref 113]) (h1 := mk g) rfl ?_
    obtain ⟨v3, g4, hvv3, e⟩ := zb_bpair e
    refine Wp.ca (m := 142) (d1 := d) (as := [.ref 113, .int 65, .int x1]) (rest := []) (st1 := [.int v3]) (pc1 := 24) rfl rfl rfl rfl rfl rfl rfl rfl (mk_rok rfl rfl rfl rfl) rfl rfl rfl (w_142 (sc := sc) (d := d) 65 x1 g hvv3) ?_
    refine Wp.steps 1 (pc1 := 28) (lo1 := [some (.ref 113), some (.int x1)]) (st1 := [.int v3]) (h1 := mk g4) rfl ?_
    obtain ⟨e1, e2⟩ := zb_r2 e
    subst e1
    subst e2
    exact Wp.ret rfl rfl rfl (K _)
  · skip
    refine Wp.iT (pc1 := 27) rfl (zb_eqT hc2) rfl ?_
    refine Wp.steps 1 (pc1 := 28) (lo1 := [some (.ref 113), some (.int x1)]) (st1 := [.int (-1)]) (h1 := mk g) rfl ?_
    obtain ⟨e1, e2⟩ := zb_r2 e
    subst e1
    subst e2
    exact Wp.ret rfl rfl rfl (K _)
def d_25_4 (r0 : Nat) (g : G) : Nat → Int32 → Int32 → Option Int32
  | 0, _, _ => none
  | f + 1, x1, x2 =>
    bif zm_cmp .ge x2 (g r0 1) then (
      some x1) else
    d_25_4 r0 g f (x1 * 3) (x2 + 1)
set_option maxRecDepth 100000 in
set_option maxHeartbeats 4000000 in
theorem w_25_4 {sc : Option (List Int32)} {d : Nat} (r0 : Nat) (h0 : zg_cl r0 = 2) (g : G) : ∀ (f : Nat) (x1 : Int32) (x2 : Int32) (r : Int32), d_25_4 r0 g f x1 x2 = some r → zB sc (d) 25 4 [some (.ref r0), some (.int x1), some (.int x2)] [] (mk g) [.int r] (mk g) := by
  intro f
  induction f with
  | zero =>
    intro x1 x2 r e
    rw [d_25_4.eq_1] at e
    cases e
  | succ f ih =>
    intro x1 x2 r e
    rw [d_25_4.eq_2] at e
    intro Q K
    refine Wp.steps 2 (pc1 := 6) (lo1 := [some (.ref r0), some (.int x1), some (.int x2)]) (st1 := [.ref r0, .int x2]) (h1 := mk g) rfl ?_
    refine Wp.gf (pc1 := 9) (v := .int (g r0 1)) rfl h0 rfl rfl rfl ?_
    rcases zb_if e with ⟨hc1, e⟩ | ⟨hc1, e⟩
    · skip
      refine Wp.cT (pc1 := 22) rfl hc1 rfl ?_
      refine Wp.steps 1 (pc1 := 23) (lo1 := [some (.ref r0), some (.int x1), some (.int x2)]) (st1 := [.int x1]) (h1 := mk g) rfl ?_
      have e1 := zb_r1 e
      subst e1
      exact Wp.ret rfl rfl rfl (K _)
    · skip
      refine Wp.cF (pc1 := 12) rfl hc1 rfl ?_
      refine Wp.steps 6 (pc1 := 4) (lo1 := [some (.ref r0), some (.int (x1 * 3)), some (.int (x2 + 1))]) (st1 := []) (h1 := mk g) rfl ?_
      exact ih _ _ _ e Q K
/-- EveningFirst$Family.wayCodes()I -/
def d_25 (r0 : Nat) (g : G) : Option Int32 :=
  d_25_4 r0 g 300 1 0
set_option maxRecDepth 100000 in
set_option maxHeartbeats 4000000 in
theorem w_25 {sc : Option (List Int32)} {d : Nat} (r0 : Nat) (h0 : zg_cl r0 = 2) (g : G) {r : Int32} (e : d_25 r0 g = some r) : zB sc (d) 25 0 (zm_ent (z_L 25) [.ref r0]) [] (mk g) [.int r] (mk g) := by
  unfold d_25 at e
  intro Q K
  show Wp sc (d) 25 0 [some (.ref r0), none, none] [] (mk g) Q
  refine Wp.steps 4 (pc1 := 4) (lo1 := [some (.ref r0), some (.int 1), some (.int 0)]) (st1 := []) (h1 := mk g) rfl ?_
  exact w_25_4 (sc := sc) (d := d) r0 h0 g 300 1 0 _ e Q K
def d_26_4 (r0 : Nat) : Nat → Int32 → Int32 → G → Option G
  | 0, _, _, _ => none
  | f + 1, x2, x3, g =>
    bif zm_cmp .ge x3 (g r0 1) then (
      some g) else
    Option.bind (zm_ix x3 4) fun k2 =>
    zb_l (zg_up g (r0 + 4 + k2) 0 (x2 - x2 / 3 * 3)) fun g3 =>
    d_26_4 r0 f (x2 / 3) (x3 + 1) g3
set_option maxRecDepth 100000 in
set_option maxHeartbeats 4000000 in
theorem w_26_4 {sc : Option (List Int32)} {d : Nat} (r0 : Nat) (h0 : zg_cl r0 = 2) : ∀ (f : Nat) (x2 : Int32) (x3 : Int32) (g : G) (g' : G), d_26_4 r0 f x2 x3 g = some g' → zB sc (d) 26 4 [some (.ref r0), none, some (.int x2), some (.int x3)] [] (mk g) [] (mk g') := by
  intro f
  induction f with
  | zero =>
    intro x2 x3 g g' e
    rw [d_26_4.eq_1] at e
    cases e
  | succ f ih =>
    intro x2 x3 g g' e
    rw [d_26_4.eq_2] at e
    intro Q K
    refine Wp.steps 2 (pc1 := 6) (lo1 := [some (.ref r0), none, some (.int x2), some (.int x3)]) (st1 := [.ref r0, .int x3]) (h1 := mk g) rfl ?_
    refine Wp.gf (pc1 := 9) (v := .int (g r0 1)) rfl h0 rfl rfl rfl ?_
    rcases zb_if e with ⟨hc1, e⟩ | ⟨hc1, e⟩
    · skip
      refine Wp.cT (pc1 := 34) rfl hc1 rfl ?_
      have e1 := zb_r1 e
      subst e1
      exact Wp.ret rfl rfl rfl (K _)
    · skip
      refine Wp.cF (pc1 := 12) rfl hc1 rfl ?_
      refine Wp.steps 1 (pc1 := 13) (lo1 := [some (.ref r0), none, some (.int x2), some (.int x3)]) (st1 := [.ref r0]) (h1 := mk g) rfl ?_
      refine Wp.gf (pc1 := 16) (v := .ref (r0 + 1)) rfl h0 rfl rfl rfl ?_
      refine Wp.steps 1 (pc1 := 17) (lo1 := [some (.ref r0), none, some (.int x2), some (.int x3)]) (st1 := [.int x3, .ref (r0 + 1)]) (h1 := mk g) rfl ?_
      obtain ⟨k2, hk2, e⟩ := zb_bind e
      refine Wp.aa (pc1 := 18) (v := (r0 + 4 + k2)) rfl (zg_rones (b := r0) h0) rfl hk2 (by omega) rfl ?_
      refine Wp.steps 3 (pc1 := 21) (lo1 := [some (.ref r0), none, some (.int x2), some (.int x3)]) (st1 := [.int (x2 - x2 / 3 * 3), .ref (r0 + 4 + k2)]) (h1 := mk g) rfl ?_
      obtain ⟨g3, hg3, e⟩ := zb_let e
      refine Wp.pf (pc1 := 24) rfl (zg_one (b := r0) h0 hk2) rfl rfl rfl rfl hg3 rfl ?_
      refine Wp.steps 6 (pc1 := 4) (lo1 := [some (.ref r0), none, some (.int (x2 / 3)), some (.int (x3 + 1))]) (st1 := []) (h1 := mk g3) rfl ?_
      exact ih _ _ _ _ e Q K
/-- EveningFirst$Family.goBy(I)V -/
def d_26 (r0 : Nat) (x1 : Int32) (g : G) : Option G :=
  d_26_4 r0 300 x1 0 g
set_option maxRecDepth 100000 in
set_option maxHeartbeats 4000000 in
theorem w_26 {sc : Option (List Int32)} {d : Nat} (r0 : Nat) (x1 : Int32) (h0 : zg_cl r0 = 2) (g : G) {g' : G} (e : d_26 r0 x1 g = some g') : zB sc (d) 26 0 (zm_ent (z_L 26) [.ref r0, .int x1]) [] (mk g) [] (mk g') := by
  unfold d_26 at e
  intro Q K
  show Wp sc (d) 26 0 [some (.ref r0), some (.int x1), none, none] [] (mk g) Q
  refine Wp.steps 4 (pc1 := 4) (lo1 := [some (.ref r0), some (.int x1), some (.int x1), some (.int 0)]) (st1 := []) (h1 := mk g) rfl ?_
  refine Wp.fg [some (.ref r0), none, some (.int x1), some (.int 0)] (zm_lle_s (zm_lle_n (zm_lle_s (zm_lle_s zm_lle_0)))) ?_
  exact w_26_4 (sc := sc) (d := d) r0 h0 300 x1 0 g _ e Q K
def d_101_25 (r1 : Nat) (x2 : Int32) (g : G) : Nat → Int32 → Option (Bool × G)
  | 0, _ => none
  | f + 1, x3 =>
    bif zm_cmp .ge x3 (g r1 3) then (
      some (true, g)) else
    Option.bind (zm_ix x3 8) fun k4 =>
    Option.bind (d_24 r1 (g (r1 + 16 + k4) 0) (g (r1 + 16 + k4) 2) x2 g) fun v5 =>
    zb_l (d_90 v5 (g (r1 + 16 + k4) 1)) fun v6 =>
    bif zm_cmp .eq (zb_i v6) (g (r1 + 16 + k4) 3) then (
      d_101_25 r1 x2 g f (x3 + 1)) else
    some (false, g)
set_option maxRecDepth 100000 in
set_option maxHeartbeats 4000000 in
theorem w_101_25 {sc : Option (List Int32)} {d : Nat} (r1 : Nat) (x2 : Int32) (h1 : zg_cl r1 = 2) (g : G) : ∀ (f : Nat) (x3 : Int32) (r : Bool) (g' : G), d_101_25 r1 x2 g f x3 = some (r, g') → zB sc (d + 4) 101 25 [none, some (.ref r1), some (.int x2), some (.int x3), none] [] (mk g) [.int (zb_i r)] (mk g') := by
  intro f
  induction f with
  | zero =>
    intro x3 r g' e
    rw [d_101_25.eq_1] at e
    cases e
  | succ f ih =>
    intro x3 r g' e
    rw [d_101_25.eq_2] at e
    intro Q K
    refine Wp.steps 2 (pc1 := 27) (lo1 := [none, some (.ref r1), some (.int x2), some (.int x3), none]) (st1 := [.ref r1, .int x3]) (h1 := mk g) rfl ?_
    refine Wp.gf (pc1 := 30) (v := .int (g r1 3)) rfl h1 rfl rfl rfl ?_
    rcases zb_if e with ⟨hc3, e⟩ | ⟨hc3, e⟩
    · skip
      refine Wp.cT (pc1 := 80) rfl hc3 rfl ?_
      refine Wp.steps 1 (pc1 := 81) (lo1 := [none, some (.ref r1), some (.int x2), some (.int x3), none]) (st1 := [.int 1]) (h1 := mk g) rfl ?_
      obtain ⟨e1, e2⟩ := zb_r2 e
      subst e1
      subst e2
      exact Wp.ret rfl rfl rfl (K _)
    · skip
      refine Wp.cF (pc1 := 33) rfl hc3 rfl ?_
      refine Wp.steps 1 (pc1 := 34) (lo1 := [none, some (.ref r1), some (.int x2), some (.int x3), none]) (st1 := [.ref r1]) (h1 := mk g) rfl ?_
      refine Wp.gf (pc1 := 37) (v := .ref (r1 + 3)) rfl h1 rfl rfl rfl ?_
      refine Wp.steps 1 (pc1 := 38) (lo1 := [none, some (.ref r1), some (.int x2), some (.int x3), none]) (st1 := [.int x3, .ref (r1 + 3)]) (h1 := mk g) rfl ?_
      obtain ⟨k4, hk4, e⟩ := zb_bind e
      refine Wp.aa (pc1 := 39) (v := (r1 + 16 + k4)) rfl (zg_rseen (b := r1) h1) rfl hk4 (by omega) rfl ?_
      refine Wp.steps 3 (pc1 := 44) (lo1 := [none, some (.ref r1), some (.int x2), some (.int x3), some (.ref (r1 + 16 + k4))]) (st1 := [.ref (r1 + 16 + k4), .ref r1]) (h1 := mk g) rfl ?_
      refine Wp.gf (pc1 := 47) (v := .int (g (r1 + 16 + k4) 0)) rfl (zg_seen (b := r1) h1 hk4) rfl rfl rfl ?_
      refine Wp.steps 1 (pc1 := 49) (lo1 := [none, some (.ref r1), some (.int x2), some (.int x3), some (.ref (r1 + 16 + k4))]) (st1 := [.ref (r1 + 16 + k4), .int (g (r1 + 16 + k4) 0), .ref r1]) (h1 := mk g) rfl ?_
      refine Wp.gf (pc1 := 52) (v := .int (g (r1 + 16 + k4) 2)) rfl (zg_seen (b := r1) h1 hk4) rfl rfl rfl ?_
      refine Wp.steps 1 (pc1 := 53) (lo1 := [none, some (.ref r1), some (.int x2), some (.int x3), some (.ref (r1 + 16 + k4))]) (st1 := [.int x2, .int (g (r1 + 16 + k4) 2), .int (g (r1 + 16 + k4) 0), .ref r1]) (h1 := mk g) rfl ?_
      obtain ⟨v5, hvv5, e⟩ := zb_bind e
      refine Wp.ca (m := 24) (d1 := d + 3) (as := [.ref r1, .int (g (r1 + 16 + k4) 0), .int (g (r1 + 16 + k4) 2), .int x2]) (rest := []) (st1 := [.int v5]) (pc1 := 56) rfl rfl rfl rfl rfl rfl rfl rfl (mk_rok h1 rfl rfl rfl) rfl rfl rfl (w_24 (sc := sc) (d := d + 1) r1 (g (r1 + 16 + k4) 0) (g (r1 + 16 + k4) 2) x2 h1 g hvv5) ?_
      refine Wp.steps 1 (pc1 := 58) (lo1 := [none, some (.ref r1), some (.int x2), some (.int x3), some (.ref (r1 + 16 + k4))]) (st1 := [.ref (r1 + 16 + k4), .int v5]) (h1 := mk g) rfl ?_
      refine Wp.gf (pc1 := 61) (v := .int (g (r1 + 16 + k4) 1)) rfl (zg_seen (b := r1) h1 hk4) rfl rfl rfl ?_
      obtain ⟨v6, hvv6, e⟩ := zb_let e
      refine Wp.ca (m := 90) (d1 := d + 3) (as := [.int v5, .int (g (r1 + 16 + k4) 1)]) (rest := []) (st1 := [.int (zb_i v6)]) (pc1 := 64) rfl rfl rfl rfl rfl rfl rfl rfl rfl rfl rfl rfl (w_90 (sc := sc) (d := d + 3) v5 (g (r1 + 16 + k4) 1) g hvv6) ?_
      refine Wp.steps 1 (pc1 := 66) (lo1 := [none, some (.ref r1), some (.int x2), some (.int x3), some (.ref (r1 + 16 + k4))]) (st1 := [.ref (r1 + 16 + k4), .int (zb_i v6)]) (h1 := mk g) rfl ?_
      refine Wp.gf (pc1 := 69) (v := .int (g (r1 + 16 + k4) 3)) rfl (zg_seen (b := r1) h1 hk4) rfl rfl rfl ?_
      rcases zb_if e with ⟨hc7, e⟩ | ⟨hc7, e⟩
      · skip
        refine Wp.cT (pc1 := 74) rfl hc7 rfl ?_
        refine Wp.steps 2 (pc1 := 25) (lo1 := [none, some (.ref r1), some (.int x2), some (.int (x3 + 1)), some (.ref (r1 + 16 + k4))]) (st1 := []) (h1 := mk g) rfl ?_
        refine Wp.fg [none, some (.ref r1), some (.int x2), some (.int (x3 + 1)), none] (zm_lle_n (zm_lle_s (zm_lle_s (zm_lle_s (zm_lle_n zm_lle_0))))) ?_
        exact ih _ _ _ e Q K
      · skip
        refine Wp.cF (pc1 := 72) rfl hc7 rfl ?_
        refine Wp.steps 1 (pc1 := 73) (lo1 := [none, some (.ref r1), some (.int x2), some (.int x3), some (.ref (r1 + 16 + k4))]) (st1 := [.int 0]) (h1 := mk g) rfl ?_
        obtain ⟨e1, e2⟩ := zb_r2 e
        subst e1
        subst e2
        exact Wp.ret rfl rfl rfl (K _)
/-- EveningFirst.isFit(LEveningFirst$Family;)Z -/
def d_101 (r1 : Nat) (g : G) : Option (Bool × G) :=
  Option.bind (d_2 r1 g) fun g1 =>
  Option.bind (d_8 (g1 25 2) g1) fun v2 =>
  d_101_25 r1 v2 g1 300 0
set_option maxRecDepth 100000 in
set_option maxHeartbeats 4000000 in
theorem w_101 {sc : Option (List Int32)} {d : Nat} (r1 : Nat) (h1 : zg_cl r1 = 2) (g : G) {r : Bool} {g' : G} (e : d_101 r1 g = some (r, g')) : zB sc (d + 4) 101 0 (zm_ent (z_L 101) [.ref 0, .ref r1]) [] (mk g) [.int (zb_i r)] (mk g') := by
  unfold d_101 at e
  intro Q K
  show Wp sc (d + 4) 101 0 [some (.ref 0), some (.ref r1), none, none, none] [] (mk g) Q
  refine Wp.steps 1 (pc1 := 1) (lo1 := [some (.ref 0), some (.ref r1), none, none, none]) (st1 := [.ref 0]) (h1 := mk g) rfl ?_
  refine Wp.gf (pc1 := 4) (v := .ref 25) rfl rfl rfl rfl rfl ?_
  refine Wp.steps 1 (pc1 := 5) (lo1 := [some (.ref 0), some (.ref r1), none, none, none]) (st1 := [.ref r1, .ref 25]) (h1 := mk g) rfl ?_
  obtain ⟨g1, hvg1, e⟩ := zb_bind e
  refine Wp.ca (m := 2) (d1 := d + 3) (as := [.ref 25, .ref r1]) (rest := []) (st1 := []) (pc1 := 8) rfl rfl rfl rfl rfl rfl rfl rfl (mk_rok rfl rfl rfl rfl) rfl rfl rfl (w_2 (sc := sc) (d := d) r1 h1 g hvg1) ?_
  refine Wp.steps 1 (pc1 := 9) (lo1 := [some (.ref 0), some (.ref r1), none, none, none]) (st1 := [.ref 0]) (h1 := mk g1) rfl ?_
  refine Wp.gf (pc1 := 12) (v := .ref 25) rfl rfl rfl rfl rfl ?_
  refine Wp.steps 1 (pc1 := 13) (lo1 := [some (.ref 0), some (.ref r1), none, none, none]) (st1 := [.ref 0, .ref 25]) (h1 := mk g1) rfl ?_
  refine Wp.gf (pc1 := 16) (v := .ref 25) rfl rfl rfl rfl rfl ?_
  refine Wp.gf (pc1 := 19) (v := .int (g1 25 2)) rfl rfl rfl rfl rfl ?_
  obtain ⟨v2, hvv2, e⟩ := zb_bind e
  refine Wp.ca (m := 8) (d1 := d + 3) (as := [.ref 25, .int (g1 25 2)]) (rest := []) (st1 := [.int v2]) (pc1 := 22) rfl rfl rfl rfl rfl rfl rfl rfl (mk_rok rfl rfl rfl rfl) rfl rfl rfl (w_8 (sc := sc) (d := d + 1) (g1 25 2) g1 hvv2) ?_
  refine Wp.steps 3 (pc1 := 25) (lo1 := [some (.ref 0), some (.ref r1), some (.int v2), some (.int 0), none]) (st1 := []) (h1 := mk g1) rfl ?_
  refine Wp.fg [none, some (.ref r1), some (.int v2), some (.int 0), none] (zm_lle_n (zm_lle_s (zm_lle_s (zm_lle_s (zm_lle_n zm_lle_0))))) ?_
  exact w_101_25 (sc := sc) (d := d) r1 v2 h1 g1 300 0 _ _ e Q K
def d_81_73 (x1 : Int32) (x2 : Int32) (x6 : Int32) : Nat → Int32 → Int32 → Int32 → Int32 → G → Option (Int32 × G)
  | 0, _, _, _, _, _ => none
  | f + 1, x3, x4, x5, x7, g =>
    bif zm_cmp .ge x7 x6 then (
      bif zm_cmp .ne x1 0 then (
        bif zm_cmp .ne x1 1 then (
          some (x5, g)) else
        some (x4, g)) else
      some (x3, g)) else
    Option.bind (d_26 30 x7 g) fun g8 =>
    zb_bp (d_101 30 g8) fun v9 g10 =>
    bif v9 then (
      bif zm_cmp .ne x3 0 then (
        bif zm_cmp .eq x2 0 then (
          d_81_73 x1 x2 x6 f (x3 + 1) x4 x5 (x7 + 1) g10) else
        Option.bind (zm_ix (x1 - 10) 4) fun k14 =>
        d_81_73 x1 x2 x6 f (x3 + 1) x4 (x5 ||| ((1 : Int32) <<< ((g10 (34 + k14) 0) &&& 31))) (x7 + 1) g10) else
      bif zm_cmp .eq x2 0 then (
        d_81_73 x1 x2 x6 f (x3 + 1) x7 x5 (x7 + 1) g10) else
      Option.bind (zm_ix (x1 - 10) 4) fun k16 =>
      d_81_73 x1 x2 x6 f (x3 + 1) x7 (x5 ||| ((1 : Int32) <<< ((g10 (34 + k16) 0) &&& 31))) (x7 + 1) g10) else
    d_81_73 x1 x2 x6 f x3 x4 x5 (x7 + 1) g10
set_option maxRecDepth 100000 in
set_option maxHeartbeats 4000000 in
theorem w_81_73 {sc : Option (List Int32)} {d : Nat} (x1 : Int32) (x2 : Int32) (x6 : Int32) : ∀ (f : Nat) (x3 : Int32) (x4 : Int32) (x5 : Int32) (x7 : Int32) (g : G) (r : Int32) (g' : G), d_81_73 x1 x2 x6 f x3 x4 x5 x7 g = some (r, g') → zB sc (d + 5) 81 73 [some (.ref 0), some (.int x1), some (.int x2), some (.int x3), some (.int x4), some (.int x5), some (.int x6), some (.int x7)] [] (mk g) [.int r] (mk g') := by
  intro f
  induction f with
  | zero =>
    intro x3 x4 x5 x7 g r g' e
    rw [d_81_73.eq_1] at e
    cases e
  | succ f ih =>
    intro x3 x4 x5 x7 g r g' e
    rw [d_81_73.eq_2] at e
    intro Q K
    refine Wp.steps 2 (pc1 := 77) (lo1 := [some (.ref 0), some (.int x1), some (.int x2), some (.int x3), some (.int x4), some (.int x5), some (.int x6), some (.int x7)]) (st1 := [.int x6, .int x7]) (h1 := mk g) rfl ?_
    rcases zb_if e with ⟨hc5, e⟩ | ⟨hc5, e⟩
    · skip
      refine Wp.cT (pc1 := 148) rfl hc5 rfl ?_
      refine Wp.steps 1 (pc1 := 149) (lo1 := [some (.ref 0), some (.int x1), some (.int x2), some (.int x3), some (.int x4), some (.int x5), some (.int x6), some (.int x7)]) (st1 := [.int x1]) (h1 := mk g) rfl ?_
      rcases zb_if e with ⟨hc6, e⟩ | ⟨hc6, e⟩
      · skip
        refine Wp.iT (pc1 := 154) rfl hc6 rfl ?_
        refine Wp.steps 2 (pc1 := 156) (lo1 := [some (.ref 0), some (.int x1), some (.int x2), some (.int x3), some (.int x4), some (.int x5), some (.int x6), some (.int x7)]) (st1 := [.int 1, .int x1]) (h1 := mk g) rfl ?_
        rcases zb_if e with ⟨hc7, e⟩ | ⟨hc7, e⟩
        · skip
          refine Wp.cT (pc1 := 164) rfl hc7 rfl ?_
          refine Wp.steps 1 (pc1 := 166) (lo1 := [some (.ref 0), some (.int x1), some (.int x2), some (.int x3), some (.int x4), some (.int x5), some (.int x6), some (.int x7)]) (st1 := [.int x5]) (h1 := mk g) rfl ?_
          obtain ⟨e1, e2⟩ := zb_r2 e
          subst e1
          subst e2
          exact Wp.ret rfl rfl rfl (K _)
        · skip
          refine Wp.cF (pc1 := 159) rfl hc7 rfl ?_
          refine Wp.steps 2 (pc1 := 166) (lo1 := [some (.ref 0), some (.int x1), some (.int x2), some (.int x3), some (.int x4), some (.int x5), some (.int x6), some (.int x7)]) (st1 := [.int x4]) (h1 := mk g) rfl ?_
          obtain ⟨e1, e2⟩ := zb_r2 e
          subst e1
          subst e2
          exact Wp.ret rfl rfl rfl (K _)
      · skip
        refine Wp.iF (pc1 := 152) rfl hc6 rfl ?_
        refine Wp.steps 1 (pc1 := 153) (lo1 := [some (.ref 0), some (.int x1), some (.int x2), some (.int x3), some (.int x4), some (.int x5), some (.int x6), some (.int x7)]) (st1 := [.int x3]) (h1 := mk g) rfl ?_
        obtain ⟨e1, e2⟩ := zb_r2 e
        subst e1
        subst e2
        exact Wp.ret rfl rfl rfl (K _)
    · skip
      refine Wp.cF (pc1 := 80) rfl hc5 rfl ?_
      refine Wp.steps 1 (pc1 := 81) (lo1 := [some (.ref 0), some (.int x1), some (.int x2), some (.int x3), some (.int x4), some (.int x5), some (.int x6), some (.int x7)]) (st1 := [.ref 0]) (h1 := mk g) rfl ?_
      refine Wp.gf (pc1 := 84) (v := .ref 30) rfl rfl rfl rfl rfl ?_
      refine Wp.steps 1 (pc1 := 86) (lo1 := [some (.ref 0), some (.int x1), some (.int x2), some (.int x3), some (.int x4), some (.int x5), some (.int x6), some (.int x7)]) (st1 := [.int x7, .ref 30]) (h1 := mk g) rfl ?_
      obtain ⟨g8, hvg8, e⟩ := zb_bind e
      refine Wp.ca (m := 26) (d1 := d + 4) (as := [.ref 30, .int x7]) (rest := []) (st1 := []) (pc1 := 89) rfl rfl rfl rfl rfl rfl rfl rfl (mk_rok rfl rfl rfl rfl) rfl rfl rfl (w_26 (sc := sc) (d := d + 4) 30 x7 rfl g hvg8) ?_
      refine Wp.steps 2 (pc1 := 91) (lo1 := [some (.ref 0), some (.int x1), some (.int x2), some (.int x3), some (.int x4), some (.int x5), some (.int x6), some (.int x7)]) (st1 := [.ref 0, .ref 0]) (h1 := mk g8) rfl ?_
      refine Wp.gf (pc1 := 94) (v := .ref 30) rfl rfl rfl rfl rfl ?_
      obtain ⟨v9, g10, hvv9, e⟩ := zb_bpair e
      refine Wp.ca (m := 101) (d1 := d + 4) (as := [.ref 0, .ref 30]) (rest := []) (st1 := [.int (zb_i v9)]) (pc1 := 97) rfl rfl rfl rfl rfl rfl rfl rfl (mk_rok rfl rfl rfl rfl) rfl rfl rfl (w_101 (sc := sc) (d := d) 30 rfl g8 hvv9) ?_
      rcases zb_if e with ⟨hc11, e⟩ | ⟨hc11, e⟩
      · skip
        refine Wp.iF (pc1 := 100) rfl (zb_eqF hc11) rfl ?_
        refine Wp.steps 1 (pc1 := 101) (lo1 := [some (.ref 0), some (.int x1), some (.int x2), some (.int x3), some (.int x4), some (.int x5), some (.int x6), some (.int x7)]) (st1 := [.int x3]) (h1 := mk g10) rfl ?_
        rcases zb_if e with ⟨hc12, e⟩ | ⟨hc12, e⟩
        · skip
          refine Wp.iT (pc1 := 109) rfl hc12 rfl ?_
          refine Wp.steps 4 (pc1 := 117) (lo1 := [some (.ref 0), some (.int x1), some (.int x2), some (.int (x3 + 1)), some (.int x4), some (.int x5), some (.int x6), some (.int x7)]) (st1 := [.int x2]) (h1 := mk g10) rfl ?_
          rcases zb_if e with ⟨hc13, e⟩ | ⟨hc13, e⟩
          · skip
            refine Wp.iT (pc1 := 142) rfl hc13 rfl ?_
            refine Wp.steps 2 (pc1 := 73) (lo1 := [some (.ref 0), some (.int x1), some (.int x2), some (.int (x3 + 1)), some (.int x4), some (.int x5), some (.int x6), some (.int (x7 + 1))]) (st1 := []) (h1 := mk g10) rfl ?_
            exact ih _ _ _ _ _ _ _ e Q K
          · skip
            refine Wp.iF (pc1 := 120) rfl hc13 rfl ?_
            refine Wp.steps 3 (pc1 := 124) (lo1 := [some (.ref 0), some (.int x1), some (.int x2), some (.int (x3 + 1)), some (.int x4), some (.int x5), some (.int x6), some (.int x7)]) (st1 := [.ref 0, .int 1, .int x5]) (h1 := mk g10) rfl ?_
            refine Wp.gf (pc1 := 127) (v := .ref 30) rfl rfl rfl rfl rfl ?_
            refine Wp.gf (pc1 := 130) (v := .ref 31) rfl rfl rfl rfl rfl ?_
            refine Wp.steps 3 (pc1 := 134) (lo1 := [some (.ref 0), some (.int x1), some (.int x2), some (.int (x3 + 1)), some (.int x4), some (.int x5), some (.int x6), some (.int x7)]) (st1 := [.int (x1 - 10), .ref 31, .int 1, .int x5]) (h1 := mk g10) rfl ?_
            obtain ⟨k14, hk14, e⟩ := zb_bind e
            refine Wp.aa (pc1 := 135) (v := (34 + k14)) rfl (zg_rones (b := 30) rfl) rfl hk14 (by omega) rfl ?_
            refine Wp.gf (pc1 := 138) (v := .int (g10 (34 + k14) 0)) rfl (zg_one (b := 30) rfl hk14) rfl rfl rfl ?_
            refine Wp.steps 5 (pc1 := 73) (lo1 := [some (.ref 0), some (.int x1), some (.int x2), some (.int (x3 + 1)), some (.int x4), some (.int (x5 ||| ((1 : Int32) <<< ((g10 (34 + k14) 0) &&& 31)))), some (.int x6), some (.int (x7 + 1))]) (st1 := []) (h1 := mk g10) rfl ?_
            exact ih _ _ _ _ _ _ _ e Q K
        · skip
          refine Wp.iF (pc1 := 104) rfl hc12 rfl ?_
          refine Wp.steps 5 (pc1 := 117) (lo1 := [some (.ref 0), some (.int x1), some (.int x2), some (.int (x3 + 1)), some (.int x7), some (.int x5), some (.int x6), some (.int x7)]) (st1 := [.int x2]) (h1 := mk g10) rfl ?_
          rcases zb_if e with ⟨hc15, e⟩ | ⟨hc15, e⟩
          · skip
            refine Wp.iT (pc1 := 142) rfl hc15 rfl ?_
            refine Wp.steps 2 (pc1 := 73) (lo1 := [some (.ref 0), some (.int x1), some (.int x2), some (.int (x3 + 1)), some (.int x7), some (.int x5), some (.int x6), some (.int (x7 + 1))]) (st1 := []) (h1 := mk g10) rfl ?_
            exact ih _ _ _ _ _ _ _ e Q K
          · skip
            refine Wp.iF (pc1 := 120) rfl hc15 rfl ?_
            refine Wp.steps 3 (pc1 := 124) (lo1 := [some (.ref 0), some (.int x1), some (.int x2), some (.int (x3 + 1)), some (.int x7), some (.int x5), some (.int x6), some (.int x7)]) (st1 := [.ref 0, .int 1, .int x5]) (h1 := mk g10) rfl ?_
            refine Wp.gf (pc1 := 127) (v := .ref 30) rfl rfl rfl rfl rfl ?_
            refine Wp.gf (pc1 := 130) (v := .ref 31) rfl rfl rfl rfl rfl ?_
            refine Wp.steps 3 (pc1 := 134) (lo1 := [some (.ref 0), some (.int x1), some (.int x2), some (.int (x3 + 1)), some (.int x7), some (.int x5), some (.int x6), some (.int x7)]) (st1 := [.int (x1 - 10), .ref 31, .int 1, .int x5]) (h1 := mk g10) rfl ?_
            obtain ⟨k16, hk16, e⟩ := zb_bind e
            refine Wp.aa (pc1 := 135) (v := (34 + k16)) rfl (zg_rones (b := 30) rfl) rfl hk16 (by omega) rfl ?_
            refine Wp.gf (pc1 := 138) (v := .int (g10 (34 + k16) 0)) rfl (zg_one (b := 30) rfl hk16) rfl rfl rfl ?_
            refine Wp.steps 5 (pc1 := 73) (lo1 := [some (.ref 0), some (.int x1), some (.int x2), some (.int (x3 + 1)), some (.int x7), some (.int (x5 ||| ((1 : Int32) <<< ((g10 (34 + k16) 0) &&& 31)))), some (.int x6), some (.int (x7 + 1))]) (st1 := []) (h1 := mk g10) rfl ?_
            exact ih _ _ _ _ _ _ _ e Q K
      · skip
        refine Wp.iT (pc1 := 142) rfl (zb_eqT hc11) rfl ?_
        refine Wp.steps 2 (pc1 := 73) (lo1 := [some (.ref 0), some (.int x1), some (.int x2), some (.int x3), some (.int x4), some (.int x5), some (.int x6), some (.int (x7 + 1))]) (st1 := []) (h1 := mk g10) rfl ?_
        exact ih _ _ _ _ _ _ _ e Q K
def d_81_25 (x1 : Int32) (s0 : Int32) (g : G) : Option (Int32 × G) :=
  bif zm_cmp .eq x1 0 then (
    Option.bind (d_17 30 1 g) fun g3 =>
    Option.bind (d_25 30 g3) fun v4 =>
    d_81_73 x1 s0 v4 300 0 (-4) 0 0 g3) else
  bif zm_cmp .eq x1 1 then (
    Option.bind (d_17 30 1 g) fun g18 =>
    Option.bind (d_25 30 g18) fun v19 =>
    d_81_73 x1 s0 v19 300 0 (-4) 0 0 g18) else
  bif zm_cmp .ne s0 0 then (
    Option.bind (d_17 30 1 g) fun g21 =>
    Option.bind (d_25 30 g21) fun v22 =>
    d_81_73 x1 s0 v22 300 0 (-4) 0 0 g21) else
  some ((-1), g)
set_option maxRecDepth 100000 in
set_option maxHeartbeats 4000000 in
theorem w_81_25 {sc : Option (List Int32)} {d : Nat} (x1 : Int32) (s0 : Int32) (g : G) (r : Int32) (g' : G) (e : d_81_25 x1 s0 g = some (r, g')) : zB sc (d + 5) 81 25 [some (.ref 0), some (.int x1), none, none, none, none, none, none] [.int s0] (mk g) [.int r] (mk g') := by
  unfold d_81_25 at e
  intro Q K
  refine Wp.steps 2 (pc1 := 27) (lo1 := [some (.ref 0), some (.int x1), some (.int s0), none, none, none, none, none]) (st1 := [.int x1]) (h1 := mk g) rfl ?_
  rcases zb_if e with ⟨hc2, e⟩ | ⟨hc2, e⟩
  · skip
    refine Wp.iT (pc1 := 41) rfl hc2 rfl ?_
    refine Wp.steps 1 (pc1 := 42) (lo1 := [some (.ref 0), some (.int x1), some (.int s0), none, none, none, none, none]) (st1 := [.ref 0]) (h1 := mk g) rfl ?_
    refine Wp.gf (pc1 := 45) (v := .ref 30) rfl rfl rfl rfl rfl ?_
    refine Wp.steps 1 (pc1 := 46) (lo1 := [some (.ref 0), some (.int x1), some (.int s0), none, none, none, none, none]) (st1 := [.ref 0, .ref 30]) (h1 := mk g) rfl ?_
    refine Wp.gf (pc1 := 49) (v := .ref 1) rfl rfl rfl rfl rfl ?_
    obtain ⟨g3, hvg3, e⟩ := zb_bind e
    refine Wp.ca (m := 17) (d1 := d + 4) (as := [.ref 30, .ref 1]) (rest := []) (st1 := []) (pc1 := 52) rfl rfl rfl rfl rfl rfl rfl rfl (mk_rok rfl rfl rfl rfl) rfl rfl rfl (w_17 (sc := sc) (d := d + 3) 30 1 rfl rfl g hvg3) ?_
    refine Wp.steps 7 (pc1 := 62) (lo1 := [some (.ref 0), some (.int x1), some (.int s0), some (.int 0), some (.int (-4)), some (.int 0), none, none]) (st1 := [.ref 0]) (h1 := mk g3) rfl ?_
    refine Wp.gf (pc1 := 65) (v := .ref 30) rfl rfl rfl rfl rfl ?_
    obtain ⟨v4, hvv4, e⟩ := zb_bind e
    refine Wp.ca (m := 25) (d1 := d + 4) (as := [.ref 30]) (rest := []) (st1 := [.int v4]) (pc1 := 68) rfl rfl rfl rfl rfl rfl rfl rfl (mk_rok rfl rfl rfl rfl) rfl rfl rfl (w_25 (sc := sc) (d := d + 4) 30 rfl g3 hvv4) ?_
    refine Wp.steps 3 (pc1 := 73) (lo1 := [some (.ref 0), some (.int x1), some (.int s0), some (.int 0), some (.int (-4)), some (.int 0), some (.int v4), some (.int 0)]) (st1 := []) (h1 := mk g3) rfl ?_
    exact w_81_73 (sc := sc) (d := d) x1 s0 v4 300 0 (-4) 0 0 g3 _ _ e Q K
  · skip
    refine Wp.iF (pc1 := 30) rfl hc2 rfl ?_
    refine Wp.steps 2 (pc1 := 32) (lo1 := [some (.ref 0), some (.int x1), some (.int s0), none, none, none, none, none]) (st1 := [.int 1, .int x1]) (h1 := mk g) rfl ?_
    rcases zb_if e with ⟨hc17, e⟩ | ⟨hc17, e⟩
    · skip
      refine Wp.cT (pc1 := 41) rfl hc17 rfl ?_
      refine Wp.steps 1 (pc1 := 42) (lo1 := [some (.ref 0), some (.int x1), some (.int s0), none, none, none, none, none]) (st1 := [.ref 0]) (h1 := mk g) rfl ?_
      refine Wp.gf (pc1 := 45) (v := .ref 30) rfl rfl rfl rfl rfl ?_
      refine Wp.steps 1 (pc1 := 46) (lo1 := [some (.ref 0), some (.int x1), some (.int s0), none, none, none, none, none]) (st1 := [.ref 0, .ref 30]) (h1 := mk g) rfl ?_
      refine Wp.gf (pc1 := 49) (v := .ref 1) rfl rfl rfl rfl rfl ?_
      obtain ⟨g18, hvg18, e⟩ := zb_bind e
      refine Wp.ca (m := 17) (d1 := d + 4) (as := [.ref 30, .ref 1]) (rest := []) (st1 := []) (pc1 := 52) rfl rfl rfl rfl rfl rfl rfl rfl (mk_rok rfl rfl rfl rfl) rfl rfl rfl (w_17 (sc := sc) (d := d + 3) 30 1 rfl rfl g hvg18) ?_
      refine Wp.steps 7 (pc1 := 62) (lo1 := [some (.ref 0), some (.int x1), some (.int s0), some (.int 0), some (.int (-4)), some (.int 0), none, none]) (st1 := [.ref 0]) (h1 := mk g18) rfl ?_
      refine Wp.gf (pc1 := 65) (v := .ref 30) rfl rfl rfl rfl rfl ?_
      obtain ⟨v19, hvv19, e⟩ := zb_bind e
      refine Wp.ca (m := 25) (d1 := d + 4) (as := [.ref 30]) (rest := []) (st1 := [.int v19]) (pc1 := 68) rfl rfl rfl rfl rfl rfl rfl rfl (mk_rok rfl rfl rfl rfl) rfl rfl rfl (w_25 (sc := sc) (d := d + 4) 30 rfl g18 hvv19) ?_
      refine Wp.steps 3 (pc1 := 73) (lo1 := [some (.ref 0), some (.int x1), some (.int s0), some (.int 0), some (.int (-4)), some (.int 0), some (.int v19), some (.int 0)]) (st1 := []) (h1 := mk g18) rfl ?_
      exact w_81_73 (sc := sc) (d := d) x1 s0 v19 300 0 (-4) 0 0 g18 _ _ e Q K
    · skip
      refine Wp.cF (pc1 := 35) rfl hc17 rfl ?_
      refine Wp.steps 1 (pc1 := 36) (lo1 := [some (.ref 0), some (.int x1), some (.int s0), none, none, none, none, none]) (st1 := [.int s0]) (h1 := mk g) rfl ?_
      rcases zb_if e with ⟨hc20, e⟩ | ⟨hc20, e⟩
      · skip
        refine Wp.iT (pc1 := 41) rfl hc20 rfl ?_
        refine Wp.steps 1 (pc1 := 42) (lo1 := [some (.ref 0), some (.int x1), some (.int s0), none, none, none, none, none]) (st1 := [.ref 0]) (h1 := mk g) rfl ?_
        refine Wp.gf (pc1 := 45) (v := .ref 30) rfl rfl rfl rfl rfl ?_
        refine Wp.steps 1 (pc1 := 46) (lo1 := [some (.ref 0), some (.int x1), some (.int s0), none, none, none, none, none]) (st1 := [.ref 0, .ref 30]) (h1 := mk g) rfl ?_
        refine Wp.gf (pc1 := 49) (v := .ref 1) rfl rfl rfl rfl rfl ?_
        obtain ⟨g21, hvg21, e⟩ := zb_bind e
        refine Wp.ca (m := 17) (d1 := d + 4) (as := [.ref 30, .ref 1]) (rest := []) (st1 := []) (pc1 := 52) rfl rfl rfl rfl rfl rfl rfl rfl (mk_rok rfl rfl rfl rfl) rfl rfl rfl (w_17 (sc := sc) (d := d + 3) 30 1 rfl rfl g hvg21) ?_
        refine Wp.steps 7 (pc1 := 62) (lo1 := [some (.ref 0), some (.int x1), some (.int s0), some (.int 0), some (.int (-4)), some (.int 0), none, none]) (st1 := [.ref 0]) (h1 := mk g21) rfl ?_
        refine Wp.gf (pc1 := 65) (v := .ref 30) rfl rfl rfl rfl rfl ?_
        obtain ⟨v22, hvv22, e⟩ := zb_bind e
        refine Wp.ca (m := 25) (d1 := d + 4) (as := [.ref 30]) (rest := []) (st1 := [.int v22]) (pc1 := 68) rfl rfl rfl rfl rfl rfl rfl rfl (mk_rok rfl rfl rfl rfl) rfl rfl rfl (w_25 (sc := sc) (d := d + 4) 30 rfl g21 hvv22) ?_
        refine Wp.steps 3 (pc1 := 73) (lo1 := [some (.ref 0), some (.int x1), some (.int s0), some (.int 0), some (.int (-4)), some (.int 0), some (.int v22), some (.int 0)]) (st1 := []) (h1 := mk g21) rfl ?_
        exact w_81_73 (sc := sc) (d := d) x1 s0 v22 300 0 (-4) 0 0 g21 _ _ e Q K
      · skip
        refine Wp.iF (pc1 := 39) rfl hc20 rfl ?_
        refine Wp.steps 1 (pc1 := 40) (lo1 := [some (.ref 0), some (.int x1), some (.int s0), none, none, none, none, none]) (st1 := [.int (-1)]) (h1 := mk g) rfl ?_
        obtain ⟨e1, e2⟩ := zb_r2 e
        subst e1
        subst e2
        exact Wp.ret rfl rfl rfl (K _)
/-- EveningFirst.ways(I)I -/
def d_81 (x1 : Int32) (g : G) : Option (Int32 × G) :=
  bif zm_cmp .lt x1 10 then (
    d_81_25 x1 0 g) else
  bif zm_cmp .ge x1 (10 + (g 1 1)) then (
    d_81_25 x1 0 g) else
  d_81_25 x1 1 g
set_option maxRecDepth 100000 in
set_option maxHeartbeats 4000000 in
theorem w_81 {sc : Option (List Int32)} {d : Nat} (x1 : Int32) (g : G) {r : Int32} {g' : G} (e : d_81 x1 g = some (r, g')) : zB sc (d + 5) 81 0 (zm_ent (z_L 81) [.ref 0, .int x1]) [] (mk g) [.int r] (mk g') := by
  unfold d_81 at e
  intro Q K
  show Wp sc (d + 5) 81 0 [some (.ref 0), some (.int x1), none, none, none, none, none, none] [] (mk g) Q
  refine Wp.steps 2 (pc1 := 3) (lo1 := [some (.ref 0), some (.int x1), none, none, none, none, none, none]) (st1 := [.int 10, .int x1]) (h1 := mk g) rfl ?_
  rcases zb_if e with ⟨hc1, e⟩ | ⟨hc1, e⟩
  · skip
    refine Wp.cT (pc1 := 24) rfl hc1 rfl ?_
    refine Wp.steps 1 (pc1 := 25) (lo1 := [some (.ref 0), some (.int x1), none, none, none, none, none, none]) (st1 := [.int 0]) (h1 := mk g) rfl ?_
    exact w_81_25 (sc := sc) (d := d) x1 0 g _ _ e Q K
  · skip
    refine Wp.cF (pc1 := 6) rfl hc1 rfl ?_
    refine Wp.steps 3 (pc1 := 10) (lo1 := [some (.ref 0), some (.int x1), none, none, none, none, none, none]) (st1 := [.ref 0, .int 10, .int x1]) (h1 := mk g) rfl ?_
    refine Wp.gf (pc1 := 13) (v := .ref 1) rfl rfl rfl rfl rfl ?_
    refine Wp.gf (pc1 := 16) (v := .int (g 1 1)) rfl rfl rfl rfl rfl ?_
    refine Wp.steps 1 (pc1 := 17) (lo1 := [some (.ref 0), some (.int x1), none, none, none, none, none, none]) (st1 := [.int (10 + (g 1 1)), .int x1]) (h1 := mk g) rfl ?_
    rcases zb_if e with ⟨hc23, e⟩ | ⟨hc23, e⟩
    · skip
      refine Wp.cT (pc1 := 24) rfl hc23 rfl ?_
      refine Wp.steps 1 (pc1 := 25) (lo1 := [some (.ref 0), some (.int x1), none, none, none, none, none, none]) (st1 := [.int 0]) (h1 := mk g) rfl ?_
      exact w_81_25 (sc := sc) (d := d) x1 0 g _ _ e Q K
    · skip
      refine Wp.cF (pc1 := 20) rfl hc23 rfl ?_
      refine Wp.steps 2 (pc1 := 25) (lo1 := [some (.ref 0), some (.int x1), none, none, none, none, none, none]) (st1 := [.int 1]) (h1 := mk g) rfl ?_
      exact w_81_25 (sc := sc) (d := d) x1 1 g _ _ e Q K
