/-! printed by wip/tools/den.py -/
/-- EveningFirstModel.isThing(I)Z -/
def d_134 (x0 : Int32) : Bool :=
  zb_l (d_107 (Int32.toInt64 x0) 0 5) fun v1 =>
  v1
set_option maxRecDepth 100000 in
set_option maxHeartbeats 4000000 in
theorem w_134 {sc : Option (List Int32)} {d : Nat} (x0 : Int32) (g : G) {r : Bool} (e : d_134 x0 = r) : zB sc (d + 1) 134 0 (zm_ent (z_L 134) [.int x0]) [] (mk g) [.int (zb_i r)] (mk g) := by
  unfold d_134 at e
  intro Q K
  show Wp sc (d + 1) 134 0 [some (.int x0)] [] (mk g) Q
  refine Wp.steps 4 (pc1 := 6) (lo1 := [some (.int x0)]) (st1 := [.long 5, .long 0, .long (Int32.toInt64 x0)]) (h1 := mk g) rfl ?_
  obtain ⟨v1, hvv1, e⟩ := zb_let e
  refine Wp.ca (m := 107) (d1 := d) (as := [.long (Int32.toInt64 x0), .long 0, .long 5]) (rest := []) (st1 := [.int (zb_i v1)]) (pc1 := 9) rfl rfl rfl rfl rfl rfl rfl rfl rfl rfl rfl rfl (w_107 (sc := sc) (d := d) (Int32.toInt64 x0) 0 5 g hvv1) ?_
  have e1 := e
  subst e1
  exact Wp.ret rfl rfl (zb_ok _) (K _)
/-- EveningFirstModel.does(IIIII)I -/
def d_146 (x1 : Int32) (x2 : Int32) (x3 : Int32) (x4 : Int32) (x5 : Int32) (g : G) : Option (Int32 × G) :=
  zb_l (d_133 x1 g) fun v1 =>
  bif v1 then (
    zb_l (d_131 x2 g) fun v3 =>
    bif v3 then (
      zb_l (d_131 x3 g) fun v5 =>
      bif v5 then (
        zb_l (d_134 x4) fun v7 =>
        bif v7 then (
          zb_l (d_144 x5) fun v9 =>
          bif v9 then (
            bif zm_cmp .ne (g 114 8) 8 then (
              Option.bind (zm_ix ((9 + (7 * (g 114 8))) + 0) 294) fun k13 =>
              zb_l (zg_up g 114 k13 x1) fun g12 =>
              Option.bind (zm_ix ((9 + (7 * (g 114 8))) + 1) 294) fun k15 =>
              zb_l (zg_up g12 114 k15 x2) fun g14 =>
              Option.bind (zm_ix ((9 + (7 * (g 114 8))) + 2) 294) fun k17 =>
              zb_l (zg_up g14 114 k17 x3) fun g16 =>
              Option.bind (zm_ix ((9 + (7 * (g 114 8))) + 3) 294) fun k19 =>
              zb_l (zg_up g16 114 k19 x4) fun g18 =>
              Option.bind (zm_ix ((9 + (7 * (g 114 8))) + 4) 294) fun k21 =>
              zb_l (zg_up g18 114 k21 x5) fun g20 =>
              Option.bind (zm_ix ((9 + (7 * (g 114 8))) + 5) 294) fun k23 =>
              zb_l (zg_up g20 114 k23 0) fun g22 =>
              Option.bind (zm_ix ((9 + (7 * (g 114 8))) + 6) 294) fun k25 =>
              zb_l (zg_up g22 114 k25 10) fun g24 =>
              zb_l (zg_up g24 114 8 ((g24 114 8) + 1)) fun g26 =>
              some ((g26 114 8), g26)) else
            some ((-3), g)) else
          some ((-1), g)) else
        some ((-1), g)) else
      some ((-1), g)) else
    some ((-1), g)) else
  some ((-1), g)
set_option maxRecDepth 100000 in
set_option maxHeartbeats 4000000 in
theorem w_146 {sc : Option (List Int32)} {d : Nat} (x1 : Int32) (x2 : Int32) (x3 : Int32) (x4 : Int32) (x5 : Int32) (g : G) {r : Int32} {g' : G} (e : d_146 x1 x2 x3 x4 x5 g = some (r, g')) : zB sc (d + 2) 146 0 (zm_ent (z_L 146) [.ref 113, .int x1, .int x2, .int x3, .int x4, .int x5]) [] (mk g) [.int r] (mk g') := by
  unfold d_146 at e
  intro Q K
  show Wp sc (d + 2) 146 0 [some (.ref 113), some (.int x1), some (.int x2), some (.int x3), some (.int x4), some (.int x5), none] [] (mk g) Q
  refine Wp.steps 2 (pc1 := 2) (lo1 := [some (.ref 113), some (.int x1), some (.int x2), some (.int x3), some (.int x4), some (.int x5), none]) (st1 := [.int x1, .ref 113]) (h1 := mk g) rfl ?_
  obtain ⟨v1, hvv1, e⟩ := zb_let e
  refine Wp.ca (m := 133) (d1 := d + 1) (as := [.ref 113, .int x1]) (rest := []) (st1 := [.int (zb_i v1)]) (pc1 := 5) rfl rfl rfl rfl rfl rfl rfl rfl (mk_rok rfl rfl rfl rfl) rfl rfl rfl (w_133 (sc := sc) (d := d) x1 g hvv1) ?_
  rcases zb_if e with ⟨hc2, e⟩ | ⟨hc2, e⟩
  · skip
    refine Wp.iF (pc1 := 8) rfl (zb_eqF hc2) rfl ?_
    refine Wp.steps 2 (pc1 := 10) (lo1 := [some (.ref 113), some (.int x1), some (.int x2), some (.int x3), some (.int x4), some (.int x5), none]) (st1 := [.int x2, .ref 113]) (h1 := mk g) rfl ?_
    obtain ⟨v3, hvv3, e⟩ := zb_let e
    refine Wp.ca (m := 131) (d1 := d + 1) (as := [.ref 113, .int x2]) (rest := []) (st1 := [.int (zb_i v3)]) (pc1 := 13) rfl rfl rfl rfl rfl rfl rfl rfl (mk_rok rfl rfl rfl rfl) rfl rfl rfl (w_131 (sc := sc) (d := d) x2 g hvv3) ?_
    rcases zb_if e with ⟨hc4, e⟩ | ⟨hc4, e⟩
    · skip
      refine Wp.iF (pc1 := 16) rfl (zb_eqF hc4) rfl ?_
      refine Wp.steps 2 (pc1 := 18) (lo1 := [some (.ref 113), some (.int x1), some (.int x2), some (.int x3), some (.int x4), some (.int x5), none]) (st1 := [.int x3, .ref 113]) (h1 := mk g) rfl ?_
      obtain ⟨v5, hvv5, e⟩ := zb_let e
      refine Wp.ca (m := 131) (d1 := d + 1) (as := [.ref 113, .int x3]) (rest := []) (st1 := [.int (zb_i v5)]) (pc1 := 21) rfl rfl rfl rfl rfl rfl rfl rfl (mk_rok rfl rfl rfl rfl) rfl rfl rfl (w_131 (sc := sc) (d := d) x3 g hvv5) ?_
      rcases zb_if e with ⟨hc6, e⟩ | ⟨hc6, e⟩
      · skip
        refine Wp.iF (pc1 := 24) rfl (zb_eqF hc6) rfl ?_
        refine Wp.steps 1 (pc1 := 26) (lo1 := [some (.ref 113), some (.int x1), some (.int x2), some (.int x3), some (.int x4), some (.int x5), none]) (st1 := [.int x4]) (h1 := mk g) rfl ?_
        obtain ⟨v7, hvv7, e⟩ := zb_let e
        refine Wp.ca (m := 134) (d1 := d + 1) (as := [.int x4]) (rest := []) (st1 := [.int (zb_i v7)]) (pc1 := 29) rfl rfl rfl rfl rfl rfl rfl rfl rfl rfl rfl rfl (w_134 (sc := sc) (d := d) x4 g hvv7) ?_
        rcases zb_if e with ⟨hc8, e⟩ | ⟨hc8, e⟩
        · skip
          refine Wp.iF (pc1 := 32) rfl (zb_eqF hc8) rfl ?_
          refine Wp.steps 1 (pc1 := 34) (lo1 := [some (.ref 113), some (.int x1), some (.int x2), some (.int x3), some (.int x4), some (.int x5), none]) (st1 := [.int x5]) (h1 := mk g) rfl ?_
          obtain ⟨v9, hvv9, e⟩ := zb_let e
          refine Wp.ca (m := 144) (d1 := d + 1) (as := [.int x5]) (rest := []) (st1 := [.int (zb_i v9)]) (pc1 := 37) rfl rfl rfl rfl rfl rfl rfl rfl rfl rfl rfl rfl (w_144 (sc := sc) (d := d) x5 g hvv9) ?_
          rcases zb_if e with ⟨hc10, e⟩ | ⟨hc10, e⟩
          · skip
            refine Wp.iT (pc1 := 42) rfl (zb_neT hc10) rfl ?_
            refine Wp.steps 1 (pc1 := 43) (lo1 := [some (.ref 113), some (.int x1), some (.int x2), some (.int x3), some (.int x4), some (.int x5), none]) (st1 := [.ref 113]) (h1 := mk g) rfl ?_
            refine Wp.gf (pc1 := 46) (v := .ref 114) rfl rfl rfl rfl rfl ?_
            refine Wp.steps 1 (pc1 := 48) (lo1 := [some (.ref 113), some (.int x1), some (.int x2), some (.int x3), some (.int x4), some (.int x5), none]) (st1 := [.int 8, .ref 114]) (h1 := mk g) rfl ?_
            refine Wp.ia (pc1 := 49) (k := 8) rfl rfl rfl rfl rfl ?_
            refine Wp.steps 1 (pc1 := 51) (lo1 := [some (.ref 113), some (.int x1), some (.int x2), some (.int x3), some (.int x4), some (.int x5), none]) (st1 := [.int 8, .int (g 114 8)]) (h1 := mk g) rfl ?_
            rcases zb_if e with ⟨hc11, e⟩ | ⟨hc11, e⟩
            · skip
              refine Wp.cT (pc1 := 57) rfl hc11 rfl ?_
              refine Wp.steps 3 (pc1 := 62) (lo1 := [some (.ref 113), some (.int x1), some (.int x2), some (.int x3), some (.int x4), some (.int x5), none]) (st1 := [.ref 113, .int 7, .int 9]) (h1 := mk g) rfl ?_
              refine Wp.gf (pc1 := 65) (v := .ref 114) rfl rfl rfl rfl rfl ?_
              refine Wp.steps 1 (pc1 := 67) (lo1 := [some (.ref 113), some (.int x1), some (.int x2), some (.int x3), some (.int x4), some (.int x5), none]) (st1 := [.int 8, .ref 114, .int 7, .int 9]) (h1 := mk g) rfl ?_
              refine Wp.ia (pc1 := 68) (k := 8) rfl rfl rfl rfl rfl ?_
              refine Wp.steps 4 (pc1 := 73) (lo1 := [some (.ref 113), some (.int x1), some (.int x2), some (.int x3), some (.int x4), some (.int x5), some (.int (9 + (7 * (g 114 8))))]) (st1 := [.ref 113]) (h1 := mk g) rfl ?_
              refine Wp.gf (pc1 := 76) (v := .ref 114) rfl rfl rfl rfl rfl ?_
              refine Wp.steps 4 (pc1 := 81) (lo1 := [some (.ref 113), some (.int x1), some (.int x2), some (.int x3), some (.int x4), some (.int x5), some (.int (9 + (7 * (g 114 8))))]) (st1 := [.int x1, .int ((9 + (7 * (g 114 8))) + 0), .ref 114]) (h1 := mk g) rfl ?_
              obtain ⟨k13, hk13, e⟩ := zb_bind e
              obtain ⟨g12, hg12, e⟩ := zb_let e
              refine Wp.ias (pc1 := 82) rfl rfl rfl hk13 hg12 rfl ?_
              refine Wp.steps 1 (pc1 := 83) (lo1 := [some (.ref 113), some (.int x1), some (.int x2), some (.int x3), some (.int x4), some (.int x5), some (.int (9 + (7 * (g 114 8))))]) (st1 := [.ref 113]) (h1 := mk g12) rfl ?_
              refine Wp.gf (pc1 := 86) (v := .ref 114) rfl rfl rfl rfl rfl ?_
              refine Wp.steps 4 (pc1 := 91) (lo1 := [some (.ref 113), some (.int x1), some (.int x2), some (.int x3), some (.int x4), some (.int x5), some (.int (9 + (7 * (g 114 8))))]) (st1 := [.int x2, .int ((9 + (7 * (g 114 8))) + 1), .ref 114]) (h1 := mk g12) rfl ?_
              obtain ⟨k15, hk15, e⟩ := zb_bind e
              obtain ⟨g14, hg14, e⟩ := zb_let e
              refine Wp.ias (pc1 := 92) rfl rfl rfl hk15 hg14 rfl ?_
              refine Wp.steps 1 (pc1 := 93) (lo1 := [some (.ref 113), some (.int x1), some (.int x2), some (.int x3), some (.int x4), some (.int x5), some (.int (9 + (7 * (g 114 8))))]) (st1 := [.ref 113]) (h1 := mk g14) rfl ?_
              refine Wp.gf (pc1 := 96) (v := .ref 114) rfl rfl rfl rfl rfl ?_
              refine Wp.steps 4 (pc1 := 101) (lo1 := [some (.ref 113), some (.int x1), some (.int x2), some (.int x3), some (.int x4), some (.int x5), some (.int (9 + (7 * (g 114 8))))]) (st1 := [.int x3, .int ((9 + (7 * (g 114 8))) + 2), .ref 114]) (h1 := mk g14) rfl ?_
              obtain ⟨k17, hk17, e⟩ := zb_bind e
              obtain ⟨g16, hg16, e⟩ := zb_let e
              refine Wp.ias (pc1 := 102) rfl rfl rfl hk17 hg16 rfl ?_
              refine Wp.steps 1 (pc1 := 103) (lo1 := [some (.ref 113), some (.int x1), some (.int x2), some (.int x3), some (.int x4), some (.int x5), some (.int (9 + (7 * (g 114 8))))]) (st1 := [.ref 113]) (h1 := mk g16) rfl ?_
              refine Wp.gf (pc1 := 106) (v := .ref 114) rfl rfl rfl rfl rfl ?_
              refine Wp.steps 4 (pc1 := 112) (lo1 := [some (.ref 113), some (.int x1), some (.int x2), some (.int x3), some (.int x4), some (.int x5), some (.int (9 + (7 * (g 114 8))))]) (st1 := [.int x4, .int ((9 + (7 * (g 114 8))) + 3), .ref 114]) (h1 := mk g16) rfl ?_
              obtain ⟨k19, hk19, e⟩ := zb_bind e
              obtain ⟨g18, hg18, e⟩ := zb_let e
              refine Wp.ias (pc1 := 113) rfl rfl rfl hk19 hg18 rfl ?_
              refine Wp.steps 1 (pc1 := 114) (lo1 := [some (.ref 113), some (.int x1), some (.int x2), some (.int x3), some (.int x4), some (.int x5), some (.int (9 + (7 * (g 114 8))))]) (st1 := [.ref 113]) (h1 := mk g18) rfl ?_
              refine Wp.gf (pc1 := 117) (v := .ref 114) rfl rfl rfl rfl rfl ?_
              refine Wp.steps 4 (pc1 := 123) (lo1 := [some (.ref 113), some (.int x1), some (.int x2), some (.int x3), some (.int x4), some (.int x5), some (.int (9 + (7 * (g 114 8))))]) (st1 := [.int x5, .int ((9 + (7 * (g 114 8))) + 4), .ref 114]) (h1 := mk g18) rfl ?_
              obtain ⟨k21, hk21, e⟩ := zb_bind e
              obtain ⟨g20, hg20, e⟩ := zb_let e
              refine Wp.ias (pc1 := 124) rfl rfl rfl hk21 hg20 rfl ?_
              refine Wp.steps 1 (pc1 := 125) (lo1 := [some (.ref 113), some (.int x1), some (.int x2), some (.int x3), some (.int x4), some (.int x5), some (.int (9 + (7 * (g 114 8))))]) (st1 := [.ref 113]) (h1 := mk g20) rfl ?_
              refine Wp.gf (pc1 := 128) (v := .ref 114) rfl rfl rfl rfl rfl ?_
              refine Wp.steps 4 (pc1 := 133) (lo1 := [some (.ref 113), some (.int x1), some (.int x2), some (.int x3), some (.int x4), some (.int x5), some (.int (9 + (7 * (g 114 8))))]) (st1 := [.int 0, .int ((9 + (7 * (g 114 8))) + 5), .ref 114]) (h1 := mk g20) rfl ?_
              obtain ⟨k23, hk23, e⟩ := zb_bind e
              obtain ⟨g22, hg22, e⟩ := zb_let e
              refine Wp.ias (pc1 := 134) rfl rfl rfl hk23 hg22 rfl ?_
              refine Wp.steps 1 (pc1 := 135) (lo1 := [some (.ref 113), some (.int x1), some (.int x2), some (.int x3), some (.int x4), some (.int x5), some (.int (9 + (7 * (g 114 8))))]) (st1 := [.ref 113]) (h1 := mk g22) rfl ?_
              refine Wp.gf (pc1 := 138) (v := .ref 114) rfl rfl rfl rfl rfl ?_
              refine Wp.steps 4 (pc1 := 145) (lo1 := [some (.ref 113), some (.int x1), some (.int x2), some (.int x3), some (.int x4), some (.int x5), some (.int (9 + (7 * (g 114 8))))]) (st1 := [.int 10, .int ((9 + (7 * (g 114 8))) + 6), .ref 114]) (h1 := mk g22) rfl ?_
              obtain ⟨k25, hk25, e⟩ := zb_bind e
              obtain ⟨g24, hg24, e⟩ := zb_let e
              refine Wp.ias (pc1 := 146) rfl rfl rfl hk25 hg24 rfl ?_
              refine Wp.steps 1 (pc1 := 147) (lo1 := [some (.ref 113), some (.int x1), some (.int x2), some (.int x3), some (.int x4), some (.int x5), some (.int (9 + (7 * (g 114 8))))]) (st1 := [.ref 113]) (h1 := mk g24) rfl ?_
              refine Wp.gf (pc1 := 150) (v := .ref 114) rfl rfl rfl rfl rfl ?_
              refine Wp.steps 2 (pc1 := 153) (lo1 := [some (.ref 113), some (.int x1), some (.int x2), some (.int x3), some (.int x4), some (.int x5), some (.int (9 + (7 * (g 114 8))))]) (st1 := [.int 8, .ref 114, .int 8, .ref 114]) (h1 := mk g24) rfl ?_
              refine Wp.ia (pc1 := 154) (k := 8) rfl rfl rfl rfl rfl ?_
              refine Wp.steps 2 (pc1 := 156) (lo1 := [some (.ref 113), some (.int x1), some (.int x2), some (.int x3), some (.int x4), some (.int x5), some (.int (9 + (7 * (g 114 8))))]) (st1 := [.int ((g24 114 8) + 1), .int 8, .ref 114]) (h1 := mk g24) rfl ?_
              obtain ⟨g26, hg26, e⟩ := zb_let e
              refine Wp.ias (pc1 := 157) (k := 8) rfl rfl rfl rfl hg26 rfl ?_
              refine Wp.steps 1 (pc1 := 158) (lo1 := [some (.ref 113), some (.int x1), some (.int x2), some (.int x3), some (.int x4), some (.int x5), some (.int (9 + (7 * (g 114 8))))]) (st1 := [.ref 113]) (h1 := mk g26) rfl ?_
              refine Wp.gf (pc1 := 161) (v := .ref 114) rfl rfl rfl rfl rfl ?_
              refine Wp.steps 1 (pc1 := 163) (lo1 := [some (.ref 113), some (.int x1), some (.int x2), some (.int x3), some (.int x4), some (.int x5), some (.int (9 + (7 * (g 114 8))))]) (st1 := [.int 8, .ref 114]) (h1 := mk g26) rfl ?_
              refine Wp.ia (pc1 := 164) (k := 8) rfl rfl rfl rfl rfl ?_
              obtain ⟨e1, e2⟩ := zb_r2 e
              subst e1
              subst e2
              exact Wp.ret rfl rfl rfl (K _)
            · skip
              refine Wp.cF (pc1 := 54) rfl hc11 rfl ?_
              refine Wp.steps 1 (pc1 := 56) (lo1 := [some (.ref 113), some (.int x1), some (.int x2), some (.int x3), some (.int x4), some (.int x5), none]) (st1 := [.int (-3)]) (h1 := mk g) rfl ?_
              obtain ⟨e1, e2⟩ := zb_r2 e
              subst e1
              subst e2
              exact Wp.ret rfl rfl rfl (K _)
          · skip
            refine Wp.iF (pc1 := 40) rfl (zb_neF hc10) rfl ?_
            refine Wp.steps 1 (pc1 := 41) (lo1 := [some (.ref 113), some (.int x1), some (.int x2), some (.int x3), some (.int x4), some (.int x5), none]) (st1 := [.int (-1)]) (h1 := mk g) rfl ?_
            obtain ⟨e1, e2⟩ := zb_r2 e
            subst e1
            subst e2
            exact Wp.ret rfl rfl rfl (K _)
        · skip
          refine Wp.iT (pc1 := 40) rfl (zb_eqT hc8) rfl ?_
          refine Wp.steps 1 (pc1 := 41) (lo1 := [some (.ref 113), some (.int x1), some (.int x2), some (.int x3), some (.int x4), some (.int x5), none]) (st1 := [.int (-1)]) (h1 := mk g) rfl ?_
          obtain ⟨e1, e2⟩ := zb_r2 e
          subst e1
          subst e2
          exact Wp.ret rfl rfl rfl (K _)
      · skip
        refine Wp.iT (pc1 := 40) rfl (zb_eqT hc6) rfl ?_
        refine Wp.steps 1 (pc1 := 41) (lo1 := [some (.ref 113), some (.int x1), some (.int x2), some (.int x3), some (.int x4), some (.int x5), none]) (st1 := [.int (-1)]) (h1 := mk g) rfl ?_
        obtain ⟨e1, e2⟩ := zb_r2 e
        subst e1
        subst e2
        exact Wp.ret rfl rfl rfl (K _)
    · skip
      refine Wp.iT (pc1 := 40) rfl (zb_eqT hc4) rfl ?_
      refine Wp.steps 1 (pc1 := 41) (lo1 := [some (.ref 113), some (.int x1), some (.int x2), some (.int x3), some (.int x4), some (.int x5), none]) (st1 := [.int (-1)]) (h1 := mk g) rfl ?_
      obtain ⟨e1, e2⟩ := zb_r2 e
      subst e1
      subst e2
      exact Wp.ret rfl rfl rfl (K _)
  · skip
    refine Wp.iT (pc1 := 40) rfl (zb_eqT hc2) rfl ?_
    refine Wp.steps 1 (pc1 := 41) (lo1 := [some (.ref 113), some (.int x1), some (.int x2), some (.int x3), some (.int x4), some (.int x5), none]) (st1 := [.int (-1)]) (h1 := mk g) rfl ?_
    obtain ⟨e1, e2⟩ := zb_r2 e
    subst e1
    subst e2
    exact Wp.ret rfl rfl rfl (K _)
/-- EveningFirst.shift(II)I -/
def d_64 (x1 : Int32) (x2 : Int32) (g : G) : Option (Int32 × G) :=
  zb_l (d_20 1 x1 g) fun v1 =>
  bif v1 then (
    zb_l (d_19 1 x2 g) fun v3 =>
    bif v3 then (
      Option.bind (zm_ix x1 8) fun k5 =>
      Option.bind (zm_ix x1 8) fun k6 =>
      zb_l (zg_up g (9 + k6) 0 x2) fun g7 =>
      some ((g (9 + k5) 0), g7)) else
    some ((-1), g)) else
  some ((-1), g)
set_option maxRecDepth 100000 in
set_option maxHeartbeats 4000000 in
theorem w_64 {sc : Option (List Int32)} {d : Nat} (x1 : Int32) (x2 : Int32) (g : G) {r : Int32} {g' : G} (e : d_64 x1 x2 g = some (r, g')) : zB sc (d + 1) 64 0 (zm_ent (z_L 64) [.ref 0, .int x1, .int x2]) [] (mk g) [.int r] (mk g') := by
  unfold d_64 at e
  intro Q K
  show Wp sc (d + 1) 64 0 [some (.ref 0), some (.int x1), some (.int x2), none] [] (mk g) Q
  refine Wp.steps 1 (pc1 := 1) (lo1 := [some (.ref 0), some (.int x1), some (.int x2), none]) (st1 := [.ref 0]) (h1 := mk g) rfl ?_
  refine Wp.gf (pc1 := 4) (v := .ref 1) rfl rfl rfl rfl rfl ?_
  refine Wp.steps 1 (pc1 := 5) (lo1 := [some (.ref 0), some (.int x1), some (.int x2), none]) (st1 := [.int x1, .ref 1]) (h1 := mk g) rfl ?_
  obtain ⟨v1, hvv1, e⟩ := zb_let e
  refine Wp.ca (m := 20) (d1 := d) (as := [.ref 1, .int x1]) (rest := []) (st1 := [.int (zb_i v1)]) (pc1 := 8) rfl rfl rfl rfl rfl rfl rfl rfl (mk_rok rfl rfl rfl rfl) rfl rfl rfl (w_20 (sc := sc) (d := d) 1 x1 rfl g hvv1) ?_
  rcases zb_if e with ⟨hc2, e⟩ | ⟨hc2, e⟩
  · skip
    refine Wp.iF (pc1 := 11) rfl (zb_eqF hc2) rfl ?_
    refine Wp.steps 1 (pc1 := 12) (lo1 := [some (.ref 0), some (.int x1), some (.int x2), none]) (st1 := [.ref 0]) (h1 := mk g) rfl ?_
    refine Wp.gf (pc1 := 15) (v := .ref 1) rfl rfl rfl rfl rfl ?_
    refine Wp.steps 1 (pc1 := 16) (lo1 := [some (.ref 0), some (.int x1), some (.int x2), none]) (st1 := [.int x2, .ref 1]) (h1 := mk g) rfl ?_
    obtain ⟨v3, hvv3, e⟩ := zb_let e
    refine Wp.ca (m := 19) (d1 := d) (as := [.ref 1, .int x2]) (rest := []) (st1 := [.int (zb_i v3)]) (pc1 := 19) rfl rfl rfl rfl rfl rfl rfl rfl (mk_rok rfl rfl rfl rfl) rfl rfl rfl (w_19 (sc := sc) (d := d) 1 x2 rfl g hvv3) ?_
    rcases zb_if e with ⟨hc4, e⟩ | ⟨hc4, e⟩
    · skip
      refine Wp.iT (pc1 := 24) rfl (zb_neT hc4) rfl ?_
      refine Wp.steps 1 (pc1 := 25) (lo1 := [some (.ref 0), some (.int x1), some (.int x2), none]) (st1 := [.ref 0]) (h1 := mk g) rfl ?_
      refine Wp.gf (pc1 := 28) (v := .ref 1) rfl rfl rfl rfl rfl ?_
      refine Wp.gf (pc1 := 31) (v := .ref 3) rfl rfl rfl rfl rfl ?_
      refine Wp.steps 1 (pc1 := 32) (lo1 := [some (.ref 0), some (.int x1), some (.int x2), none]) (st1 := [.int x1, .ref 3]) (h1 := mk g) rfl ?_
      obtain ⟨k5, hk5, e⟩ := zb_bind e
      refine Wp.aa (pc1 := 33) (v := (9 + k5)) rfl (zg_rdeeds (b := 1) rfl) rfl hk5 (by omega) rfl ?_
      refine Wp.gf (pc1 := 36) (v := .int (g (9 + k5) 0)) rfl (zg_deed (b := 1) rfl hk5) rfl rfl rfl ?_
      refine Wp.steps 2 (pc1 := 38) (lo1 := [some (.ref 0), some (.int x1), some (.int x2), some (.int (g (9 + k5) 0))]) (st1 := [.ref 0]) (h1 := mk g) rfl ?_
      refine Wp.gf (pc1 := 41) (v := .ref 1) rfl rfl rfl rfl rfl ?_
      refine Wp.gf (pc1 := 44) (v := .ref 3) rfl rfl rfl rfl rfl ?_
      refine Wp.steps 1 (pc1 := 45) (lo1 := [some (.ref 0), some (.int x1), some (.int x2), some (.int (g (9 + k5) 0))]) (st1 := [.int x1, .ref 3]) (h1 := mk g) rfl ?_
      obtain ⟨k6, hk6, e⟩ := zb_bind e
      refine Wp.aa (pc1 := 46) (v := (9 + k6)) rfl (zg_rdeeds (b := 1) rfl) rfl hk6 (by omega) rfl ?_
      refine Wp.steps 1 (pc1 := 47) (lo1 := [some (.ref 0), some (.int x1), some (.int x2), some (.int (g (9 + k5) 0))]) (st1 := [.int x2, .ref (9 + k6)]) (h1 := mk g) rfl ?_
      obtain ⟨g7, hg7, e⟩ := zb_let e
      refine Wp.pf (pc1 := 50) rfl (zg_deed (b := 1) rfl hk6) rfl rfl rfl rfl hg7 rfl ?_
      refine Wp.steps 1 (pc1 := 51) (lo1 := [some (.ref 0), some (.int x1), some (.int x2), some (.int (g (9 + k5) 0))]) (st1 := [.int (g (9 + k5) 0)]) (h1 := mk g7) rfl ?_
      obtain ⟨e1, e2⟩ := zb_r2 e
      subst e1
      subst e2
      exact Wp.ret rfl rfl rfl (K _)
    · skip
      refine Wp.iF (pc1 := 22) rfl (zb_neF hc4) rfl ?_
      refine Wp.steps 1 (pc1 := 23) (lo1 := [some (.ref 0), some (.int x1), some (.int x2), none]) (st1 := [.int (-1)]) (h1 := mk g) rfl ?_
      obtain ⟨e1, e2⟩ := zb_r2 e
      subst e1
      subst e2
      exact Wp.ret rfl rfl rfl (K _)
  · skip
    refine Wp.iT (pc1 := 22) rfl (zb_eqT hc2) rfl ?_
    refine Wp.steps 1 (pc1 := 23) (lo1 := [some (.ref 0), some (.int x1), some (.int x2), none]) (st1 := [.int (-1)]) (h1 := mk g) rfl ?_
    obtain ⟨e1, e2⟩ := zb_r2 e
    subst e1
    subst e2
    exact Wp.ret rfl rfl rfl (K _)
/-- EveningFirstModel.shift(II)I -/
def d_147 (x1 : Int32) (x2 : Int32) (g : G) : Option (Int32 × G) :=
  zb_l (d_132 x1 g) fun v1 =>
  bif v1 then (
    zb_l (d_133 x2 g) fun v3 =>
    bif v3 then (
      zb_bp (d_142 ((9 + (7 * x1)) + 0) x2 g) fun v5 g6 =>
      some (v5, g6)) else
    some ((-1), g)) else
  some ((-1), g)
set_option maxRecDepth 100000 in
set_option maxHeartbeats 4000000 in
theorem w_147 {sc : Option (List Int32)} {d : Nat} (x1 : Int32) (x2 : Int32) (g : G) {r : Int32} {g' : G} (e : d_147 x1 x2 g = some (r, g')) : zB sc (d + 2) 147 0 (zm_ent (z_L 147) [.ref 113, .int x1, .int x2]) [] (mk g) [.int r] (mk g') := by
  unfold d_147 at e
  intro Q K
  show Wp sc (d + 2) 147 0 [some (.ref 113), some (.int x1), some (.int x2)] [] (mk g) Q
  refine Wp.steps 2 (pc1 := 2) (lo1 := [some (.ref 113), some (.int x1), some (.int x2)]) (st1 := [.int x1, .ref 113]) (h1 := mk g) rfl ?_
  obtain ⟨v1, hvv1, e⟩ := zb_let e
  refine Wp.ca (m := 132) (d1 := d + 1) (as := [.ref 113, .int x1]) (rest := []) (st1 := [.int (zb_i v1)]) (pc1 := 5) rfl rfl rfl rfl rfl rfl rfl rfl (mk_rok rfl rfl rfl rfl) rfl rfl rfl (w_132 (sc := sc) (d := d) x1 g hvv1) ?_
  rcases zb_if e with ⟨hc2, e⟩ | ⟨hc2, e⟩
  · skip
    refine Wp.iF (pc1 := 8) rfl (zb_eqF hc2) rfl ?_
    refine Wp.steps 2 (pc1 := 10) (lo1 := [some (.ref 113), some (.int x1), some (.int x2)]) (st1 := [.int x2, .ref 113]) (h1 := mk g) rfl ?_
    obtain ⟨v3, hvv3, e⟩ := zb_let e
    refine Wp.ca (m := 133) (d1 := d + 1) (as := [.ref 113, .int x2]) (rest := []) (st1 := [.int (zb_i v3)]) (pc1 := 13) rfl rfl rfl rfl rfl rfl rfl rfl (mk_rok rfl rfl rfl rfl) rfl rfl rfl (w_133 (sc := sc) (d := d) x2 g hvv3) ?_
    rcases zb_if e with ⟨hc4, e⟩ | ⟨hc4, e⟩
    · skip
      refine Wp.iF (pc1 := 16) rfl (zb_eqF hc4) rfl ?_
      refine Wp.steps 8 (pc1 := 26) (lo1 := [some (.ref 113), some (.int x1), some (.int x2)]) (st1 := [.int ((9 + (7 * x1)) + 0), .ref 113]) (h1 := mk g) rfl ?_
      refine Wp.steps 1 (pc1 := 27) (lo1 := [some (.ref 113), some (.int x1), some (.int x2)]) (st1 := [.int x2, .int ((9 + (7 * x1)) + 0), .ref 113]) (h1 := mk g) rfl ?_
      obtain ⟨v5, g6, hvv5, e⟩ := zb_bpair e
      refine Wp.ca (m := 142) (d1 := d + 1) (as := [.ref 113, .int ((9 + (7 * x1)) + 0), .int x2]) (rest := []) (st1 := [.int v5]) (pc1 := 30) rfl rfl rfl rfl rfl rfl rfl rfl (mk_rok rfl rfl rfl rfl) rfl rfl rfl (w_142 (sc := sc) (d := d + 1) ((9 + (7 * x1)) + 0) x2 g hvv5) ?_
      refine Wp.steps 1 (pc1 := 34) (lo1 := [some (.ref 113), some (.int x1), some (.int x2)]) (st1 := [.int v5]) (h1 := mk g6) rfl ?_
      obtain ⟨e1, e2⟩ := zb_r2 e
      subst e1
      subst e2
      exact Wp.ret rfl rfl rfl (K _)
    · skip
      refine Wp.iT (pc1 := 33) rfl (zb_eqT hc4) rfl ?_
      refine Wp.steps 1 (pc1 := 34) (lo1 := [some (.ref 113), some (.int x1), some (.int x2)]) (st1 := [.int (-1)]) (h1 := mk g) rfl ?_
      obtain ⟨e1, e2⟩ := zb_r2 e
      subst e1
      subst e2
      exact Wp.ret rfl rfl rfl (K _)
  · skip
    refine Wp.iT (pc1 := 33) rfl (zb_eqT hc2) rfl ?_
    refine Wp.steps 1 (pc1 := 34) (lo1 := [some (.ref 113), some (.int x1), some (.int x2)]) (st1 := [.int (-1)]) (h1 := mk g) rfl ?_
    obtain ⟨e1, e2⟩ := zb_r2 e
    subst e1
    subst e2
    exact Wp.ret rfl rfl rfl (K _)
/-- EveningFirst$Family.isMarkOf(II)Z -/
def d_22 (r0 : Nat) (x1 : Int32) (x2 : Int32) (g : G) : Bool :=
  zb_l (d_20 r0 x1 g) fun v1 =>
  bif v1 then (
    bif zm_cmp .lt x2 0 then (
      false) else
    bif zm_cmp .gt x2 2 then (
      false) else
    true) else
  false
set_option maxRecDepth 100000 in
set_option maxHeartbeats 4000000 in
theorem w_22 {sc : Option (List Int32)} {d : Nat} (r0 : Nat) (x1 : Int32) (x2 : Int32) (h0 : zg_cl r0 = 2) (g : G) {r : Bool} (e : d_22 r0 x1 x2 g = r) : zB sc (d + 1) 22 0 (zm_ent (z_L 22) [.ref r0, .int x1, .int x2]) [] (mk g) [.int (zb_i r)] (mk g) := by
  unfold d_22 at e
  intro Q K
  show Wp sc (d + 1) 22 0 [some (.ref r0), some (.int x1), some (.int x2)] [] (mk g) Q
  refine Wp.steps 2 (pc1 := 2) (lo1 := [some (.ref r0), some (.int x1), some (.int x2)]) (st1 := [.int x1, .ref r0]) (h1 := mk g) rfl ?_
  obtain ⟨v1, hvv1, e⟩ := zb_let e
  refine Wp.ca (m := 20) (d1 := d) (as := [.ref r0, .int x1]) (rest := []) (st1 := [.int (zb_i v1)]) (pc1 := 5) rfl rfl rfl rfl rfl rfl rfl rfl (mk_rok h0 rfl rfl rfl) rfl rfl rfl (w_20 (sc := sc) (d := d) r0 x1 h0 g hvv1) ?_
  rcases zb_if e with ⟨hc2, e⟩ | ⟨hc2, e⟩
  · skip
    refine Wp.iF (pc1 := 8) rfl (zb_eqF hc2) rfl ?_
    refine Wp.steps 1 (pc1 := 9) (lo1 := [some (.ref r0), some (.int x1), some (.int x2)]) (st1 := [.int x2]) (h1 := mk g) rfl ?_
    rcases zb_if e with ⟨hc3, e⟩ | ⟨hc3, e⟩
    · skip
      refine Wp.iT (pc1 := 21) rfl hc3 rfl ?_
      refine Wp.steps 1 (pc1 := 22) (lo1 := [some (.ref r0), some (.int x1), some (.int x2)]) (st1 := [.int 0]) (h1 := mk g) rfl ?_
      have e1 := e
      subst e1
      exact Wp.ret rfl rfl rfl (K _)
    · skip
      refine Wp.iF (pc1 := 12) rfl hc3 rfl ?_
      refine Wp.steps 2 (pc1 := 14) (lo1 := [some (.ref r0), some (.int x1), some (.int x2)]) (st1 := [.int 2, .int x2]) (h1 := mk g) rfl ?_
      rcases zb_if e with ⟨hc4, e⟩ | ⟨hc4, e⟩
      · skip
        refine Wp.cT (pc1 := 21) rfl hc4 rfl ?_
        refine Wp.steps 1 (pc1 := 22) (lo1 := [some (.ref r0), some (.int x1), some (.int x2)]) (st1 := [.int 0]) (h1 := mk g) rfl ?_
        have e1 := e
        subst e1
        exact Wp.ret rfl rfl rfl (K _)
      · skip
        refine Wp.cF (pc1 := 17) rfl hc4 rfl ?_
        refine Wp.steps 2 (pc1 := 22) (lo1 := [some (.ref r0), some (.int x1), some (.int x2)]) (st1 := [.int 1]) (h1 := mk g) rfl ?_
        have e1 := e
        subst e1
        exact Wp.ret rfl rfl rfl (K _)
  · skip
    refine Wp.iT (pc1 := 21) rfl (zb_eqT hc2) rfl ?_
    refine Wp.steps 1 (pc1 := 22) (lo1 := [some (.ref r0), some (.int x1), some (.int x2)]) (st1 := [.int 0]) (h1 := mk g) rfl ?_
    have e1 := e
    subst e1
    exact Wp.ret rfl rfl rfl (K _)
/-- EveningFirst.mark(II)I -/
def d_65 (x1 : Int32) (x2 : Int32) (g : G) : Option (Int32 × G) :=
  zb_l (d_22 1 x1 x2 g) fun v1 =>
  bif v1 then (
    Option.bind (zm_ix x1 8) fun k3 =>
    Option.bind (zm_ix x1 8) fun k4 =>
    zb_l (zg_up g (9 + k4) 5 x2) fun g5 =>
    some ((g (9 + k3) 5), g5)) else
  some ((-1), g)
set_option maxRecDepth 100000 in
set_option maxHeartbeats 4000000 in
theorem w_65 {sc : Option (List Int32)} {d : Nat} (x1 : Int32) (x2 : Int32) (g : G) {r : Int32} {g' : G} (e : d_65 x1 x2 g = some (r, g')) : zB sc (d + 2) 65 0 (zm_ent (z_L 65) [.ref 0, .int x1, .int x2]) [] (mk g) [.int r] (mk g') := by
  unfold d_65 at e
  intro Q K
  show Wp sc (d + 2) 65 0 [some (.ref 0), some (.int x1), some (.int x2), none] [] (mk g) Q
  refine Wp.steps 1 (pc1 := 1) (lo1 := [some (.ref 0), some (.int x1), some (.int x2), none]) (st1 := [.ref 0]) (h1 := mk g) rfl ?_
  refine Wp.gf (pc1 := 4) (v := .ref 1) rfl rfl rfl rfl rfl ?_
  refine Wp.steps 2 (pc1 := 6) (lo1 := [some (.ref 0), some (.int x1), some (.int x2), none]) (st1 := [.int x2, .int x1, .ref 1]) (h1 := mk g) rfl ?_
  obtain ⟨v1, hvv1, e⟩ := zb_let e
  refine Wp.ca (m := 22) (d1 := d + 1) (as := [.ref 1, .int x1, .int x2]) (rest := []) (st1 := [.int (zb_i v1)]) (pc1 := 9) rfl rfl rfl rfl rfl rfl rfl rfl (mk_rok rfl rfl rfl rfl) rfl rfl rfl (w_22 (sc := sc) (d := d) 1 x1 x2 rfl g hvv1) ?_
  rcases zb_if e with ⟨hc2, e⟩ | ⟨hc2, e⟩
  · skip
    refine Wp.iT (pc1 := 14) rfl (zb_neT hc2) rfl ?_
    refine Wp.steps 1 (pc1 := 15) (lo1 := [some (.ref 0), some (.int x1), some (.int x2), none]) (st1 := [.ref 0]) (h1 := mk g) rfl ?_
    refine Wp.gf (pc1 := 18) (v := .ref 1) rfl rfl rfl rfl rfl ?_
    refine Wp.gf (pc1 := 21) (v := .ref 3) rfl rfl rfl rfl rfl ?_
    refine Wp.steps 1 (pc1 := 22) (lo1 := [some (.ref 0), some (.int x1), some (.int x2), none]) (st1 := [.int x1, .ref 3]) (h1 := mk g) rfl ?_
    obtain ⟨k3, hk3, e⟩ := zb_bind e
    refine Wp.aa (pc1 := 23) (v := (9 + k3)) rfl (zg_rdeeds (b := 1) rfl) rfl hk3 (by omega) rfl ?_
    refine Wp.gf (pc1 := 26) (v := .int (g (9 + k3) 5)) rfl (zg_deed (b := 1) rfl hk3) rfl rfl rfl ?_
    refine Wp.steps 2 (pc1 := 28) (lo1 := [some (.ref 0), some (.int x1), some (.int x2), some (.int (g (9 + k3) 5))]) (st1 := [.ref 0]) (h1 := mk g) rfl ?_
    refine Wp.gf (pc1 := 31) (v := .ref 1) rfl rfl rfl rfl rfl ?_
    refine Wp.gf (pc1 := 34) (v := .ref 3) rfl rfl rfl rfl rfl ?_
    refine Wp.steps 1 (pc1 := 35) (lo1 := [some (.ref 0), some (.int x1), some (.int x2), some (.int (g (9 + k3) 5))]) (st1 := [.int x1, .ref 3]) (h1 := mk g) rfl ?_
    obtain ⟨k4, hk4, e⟩ := zb_bind e
    refine Wp.aa (pc1 := 36) (v := (9 + k4)) rfl (zg_rdeeds (b := 1) rfl) rfl hk4 (by omega) rfl ?_
    refine Wp.steps 1 (pc1 := 37) (lo1 := [some (.ref 0), some (.int x1), some (.int x2), some (.int (g (9 + k3) 5))]) (st1 := [.int x2, .ref (9 + k4)]) (h1 := mk g) rfl ?_
    obtain ⟨g5, hg5, e⟩ := zb_let e
    refine Wp.pf (pc1 := 40) rfl (zg_deed (b := 1) rfl hk4) rfl rfl rfl rfl hg5 rfl ?_
    refine Wp.steps 1 (pc1 := 41) (lo1 := [some (.ref 0), some (.int x1), some (.int x2), some (.int (g (9 + k3) 5))]) (st1 := [.int (g (9 + k3) 5)]) (h1 := mk g5) rfl ?_
    obtain ⟨e1, e2⟩ := zb_r2 e
    subst e1
    subst e2
    exact Wp.ret rfl rfl rfl (K _)
  · skip
    refine Wp.iF (pc1 := 12) rfl (zb_neF hc2) rfl ?_
    refine Wp.steps 1 (pc1 := 13) (lo1 := [some (.ref 0), some (.int x1), some (.int x2), none]) (st1 := [.int (-1)]) (h1 := mk g) rfl ?_
    obtain ⟨e1, e2⟩ := zb_r2 e
    subst e1
    subst e2
    exact Wp.ret rfl rfl rfl (K _)
/-- EveningFirstModel.mark(II)I -/
def d_148 (x1 : Int32) (x2 : Int32) (g : G) : Option (Int32 × G) :=
  zb_l (d_132 x1 g) fun v1 =>
  bif v1 then (
    zb_l (d_107 (Int32.toInt64 x2) 0 2) fun v3 =>
    bif v3 then (
      zb_bp (d_142 ((9 + (7 * x1)) + 5) x2 g) fun v5 g6 =>
      some (v5, g6)) else
    some ((-1), g)) else
  some ((-1), g)
set_option maxRecDepth 100000 in
set_option maxHeartbeats 4000000 in
theorem w_148 {sc : Option (List Int32)} {d : Nat} (x1 : Int32) (x2 : Int32) (g : G) {r : Int32} {g' : G} (e : d_148 x1 x2 g = some (r, g')) : zB sc (d + 2) 148 0 (zm_ent (z_L 148) [.ref 113, .int x1, .int x2]) [] (mk g) [.int r] (mk g') := by
  unfold d_148 at e
  intro Q K
  show Wp sc (d + 2) 148 0 [some (.ref 113), some (.int x1), some (.int x2)] [] (mk g) Q
  refine Wp.steps 2 (pc1 := 2) (lo1 := [some (.ref 113), some (.int x1), some (.int x2)]) (st1 := [.int x1, .ref 113]) (h1 := mk g) rfl ?_
  obtain ⟨v1, hvv1, e⟩ := zb_let e
  refine Wp.ca (m := 132) (d1 := d + 1) (as := [.ref 113, .int x1]) (rest := []) (st1 := [.int (zb_i v1)]) (pc1 := 5) rfl rfl rfl rfl rfl rfl rfl rfl (mk_rok rfl rfl rfl rfl) rfl rfl rfl (w_132 (sc := sc) (d := d) x1 g hvv1) ?_
  rcases zb_if e with ⟨hc2, e⟩ | ⟨hc2, e⟩
  · skip
    refine Wp.iF (pc1 := 8) rfl (zb_eqF hc2) rfl ?_
    refine Wp.steps 4 (pc1 := 14) (lo1 := [some (.ref 113), some (.int x1), some (.int x2)]) (st1 := [.long 2, .long 0, .long (Int32.toInt64 x2)]) (h1 := mk g) rfl ?_
    obtain ⟨v3, hvv3, e⟩ := zb_let e
    refine Wp.ca (m := 107) (d1 := d + 1) (as := [.long (Int32.toInt64 x2), .long 0, .long 2]) (rest := []) (st1 := [.int (zb_i v3)]) (pc1 := 17) rfl rfl rfl rfl rfl rfl rfl rfl rfl rfl rfl rfl (w_107 (sc := sc) (d := d + 1) (Int32.toInt64 x2) 0 2 g hvv3) ?_
    rcases zb_if e with ⟨hc4, e⟩ | ⟨hc4, e⟩
    · skip
      refine Wp.iF (pc1 := 20) rfl (zb_eqF hc4) rfl ?_
      refine Wp.steps 8 (pc1 := 30) (lo1 := [some (.ref 113), some (.int x1), some (.int x2)]) (st1 := [.int ((9 + (7 * x1)) + 5), .ref 113]) (h1 := mk g) rfl ?_
      refine Wp.steps 1 (pc1 := 31) (lo1 := [some (.ref 113), some (.int x1), some (.int x2)]) (st1 := [.int x2, .int ((9 + (7 * x1)) + 5), .ref 113]) (h1 := mk g) rfl ?_
      obtain ⟨v5, g6, hvv5, e⟩ := zb_bpair e
      refine Wp.ca (m := 142) (d1 := d + 1) (as := [.ref 113, .int ((9 + (7 * x1)) + 5), .int x2]) (rest := []) (st1 := [.int v5]) (pc1 := 34) rfl rfl rfl rfl rfl rfl rfl rfl (mk_rok rfl rfl rfl rfl) rfl rfl rfl (w_142 (sc := sc) (d := d + 1) ((9 + (7 * x1)) + 5) x2 g hvv5) ?_
      refine Wp.steps 1 (pc1 := 38) (lo1 := [some (.ref 113), some (.int x1), some (.int x2)]) (st1 := [.int v5]) (h1 := mk g6) rfl ?_
      obtain ⟨e1, e2⟩ := zb_r2 e
      subst e1
      subst e2
      exact Wp.ret rfl rfl rfl (K _)
    · skip
      refine Wp.iT (pc1 := 37) rfl (zb_eqT hc4) rfl ?_
      refine Wp.steps 1 (pc1 := 38) (lo1 := [some (.ref 113), some (.int x1), some (.int x2)]) (st1 := [.int (-1)]) (h1 := mk g) rfl ?_
      obtain ⟨e1, e2⟩ := zb_r2 e
      subst e1
      subst e2
      exact Wp.ret rfl rfl rfl (K _)
  · skip
    refine Wp.iT (pc1 := 37) rfl (zb_eqT hc2) rfl ?_
    refine Wp.steps 1 (pc1 := 38) (lo1 := [some (.ref 113), some (.int x1), some (.int x2)]) (st1 := [.int (-1)]) (h1 := mk g) rfl ?_
    obtain ⟨e1, e2⟩ := zb_r2 e
    subst e1
    subst e2
    exact Wp.ret rfl rfl rfl (K _)
/-- EveningFirst.odd(II)I -/
def d_66 (x1 : Int32) (x2 : Int32) (g : G) : Option (Int32 × G) :=
  zb_l (d_20 1 x1 g) fun v1 =>
  bif v1 then (
    bif zm_cmp .lt x2 0 then (
      some ((-1), g)) else
    bif zm_cmp .le x2 10 then (
      Option.bind (zm_ix x1 8) fun k5 =>
      Option.bind (zm_ix x1 8) fun k6 =>
      zb_l (zg_up g (9 + k6) 6 x2) fun g7 =>
      some ((g (9 + k5) 6), g7)) else
    some ((-1), g)) else
  some ((-1), g)
set_option maxRecDepth 100000 in
set_option maxHeartbeats 4000000 in
theorem w_66 {sc : Option (List Int32)} {d : Nat} (x1 : Int32) (x2 : Int32) (g : G) {r : Int32} {g' : G} (e : d_66 x1 x2 g = some (r, g')) : zB sc (d + 1) 66 0 (zm_ent (z_L 66) [.ref 0, .int x1, .int x2]) [] (mk g) [.int r] (mk g') := by
  unfold d_66 at e
  intro Q K
  show Wp sc (d + 1) 66 0 [some (.ref 0), some (.int x1), some (.int x2), none] [] (mk g) Q
  refine Wp.steps 1 (pc1 := 1) (lo1 := [some (.ref 0), some (.int x1), some (.int x2), none]) (st1 := [.ref 0]) (h1 := mk g) rfl ?_
  refine Wp.gf (pc1 := 4) (v := .ref 1) rfl rfl rfl rfl rfl ?_
  refine Wp.steps 1 (pc1 := 5) (lo1 := [some (.ref 0), some (.int x1), some (.int x2), none]) (st1 := [.int x1, .ref 1]) (h1 := mk g) rfl ?_
  obtain ⟨v1, hvv1, e⟩ := zb_let e
  refine Wp.ca (m := 20) (d1 := d) (as := [.ref 1, .int x1]) (rest := []) (st1 := [.int (zb_i v1)]) (pc1 := 8) rfl rfl rfl rfl rfl rfl rfl rfl (mk_rok rfl rfl rfl rfl) rfl rfl rfl (w_20 (sc := sc) (d := d) 1 x1 rfl g hvv1) ?_
  rcases zb_if e with ⟨hc2, e⟩ | ⟨hc2, e⟩
  · skip
    refine Wp.iF (pc1 := 11) rfl (zb_eqF hc2) rfl ?_
    refine Wp.steps 1 (pc1 := 12) (lo1 := [some (.ref 0), some (.int x1), some (.int x2), none]) (st1 := [.int x2]) (h1 := mk g) rfl ?_
    rcases zb_if e with ⟨hc3, e⟩ | ⟨hc3, e⟩
    · skip
      refine Wp.iT (pc1 := 21) rfl hc3 rfl ?_
      refine Wp.steps 1 (pc1 := 22) (lo1 := [some (.ref 0), some (.int x1), some (.int x2), none]) (st1 := [.int (-1)]) (h1 := mk g) rfl ?_
      obtain ⟨e1, e2⟩ := zb_r2 e
      subst e1
      subst e2
      exact Wp.ret rfl rfl rfl (K _)
    · skip
      refine Wp.iF (pc1 := 15) rfl hc3 rfl ?_
      refine Wp.steps 2 (pc1 := 18) (lo1 := [some (.ref 0), some (.int x1), some (.int x2), none]) (st1 := [.int 10, .int x2]) (h1 := mk g) rfl ?_
      rcases zb_if e with ⟨hc4, e⟩ | ⟨hc4, e⟩
      · skip
        refine Wp.cT (pc1 := 23) rfl hc4 rfl ?_
        refine Wp.steps 1 (pc1 := 24) (lo1 := [some (.ref 0), some (.int x1), some (.int x2), none]) (st1 := [.ref 0]) (h1 := mk g) rfl ?_
        refine Wp.gf (pc1 := 27) (v := .ref 1) rfl rfl rfl rfl rfl ?_
        refine Wp.gf (pc1 := 30) (v := .ref 3) rfl rfl rfl rfl rfl ?_
        refine Wp.steps 1 (pc1 := 31) (lo1 := [some (.ref 0), some (.int x1), some (.int x2), none]) (st1 := [.int x1, .ref 3]) (h1 := mk g) rfl ?_
        obtain ⟨k5, hk5, e⟩ := zb_bind e
        refine Wp.aa (pc1 := 32) (v := (9 + k5)) rfl (zg_rdeeds (b := 1) rfl) rfl hk5 (by omega) rfl ?_
        refine Wp.gf (pc1 := 35) (v := .int (g (9 + k5) 6)) rfl (zg_deed (b := 1) rfl hk5) rfl rfl rfl ?_
        refine Wp.steps 2 (pc1 := 37) (lo1 := [some (.ref 0), some (.int x1), some (.int x2), some (.int (g (9 + k5) 6))]) (st1 := [.ref 0]) (h1 := mk g) rfl ?_
        refine Wp.gf (pc1 := 40) (v := .ref 1) rfl rfl rfl rfl rfl ?_
        refine Wp.gf (pc1 := 43) (v := .ref 3) rfl rfl rfl rfl rfl ?_
        refine Wp.steps 1 (pc1 := 44) (lo1 := [some (.ref 0), some (.int x1), some (.int x2), some (.int (g (9 + k5) 6))]) (st1 := [.int x1, .ref 3]) (h1 := mk g) rfl ?_
        obtain ⟨k6, hk6, e⟩ := zb_bind e
        refine Wp.aa (pc1 := 45) (v := (9 + k6)) rfl (zg_rdeeds (b := 1) rfl) rfl hk6 (by omega) rfl ?_
        refine Wp.steps 1 (pc1 := 46) (lo1 := [some (.ref 0), some (.int x1), some (.int x2), some (.int (g (9 + k5) 6))]) (st1 := [.int x2, .ref (9 + k6)]) (h1 := mk g) rfl ?_
        obtain ⟨g7, hg7, e⟩ := zb_let e
        refine Wp.pf (pc1 := 49) rfl (zg_deed (b := 1) rfl hk6) rfl rfl rfl rfl hg7 rfl ?_
        refine Wp.steps 1 (pc1 := 50) (lo1 := [some (.ref 0), some (.int x1), some (.int x2), some (.int (g (9 + k5) 6))]) (st1 := [.int (g (9 + k5) 6)]) (h1 := mk g7) rfl ?_
        obtain ⟨e1, e2⟩ := zb_r2 e
        subst e1
        subst e2
        exact Wp.ret rfl rfl rfl (K _)
      · skip
        refine Wp.cF (pc1 := 21) rfl hc4 rfl ?_
        refine Wp.steps 1 (pc1 := 22) (lo1 := [some (.ref 0), some (.int x1), some (.int x2), none]) (st1 := [.int (-1)]) (h1 := mk g) rfl ?_
        obtain ⟨e1, e2⟩ := zb_r2 e
        subst e1
        subst e2
        exact Wp.ret rfl rfl rfl (K _)
  · skip
    refine Wp.iT (pc1 := 21) rfl (zb_eqT hc2) rfl ?_
    refine Wp.steps 1 (pc1 := 22) (lo1 := [some (.ref 0), some (.int x1), some (.int x2), none]) (st1 := [.int (-1)]) (h1 := mk g) rfl ?_
    obtain ⟨e1, e2⟩ := zb_r2 e
    subst e1
    subst e2
    exact Wp.ret rfl rfl rfl (K _)
/-- EveningFirstModel.odd(II)I -/
def d_149 (x1 : Int32) (x2 : Int32) (g : G) : Option (Int32 × G) :=
  zb_l (d_132 x1 g) fun v1 =>
  bif v1 then (
    zb_l (d_107 (Int32.toInt64 x2) 0 10) fun v3 =>
    bif v3 then (
      zb_bp (d_142 ((9 + (7 * x1)) + 6) x2 g) fun v5 g6 =>
      some (v5, g6)) else
    some ((-1), g)) else
  some ((-1), g)
set_option maxRecDepth 100000 in
set_option maxHeartbeats 4000000 in
theorem w_149 {sc : Option (List Int32)} {d : Nat} (x1 : Int32) (x2 : Int32) (g : G) {r : Int32} {g' : G} (e : d_149 x1 x2 g = some (r, g')) : zB sc (d + 2) 149 0 (zm_ent (z_L 149) [.ref 113, .int x1, .int x2]) [] (mk g) [.int r] (mk g') := by
  unfold d_149 at e
  intro Q K
  show Wp sc (d + 2) 149 0 [some (.ref 113), some (.int x1), some (.int x2)] [] (mk g) Q
  refine Wp.steps 2 (pc1 := 2) (lo1 := [some (.ref 113), some (.int x1), some (.int x2)]) (st1 := [.int x1, .ref 113]) (h1 := mk g) rfl ?_
  obtain ⟨v1, hvv1, e⟩ := zb_let e
  refine Wp.ca (m := 132) (d1 := d + 1) (as := [.ref 113, .int x1]) (rest := []) (st1 := [.int (zb_i v1)]) (pc1 := 5) rfl rfl rfl rfl rfl rfl rfl rfl (mk_rok rfl rfl rfl rfl) rfl rfl rfl (w_132 (sc := sc) (d := d) x1 g hvv1) ?_
  rcases zb_if e with ⟨hc2, e⟩ | ⟨hc2, e⟩
  · skip
    refine Wp.iF (pc1 := 8) rfl (zb_eqF hc2) rfl ?_
    refine Wp.steps 4 (pc1 := 14) (lo1 := [some (.ref 113), some (.int x1), some (.int x2)]) (st1 := [.long 10, .long 0, .long (Int32.toInt64 x2)]) (h1 := mk g) rfl ?_
    obtain ⟨v3, hvv3, e⟩ := zb_let e
    refine Wp.ca (m := 107) (d1 := d + 1) (as := [.long (Int32.toInt64 x2), .long 0, .long 10]) (rest := []) (st1 := [.int (zb_i v3)]) (pc1 := 17) rfl rfl rfl rfl rfl rfl rfl rfl rfl rfl rfl rfl (w_107 (sc := sc) (d := d + 1) (Int32.toInt64 x2) 0 10 g hvv3) ?_
    rcases zb_if e with ⟨hc4, e⟩ | ⟨hc4, e⟩
    · skip
      refine Wp.iF (pc1 := 20) rfl (zb_eqF hc4) rfl ?_
      refine Wp.steps 8 (pc1 := 31) (lo1 := [some (.ref 113), some (.int x1), some (.int x2)]) (st1 := [.int ((9 + (7 * x1)) + 6), .ref 113]) (h1 := mk g) rfl ?_
      refine Wp.steps 1 (pc1 := 32) (lo1 := [some (.ref 113), some (.int x1), some (.int x2)]) (st1 := [.int x2, .int ((9 + (7 * x1)) + 6), .ref 113]) (h1 := mk g) rfl ?_
      obtain ⟨v5, g6, hvv5, e⟩ := zb_bpair e
      refine Wp.ca (m := 142) (d1 := d + 1) (as := [.ref 113, .int ((9 + (7 * x1)) + 6), .int x2]) (rest := []) (st1 := [.int v5]) (pc1 := 35) rfl rfl rfl rfl rfl rfl rfl rfl (mk_rok rfl rfl rfl rfl) rfl rfl rfl (w_142 (sc := sc) (d := d + 1) ((9 + (7 * x1)) + 6) x2 g hvv5) ?_
      refine Wp.steps 1 (pc1 := 39) (lo1 := [some (.ref 113), some (.int x1), some (.int x2)]) (st1 := [.int v5]) (h1 := mk g6) rfl ?_
      obtain ⟨e1, e2⟩ := zb_r2 e
      subst e1
      subst e2
      exact Wp.ret rfl rfl rfl (K _)
    · skip
      refine Wp.iT (pc1 := 38) rfl (zb_eqT hc4) rfl ?_
      refine Wp.steps 1 (pc1 := 39) (lo1 := [some (.ref 113), some (.int x1), some (.int x2)]) (st1 := [.int (-1)]) (h1 := mk g) rfl ?_
      obtain ⟨e1, e2⟩ := zb_r2 e
      subst e1
      subst e2
      exact Wp.ret rfl rfl rfl (K _)
  · skip
    refine Wp.iT (pc1 := 38) rfl (zb_eqT hc2) rfl ?_
    refine Wp.steps 1 (pc1 := 39) (lo1 := [some (.ref 113), some (.int x1), some (.int x2)]) (st1 := [.int (-1)]) (h1 := mk g) rfl ?_
    obtain ⟨e1, e2⟩ := zb_r2 e
    subst e1
    subst e2
    exact Wp.ret rfl rfl rfl (K _)
