/-! printed by wip/tools/den.py -/
/-- EveningFirst$Reader.takeDeed()Z -/
def d_34 (g : G) : Option (Bool × G) :=
  bif zm_cmp .lt (g 30 2) 8 then (
    Option.bind (zm_ix (g 30 2) 8) fun k2 =>
    zb_l (zg_up g 30 2 ((g 30 2) + 1)) fun g3 =>
    zb_bp (d_38 0 7 g3) fun v4 g5 =>
    bif v4 then (
      zb_l (zg_up g5 (38 + k2) 0 (g5 28 11)) fun g7 =>
      zb_bp (d_38 0 3 g7) fun v8 g9 =>
      bif v8 then (
        zb_l (zg_up g9 (38 + k2) 1 (g9 28 11)) fun g11 =>
        zb_bp (d_38 0 3 g11) fun v12 g13 =>
        bif v12 then (
          zb_l (zg_up g13 (38 + k2) 2 (g13 28 11)) fun g15 =>
          zb_bp (d_38 0 5 g15) fun v16 g17 =>
          bif v16 then (
            zb_l (zg_up g17 (38 + k2) 3 (g17 28 11)) fun g19 =>
            zb_bp (d_37 g19) fun v20 g21 =>
            zb_l (zg_up g21 (38 + k2) 4 v20) fun g22 =>
            bif zm_cmp .ne (g22 28 2) 0 then (
              some (false, g22)) else
            some (true, g22)) else
          some (false, g17)) else
        some (false, g13)) else
      some (false, g9)) else
    some (false, g5)) else
  zb_p (d_44 5 (g 28 9) g) fun v24 g25 =>
  some (v24, g25)
set_option maxRecDepth 100000 in
set_option maxHeartbeats 4000000 in
theorem w_34 {sc : Option (List Int32)} {d : Nat} (g : G) {r : Bool} {g' : G} (e : d_34 g = some (r, g')) : zB sc (d + 3) 34 0 (zm_ent (z_L 34) [.ref 28]) [] (mk g) [.int (zb_i r)] (mk g') := by
  unfold d_34 at e
  intro Q K
  show Wp sc (d + 3) 34 0 [some (.ref 28), none] [] (mk g) Q
  refine Wp.steps 1 (pc1 := 1) (lo1 := [some (.ref 28), none]) (st1 := [.ref 28]) (h1 := mk g) rfl ?_
  refine Wp.gf (pc1 := 4) (v := .ref 30) rfl rfl rfl rfl rfl ?_
  refine Wp.gf (pc1 := 7) (v := .int (g 30 2)) rfl rfl rfl rfl rfl ?_
  refine Wp.steps 1 (pc1 := 9) (lo1 := [some (.ref 28), none]) (st1 := [.int 8, .int (g 30 2)]) (h1 := mk g) rfl ?_
  rcases zb_if e with ⟨hc1, e⟩ | ⟨hc1, e⟩
  · skip
    refine Wp.cT (pc1 := 22) rfl hc1 rfl ?_
    refine Wp.steps 1 (pc1 := 23) (lo1 := [some (.ref 28), none]) (st1 := [.ref 28]) (h1 := mk g) rfl ?_
    refine Wp.gf (pc1 := 26) (v := .ref 30) rfl rfl rfl rfl rfl ?_
    refine Wp.gf (pc1 := 29) (v := .ref 32) rfl rfl rfl rfl rfl ?_
    refine Wp.steps 1 (pc1 := 30) (lo1 := [some (.ref 28), none]) (st1 := [.ref 28, .ref 32]) (h1 := mk g) rfl ?_
    refine Wp.gf (pc1 := 33) (v := .ref 30) rfl rfl rfl rfl rfl ?_
    refine Wp.gf (pc1 := 36) (v := .int (g 30 2)) rfl rfl rfl rfl rfl ?_
    obtain ⟨k2, hk2, e⟩ := zb_bind e
    refine Wp.aa (pc1 := 37) (v := (38 + k2)) rfl (zg_rdeeds (b := 30) rfl) rfl hk2 (by omega) rfl ?_
    refine Wp.steps 2 (pc1 := 39) (lo1 := [some (.ref 28), some (.ref (38 + k2))]) (st1 := [.ref 28]) (h1 := mk g) rfl ?_
    refine Wp.gf (pc1 := 42) (v := .ref 30) rfl rfl rfl rfl rfl ?_
    refine Wp.steps 1 (pc1 := 43) (lo1 := [some (.ref 28), some (.ref (38 + k2))]) (st1 := [.ref 30, .ref 30]) (h1 := mk g) rfl ?_
    refine Wp.gf (pc1 := 46) (v := .int (g 30 2)) rfl rfl rfl rfl rfl ?_
    refine Wp.steps 2 (pc1 := 48) (lo1 := [some (.ref 28), some (.ref (38 + k2))]) (st1 := [.int ((g 30 2) + 1), .ref 30]) (h1 := mk g) rfl ?_
    obtain ⟨g3, hg3, e⟩ := zb_let e
    refine Wp.pf (pc1 := 51) rfl rfl rfl rfl rfl rfl hg3 rfl ?_
    refine Wp.steps 3 (pc1 := 55) (lo1 := [some (.ref 28), some (.ref (38 + k2))]) (st1 := [.int 7, .int 0, .ref 28]) (h1 := mk g3) rfl ?_
    obtain ⟨v4, g5, hvv4, e⟩ := zb_bpair e
    refine Wp.ca (m := 38) (d1 := d + 2) (as := [.ref 28, .int 0, .int 7]) (rest := []) (st1 := [.int (zb_i v4)]) (pc1 := 58) rfl rfl rfl rfl rfl rfl rfl rfl (mk_rok rfl rfl rfl rfl) rfl rfl rfl (w_38 (sc := sc) (d := d) 0 7 g3 hvv4) ?_
    rcases zb_if e with ⟨hc6, e⟩ | ⟨hc6, e⟩
    · skip
      refine Wp.iT (pc1 := 63) rfl (zb_neT hc6) rfl ?_
      refine Wp.steps 2 (pc1 := 65) (lo1 := [some (.ref 28), some (.ref (38 + k2))]) (st1 := [.ref 28, .ref (38 + k2)]) (h1 := mk g5) rfl ?_
      refine Wp.gf (pc1 := 68) (v := .int (g5 28 11)) rfl rfl rfl rfl rfl ?_
      obtain ⟨g7, hg7, e⟩ := zb_let e
      refine Wp.pf (pc1 := 71) rfl (zg_deed (b := 30) rfl hk2) rfl rfl rfl rfl hg7 rfl ?_
      refine Wp.steps 3 (pc1 := 74) (lo1 := [some (.ref 28), some (.ref (38 + k2))]) (st1 := [.int 3, .int 0, .ref 28]) (h1 := mk g7) rfl ?_
      obtain ⟨v8, g9, hvv8, e⟩ := zb_bpair e
      refine Wp.ca (m := 38) (d1 := d + 2) (as := [.ref 28, .int 0, .int 3]) (rest := []) (st1 := [.int (zb_i v8)]) (pc1 := 77) rfl rfl rfl rfl rfl rfl rfl rfl (mk_rok rfl rfl rfl rfl) rfl rfl rfl (w_38 (sc := sc) (d := d) 0 3 g7 hvv8) ?_
      rcases zb_if e with ⟨hc10, e⟩ | ⟨hc10, e⟩
      · skip
        refine Wp.iT (pc1 := 82) rfl (zb_neT hc10) rfl ?_
        refine Wp.steps 2 (pc1 := 84) (lo1 := [some (.ref 28), some (.ref (38 + k2))]) (st1 := [.ref 28, .ref (38 + k2)]) (h1 := mk g9) rfl ?_
        refine Wp.gf (pc1 := 87) (v := .int (g9 28 11)) rfl rfl rfl rfl rfl ?_
        obtain ⟨g11, hg11, e⟩ := zb_let e
        refine Wp.pf (pc1 := 90) rfl (zg_deed (b := 30) rfl hk2) rfl rfl rfl rfl hg11 rfl ?_
        refine Wp.steps 3 (pc1 := 93) (lo1 := [some (.ref 28), some (.ref (38 + k2))]) (st1 := [.int 3, .int 0, .ref 28]) (h1 := mk g11) rfl ?_
        obtain ⟨v12, g13, hvv12, e⟩ := zb_bpair e
        refine Wp.ca (m := 38) (d1 := d + 2) (as := [.ref 28, .int 0, .int 3]) (rest := []) (st1 := [.int (zb_i v12)]) (pc1 := 96) rfl rfl rfl rfl rfl rfl rfl rfl (mk_rok rfl rfl rfl rfl) rfl rfl rfl (w_38 (sc := sc) (d := d) 0 3 g11 hvv12) ?_
        rcases zb_if e with ⟨hc14, e⟩ | ⟨hc14, e⟩
        · skip
          refine Wp.iT (pc1 := 101) rfl (zb_neT hc14) rfl ?_
          refine Wp.steps 2 (pc1 := 103) (lo1 := [some (.ref 28), some (.ref (38 + k2))]) (st1 := [.ref 28, .ref (38 + k2)]) (h1 := mk g13) rfl ?_
          refine Wp.gf (pc1 := 106) (v := .int (g13 28 11)) rfl rfl rfl rfl rfl ?_
          obtain ⟨g15, hg15, e⟩ := zb_let e
          refine Wp.pf (pc1 := 109) rfl (zg_deed (b := 30) rfl hk2) rfl rfl rfl rfl hg15 rfl ?_
          refine Wp.steps 3 (pc1 := 112) (lo1 := [some (.ref 28), some (.ref (38 + k2))]) (st1 := [.int 5, .int 0, .ref 28]) (h1 := mk g15) rfl ?_
          obtain ⟨v16, g17, hvv16, e⟩ := zb_bpair e
          refine Wp.ca (m := 38) (d1 := d + 2) (as := [.ref 28, .int 0, .int 5]) (rest := []) (st1 := [.int (zb_i v16)]) (pc1 := 115) rfl rfl rfl rfl rfl rfl rfl rfl (mk_rok rfl rfl rfl rfl) rfl rfl rfl (w_38 (sc := sc) (d := d) 0 5 g15 hvv16) ?_
          rcases zb_if e with ⟨hc18, e⟩ | ⟨hc18, e⟩
          · skip
            refine Wp.iT (pc1 := 120) rfl (zb_neT hc18) rfl ?_
            refine Wp.steps 2 (pc1 := 122) (lo1 := [some (.ref 28), some (.ref (38 + k2))]) (st1 := [.ref 28, .ref (38 + k2)]) (h1 := mk g17) rfl ?_
            refine Wp.gf (pc1 := 125) (v := .int (g17 28 11)) rfl rfl rfl rfl rfl ?_
            obtain ⟨g19, hg19, e⟩ := zb_let e
            refine Wp.pf (pc1 := 128) rfl (zg_deed (b := 30) rfl hk2) rfl rfl rfl rfl hg19 rfl ?_
            refine Wp.steps 2 (pc1 := 130) (lo1 := [some (.ref 28), some (.ref (38 + k2))]) (st1 := [.ref 28, .ref (38 + k2)]) (h1 := mk g19) rfl ?_
            obtain ⟨v20, g21, hvv20, e⟩ := zb_bpair e
            refine Wp.ca (m := 37) (d1 := d + 2) (as := [.ref 28]) (rest := [.ref (38 + k2)]) (st1 := [.int v20, .ref (38 + k2)]) (pc1 := 133) rfl rfl rfl rfl rfl rfl rfl rfl (mk_rok rfl rfl rfl rfl) rfl rfl rfl (w_37 (sc := sc) (d := d)  g19 hvv20) ?_
            obtain ⟨g22, hg22, e⟩ := zb_let e
            refine Wp.pf (pc1 := 136) rfl (zg_deed (b := 30) rfl hk2) rfl rfl rfl rfl hg22 rfl ?_
            refine Wp.steps 1 (pc1 := 137) (lo1 := [some (.ref 28), some (.ref (38 + k2))]) (st1 := [.ref 28]) (h1 := mk g22) rfl ?_
            refine Wp.gf (pc1 := 140) (v := .int (g22 28 2)) rfl rfl rfl rfl rfl ?_
            rcases zb_if e with ⟨hc23, e⟩ | ⟨hc23, e⟩
            · skip
              refine Wp.iT (pc1 := 147) rfl hc23 rfl ?_
              refine Wp.steps 1 (pc1 := 148) (lo1 := [some (.ref 28), some (.ref (38 + k2))]) (st1 := [.int 0]) (h1 := mk g22) rfl ?_
              obtain ⟨e1, e2⟩ := zb_r2 e
              subst e1
              subst e2
              exact Wp.ret rfl rfl rfl (K _)
            · skip
              refine Wp.iF (pc1 := 143) rfl hc23 rfl ?_
              refine Wp.steps 2 (pc1 := 148) (lo1 := [some (.ref 28), some (.ref (38 + k2))]) (st1 := [.int 1]) (h1 := mk g22) rfl ?_
              obtain ⟨e1, e2⟩ := zb_r2 e
              subst e1
              subst e2
              exact Wp.ret rfl rfl rfl (K _)
          · skip
            refine Wp.iF (pc1 := 118) rfl (zb_neF hc18) rfl ?_
            refine Wp.steps 1 (pc1 := 119) (lo1 := [some (.ref 28), some (.ref (38 + k2))]) (st1 := [.int 0]) (h1 := mk g17) rfl ?_
            obtain ⟨e1, e2⟩ := zb_r2 e
            subst e1
            subst e2
            exact Wp.ret rfl rfl rfl (K _)
        · skip
          refine Wp.iF (pc1 := 99) rfl (zb_neF hc14) rfl ?_
          refine Wp.steps 1 (pc1 := 100) (lo1 := [some (.ref 28), some (.ref (38 + k2))]) (st1 := [.int 0]) (h1 := mk g13) rfl ?_
          obtain ⟨e1, e2⟩ := zb_r2 e
          subst e1
          subst e2
          exact Wp.ret rfl rfl rfl (K _)
      · skip
        refine Wp.iF (pc1 := 80) rfl (zb_neF hc10) rfl ?_
        refine Wp.steps 1 (pc1 := 81) (lo1 := [some (.ref 28), some (.ref (38 + k2))]) (st1 := [.int 0]) (h1 := mk g9) rfl ?_
        obtain ⟨e1, e2⟩ := zb_r2 e
        subst e1
        subst e2
        exact Wp.ret rfl rfl rfl (K _)
    · skip
      refine Wp.iF (pc1 := 61) rfl (zb_neF hc6) rfl ?_
      refine Wp.steps 1 (pc1 := 62) (lo1 := [some (.ref 28), some (.ref (38 + k2))]) (st1 := [.int 0]) (h1 := mk g5) rfl ?_
      obtain ⟨e1, e2⟩ := zb_r2 e
      subst e1
      subst e2
      exact Wp.ret rfl rfl rfl (K _)
  · skip
    refine Wp.cF (pc1 := 12) rfl hc1 rfl ?_
    refine Wp.steps 3 (pc1 := 15) (lo1 := [some (.ref 28), none]) (st1 := [.ref 28, .int 5, .ref 28]) (h1 := mk g) rfl ?_
    refine Wp.gf (pc1 := 18) (v := .int (g 28 9)) rfl rfl rfl rfl rfl ?_
    obtain ⟨v24, g25, hvv24, e⟩ := zb_pair e
    refine Wp.ca (m := 44) (d1 := d + 2) (as := [.ref 28, .int 5, .int (g 28 9)]) (rest := []) (st1 := [.int (zb_i v24)]) (pc1 := 21) rfl rfl rfl rfl rfl rfl rfl rfl (mk_rok rfl rfl rfl rfl) rfl rfl rfl (w_44 (sc := sc) (d := d + 2) 5 (g 28 9) g hvv24) ?_
    obtain ⟨e1, e2⟩ := zb_r2 e
    subst e1
    subst e2
    exact Wp.ret rfl rfl (zb_ok _) (K _)
/-- EveningFirst$Reader.takeMark(I)Z -/
def d_35 (x1 : Int32) (g : G) : Option (Bool × G) :=
  zb_bp (d_38 0 7 g) fun v1 g2 =>
  bif v1 then (
    zb_l (d_90 (g2 28 6) (g2 28 11)) fun v4 =>
    bif v4 then (
      zb_p (d_44 4 (g2 28 9) g2) fun v11 g12 =>
      some (v11, g12)) else
    zb_l (zg_up g2 28 6 ((g2 28 6) ||| ((1 : Int32) <<< ((g2 28 11) &&& 31)))) fun g6 =>
    Option.bind (zm_ix (g6 28 11) 8) fun k7 =>
    zb_l (zg_up g6 (38 + k7) 5 x1) fun g8 =>
    zb_bp (d_39 g8) fun v9 g10 =>
    some (v9, g10)) else
  some (false, g2)
set_option maxRecDepth 100000 in
set_option maxHeartbeats 4000000 in
theorem w_35 {sc : Option (List Int32)} {d : Nat} (x1 : Int32) (g : G) {r : Bool} {g' : G} (e : d_35 x1 g = some (r, g')) : zB sc (d + 3) 35 0 (zm_ent (z_L 35) [.ref 28, .int x1]) [] (mk g) [.int (zb_i r)] (mk g') := by
  unfold d_35 at e
  intro Q K
  show Wp sc (d + 3) 35 0 [some (.ref 28), some (.int x1)] [] (mk g) Q
  refine Wp.steps 3 (pc1 := 4) (lo1 := [some (.ref 28), some (.int x1)]) (st1 := [.int 7, .int 0, .ref 28]) (h1 := mk g) rfl ?_
  obtain ⟨v1, g2, hvv1, e⟩ := zb_bpair e
  refine Wp.ca (m := 38) (d1 := d + 2) (as := [.ref 28, .int 0, .int 7]) (rest := []) (st1 := [.int (zb_i v1)]) (pc1 := 7) rfl rfl rfl rfl rfl rfl rfl rfl (mk_rok rfl rfl rfl rfl) rfl rfl rfl (w_38 (sc := sc) (d := d) 0 7 g hvv1) ?_
  rcases zb_if e with ⟨hc3, e⟩ | ⟨hc3, e⟩
  · skip
    refine Wp.iT (pc1 := 12) rfl (zb_neT hc3) rfl ?_
    refine Wp.steps 1 (pc1 := 13) (lo1 := [some (.ref 28), some (.int x1)]) (st1 := [.ref 28]) (h1 := mk g2) rfl ?_
    refine Wp.gf (pc1 := 16) (v := .int (g2 28 6)) rfl rfl rfl rfl rfl ?_
    refine Wp.steps 1 (pc1 := 17) (lo1 := [some (.ref 28), some (.int x1)]) (st1 := [.ref 28, .int (g2 28 6)]) (h1 := mk g2) rfl ?_
    refine Wp.gf (pc1 := 20) (v := .int (g2 28 11)) rfl rfl rfl rfl rfl ?_
    obtain ⟨v4, hvv4, e⟩ := zb_let e
    refine Wp.ca (m := 90) (d1 := d + 2) (as := [.int (g2 28 6), .int (g2 28 11)]) (rest := []) (st1 := [.int (zb_i v4)]) (pc1 := 23) rfl rfl rfl rfl rfl rfl rfl rfl rfl rfl rfl rfl (w_90 (sc := sc) (d := d + 2) (g2 28 6) (g2 28 11) g2 hvv4) ?_
    rcases zb_if e with ⟨hc5, e⟩ | ⟨hc5, e⟩
    · skip
      refine Wp.iF (pc1 := 26) rfl (zb_eqF hc5) rfl ?_
      refine Wp.steps 3 (pc1 := 29) (lo1 := [some (.ref 28), some (.int x1)]) (st1 := [.ref 28, .int 4, .ref 28]) (h1 := mk g2) rfl ?_
      refine Wp.gf (pc1 := 32) (v := .int (g2 28 9)) rfl rfl rfl rfl rfl ?_
      obtain ⟨v11, g12, hvv11, e⟩ := zb_pair e
      refine Wp.ca (m := 44) (d1 := d + 2) (as := [.ref 28, .int 4, .int (g2 28 9)]) (rest := []) (st1 := [.int (zb_i v11)]) (pc1 := 35) rfl rfl rfl rfl rfl rfl rfl rfl (mk_rok rfl rfl rfl rfl) rfl rfl rfl (w_44 (sc := sc) (d := d + 2) 4 (g2 28 9) g2 hvv11) ?_
      obtain ⟨e1, e2⟩ := zb_r2 e
      subst e1
      subst e2
      exact Wp.ret rfl rfl (zb_ok _) (K _)
    · skip
      refine Wp.iT (pc1 := 36) rfl (zb_eqT hc5) rfl ?_
      refine Wp.steps 2 (pc1 := 38) (lo1 := [some (.ref 28), some (.int x1)]) (st1 := [.ref 28, .ref 28]) (h1 := mk g2) rfl ?_
      refine Wp.gf (pc1 := 41) (v := .int (g2 28 6)) rfl rfl rfl rfl rfl ?_
      refine Wp.steps 2 (pc1 := 43) (lo1 := [some (.ref 28), some (.int x1)]) (st1 := [.ref 28, .int 1, .int (g2 28 6), .ref 28]) (h1 := mk g2) rfl ?_
      refine Wp.gf (pc1 := 46) (v := .int (g2 28 11)) rfl rfl rfl rfl rfl ?_
      refine Wp.steps 2 (pc1 := 48) (lo1 := [some (.ref 28), some (.int x1)]) (st1 := [.int ((g2 28 6) ||| ((1 : Int32) <<< ((g2 28 11) &&& 31))), .ref 28]) (h1 := mk g2) rfl ?_
      obtain ⟨g6, hg6, e⟩ := zb_let e
      refine Wp.pf (pc1 := 51) rfl rfl rfl rfl rfl rfl hg6 rfl ?_
      refine Wp.steps 1 (pc1 := 52) (lo1 := [some (.ref 28), some (.int x1)]) (st1 := [.ref 28]) (h1 := mk g6) rfl ?_
      refine Wp.gf (pc1 := 55) (v := .ref 30) rfl rfl rfl rfl rfl ?_
      refine Wp.gf (pc1 := 58) (v := .ref 32) rfl rfl rfl rfl rfl ?_
      refine Wp.steps 1 (pc1 := 59) (lo1 := [some (.ref 28), some (.int x1)]) (st1 := [.ref 28, .ref 32]) (h1 := mk g6) rfl ?_
      refine Wp.gf (pc1 := 62) (v := .int (g6 28 11)) rfl rfl rfl rfl rfl ?_
      obtain ⟨k7, hk7, e⟩ := zb_bind e
      refine Wp.aa (pc1 := 63) (v := (38 + k7)) rfl (zg_rdeeds (b := 30) rfl) rfl hk7 (by omega) rfl ?_
      refine Wp.steps 1 (pc1 := 64) (lo1 := [some (.ref 28), some (.int x1)]) (st1 := [.int x1, .ref (38 + k7)]) (h1 := mk g6) rfl ?_
      obtain ⟨g8, hg8, e⟩ := zb_let e
      refine Wp.pf (pc1 := 67) rfl (zg_deed (b := 30) rfl hk7) rfl rfl rfl rfl hg8 rfl ?_
      refine Wp.steps 1 (pc1 := 68) (lo1 := [some (.ref 28), some (.int x1)]) (st1 := [.ref 28]) (h1 := mk g8) rfl ?_
      obtain ⟨v9, g10, hvv9, e⟩ := zb_bpair e
      refine Wp.ca (m := 39) (d1 := d + 2) (as := [.ref 28]) (rest := []) (st1 := [.int (zb_i v9)]) (pc1 := 71) rfl rfl rfl rfl rfl rfl rfl rfl (mk_rok rfl rfl rfl rfl) rfl rfl rfl (w_39 (sc := sc) (d := d)  g8 hvv9) ?_
      obtain ⟨e1, e2⟩ := zb_r2 e
      subst e1
      subst e2
      exact Wp.ret rfl rfl (zb_ok _) (K _)
  · skip
    refine Wp.iF (pc1 := 10) rfl (zb_neF hc3) rfl ?_
    refine Wp.steps 1 (pc1 := 11) (lo1 := [some (.ref 28), some (.int x1)]) (st1 := [.int 0]) (h1 := mk g2) rfl ?_
    obtain ⟨e1, e2⟩ := zb_r2 e
    subst e1
    subst e2
    exact Wp.ret rfl rfl rfl (K _)
/-- EveningFirst$Reader.takeOdds()Z -/
def d_36 (g : G) : Option (Bool × G) :=
  zb_bp (d_38 0 7 g) fun v1 g2 =>
  bif v1 then (
    zb_l (d_90 (g2 28 7) (g2 28 11)) fun v4 =>
    bif v4 then (
      zb_p (d_44 4 (g2 28 9) g2) fun v14 g15 =>
      some (v14, g15)) else
    zb_l (zg_up g2 28 7 ((g2 28 7) ||| ((1 : Int32) <<< ((g2 28 11) &&& 31)))) fun g6 =>
    Option.bind (zm_ix (g6 28 11) 8) fun k7 =>
    zb_bp (d_38 0 10 g6) fun v8 g9 =>
    bif v8 then (
      zb_l (zg_up g9 (38 + k7) 6 (g9 28 11)) fun g11 =>
      zb_bp (d_39 g11) fun v12 g13 =>
      some (v12, g13)) else
    some (false, g9)) else
  some (false, g2)
set_option maxRecDepth 100000 in
set_option maxHeartbeats 4000000 in
theorem w_36 {sc : Option (List Int32)} {d : Nat} (g : G) {r : Bool} {g' : G} (e : d_36 g = some (r, g')) : zB sc (d + 3) 36 0 (zm_ent (z_L 36) [.ref 28]) [] (mk g) [.int (zb_i r)] (mk g') := by
  unfold d_36 at e
  intro Q K
  show Wp sc (d + 3) 36 0 [some (.ref 28), none] [] (mk g) Q
  refine Wp.steps 3 (pc1 := 4) (lo1 := [some (.ref 28), none]) (st1 := [.int 7, .int 0, .ref 28]) (h1 := mk g) rfl ?_
  obtain ⟨v1, g2, hvv1, e⟩ := zb_bpair e
  refine Wp.ca (m := 38) (d1 := d + 2) (as := [.ref 28, .int 0, .int 7]) (rest := []) (st1 := [.int (zb_i v1)]) (pc1 := 7) rfl rfl rfl rfl rfl rfl rfl rfl (mk_rok rfl rfl rfl rfl) rfl rfl rfl (w_38 (sc := sc) (d := d) 0 7 g hvv1) ?_
  rcases zb_if e with ⟨hc3, e⟩ | ⟨hc3, e⟩
  · skip
    refine Wp.iT (pc1 := 12) rfl (zb_neT hc3) rfl ?_
    refine Wp.steps 1 (pc1 := 13) (lo1 := [some (.ref 28), none]) (st1 := [.ref 28]) (h1 := mk g2) rfl ?_
    refine Wp.gf (pc1 := 16) (v := .int (g2 28 7)) rfl rfl rfl rfl rfl ?_
    refine Wp.steps 1 (pc1 := 17) (lo1 := [some (.ref 28), none]) (st1 := [.ref 28, .int (g2 28 7)]) (h1 := mk g2) rfl ?_
    refine Wp.gf (pc1 := 20) (v := .int (g2 28 11)) rfl rfl rfl rfl rfl ?_
    obtain ⟨v4, hvv4, e⟩ := zb_let e
    refine Wp.ca (m := 90) (d1 := d + 2) (as := [.int (g2 28 7), .int (g2 28 11)]) (rest := []) (st1 := [.int (zb_i v4)]) (pc1 := 23) rfl rfl rfl rfl rfl rfl rfl rfl rfl rfl rfl rfl (w_90 (sc := sc) (d := d + 2) (g2 28 7) (g2 28 11) g2 hvv4) ?_
    rcases zb_if e with ⟨hc5, e⟩ | ⟨hc5, e⟩
    · skip
      refine Wp.iF (pc1 := 26) rfl (zb_eqF hc5) rfl ?_
      refine Wp.steps 3 (pc1 := 29) (lo1 := [some (.ref 28), none]) (st1 := [.ref 28, .int 4, .ref 28]) (h1 := mk g2) rfl ?_
      refine Wp.gf (pc1 := 32) (v := .int (g2 28 9)) rfl rfl rfl rfl rfl ?_
      obtain ⟨v14, g15, hvv14, e⟩ := zb_pair e
      refine Wp.ca (m := 44) (d1 := d + 2) (as := [.ref 28, .int 4, .int (g2 28 9)]) (rest := []) (st1 := [.int (zb_i v14)]) (pc1 := 35) rfl rfl rfl rfl rfl rfl rfl rfl (mk_rok rfl rfl rfl rfl) rfl rfl rfl (w_44 (sc := sc) (d := d + 2) 4 (g2 28 9) g2 hvv14) ?_
      obtain ⟨e1, e2⟩ := zb_r2 e
      subst e1
      subst e2
      exact Wp.ret rfl rfl (zb_ok _) (K _)
    · skip
      refine Wp.iT (pc1 := 36) rfl (zb_eqT hc5) rfl ?_
      refine Wp.steps 2 (pc1 := 38) (lo1 := [some (.ref 28), none]) (st1 := [.ref 28, .ref 28]) (h1 := mk g2) rfl ?_
      refine Wp.gf (pc1 := 41) (v := .int (g2 28 7)) rfl rfl rfl rfl rfl ?_
      refine Wp.steps 2 (pc1 := 43) (lo1 := [some (.ref 28), none]) (st1 := [.ref 28, .int 1, .int (g2 28 7), .ref 28]) (h1 := mk g2) rfl ?_
      refine Wp.gf (pc1 := 46) (v := .int (g2 28 11)) rfl rfl rfl rfl rfl ?_
      refine Wp.steps 2 (pc1 := 48) (lo1 := [some (.ref 28), none]) (st1 := [.int ((g2 28 7) ||| ((1 : Int32) <<< ((g2 28 11) &&& 31))), .ref 28]) (h1 := mk g2) rfl ?_
      obtain ⟨g6, hg6, e⟩ := zb_let e
      refine Wp.pf (pc1 := 51) rfl rfl rfl rfl rfl rfl hg6 rfl ?_
      refine Wp.steps 1 (pc1 := 52) (lo1 := [some (.ref 28), none]) (st1 := [.ref 28]) (h1 := mk g6) rfl ?_
      refine Wp.gf (pc1 := 55) (v := .ref 30) rfl rfl rfl rfl rfl ?_
      refine Wp.gf (pc1 := 58) (v := .ref 32) rfl rfl rfl rfl rfl ?_
      refine Wp.steps 1 (pc1 := 59) (lo1 := [some (.ref 28), none]) (st1 := [.ref 28, .ref 32]) (h1 := mk g6) rfl ?_
      refine Wp.gf (pc1 := 62) (v := .int (g6 28 11)) rfl rfl rfl rfl rfl ?_
      obtain ⟨k7, hk7, e⟩ := zb_bind e
      refine Wp.aa (pc1 := 63) (v := (38 + k7)) rfl (zg_rdeeds (b := 30) rfl) rfl hk7 (by omega) rfl ?_
      refine Wp.steps 4 (pc1 := 68) (lo1 := [some (.ref 28), some (.ref (38 + k7))]) (st1 := [.int 10, .int 0, .ref 28]) (h1 := mk g6) rfl ?_
      obtain ⟨v8, g9, hvv8, e⟩ := zb_bpair e
      refine Wp.ca (m := 38) (d1 := d + 2) (as := [.ref 28, .int 0, .int 10]) (rest := []) (st1 := [.int (zb_i v8)]) (pc1 := 71) rfl rfl rfl rfl rfl rfl rfl rfl (mk_rok rfl rfl rfl rfl) rfl rfl rfl (w_38 (sc := sc) (d := d) 0 10 g6 hvv8) ?_
      rcases zb_if e with ⟨hc10, e⟩ | ⟨hc10, e⟩
      · skip
        refine Wp.iT (pc1 := 76) rfl (zb_neT hc10) rfl ?_
        refine Wp.steps 2 (pc1 := 78) (lo1 := [some (.ref 28), some (.ref (38 + k7))]) (st1 := [.ref 28, .ref (38 + k7)]) (h1 := mk g9) rfl ?_
        refine Wp.gf (pc1 := 81) (v := .int (g9 28 11)) rfl rfl rfl rfl rfl ?_
        obtain ⟨g11, hg11, e⟩ := zb_let e
        refine Wp.pf (pc1 := 84) rfl (zg_deed (b := 30) rfl hk7) rfl rfl rfl rfl hg11 rfl ?_
        refine Wp.steps 1 (pc1 := 85) (lo1 := [some (.ref 28), some (.ref (38 + k7))]) (st1 := [.ref 28]) (h1 := mk g11) rfl ?_
        obtain ⟨v12, g13, hvv12, e⟩ := zb_bpair e
        refine Wp.ca (m := 39) (d1 := d + 2) (as := [.ref 28]) (rest := []) (st1 := [.int (zb_i v12)]) (pc1 := 88) rfl rfl rfl rfl rfl rfl rfl rfl (mk_rok rfl rfl rfl rfl) rfl rfl rfl (w_39 (sc := sc) (d := d)  g11 hvv12) ?_
        obtain ⟨e1, e2⟩ := zb_r2 e
        subst e1
        subst e2
        exact Wp.ret rfl rfl (zb_ok _) (K _)
      · skip
        refine Wp.iF (pc1 := 74) rfl (zb_neF hc10) rfl ?_
        refine Wp.steps 1 (pc1 := 75) (lo1 := [some (.ref 28), some (.ref (38 + k7))]) (st1 := [.int 0]) (h1 := mk g9) rfl ?_
        obtain ⟨e1, e2⟩ := zb_r2 e
        subst e1
        subst e2
        exact Wp.ret rfl rfl rfl (K _)
  · skip
    refine Wp.iF (pc1 := 10) rfl (zb_neF hc3) rfl ?_
    refine Wp.steps 1 (pc1 := 11) (lo1 := [some (.ref 28), none]) (st1 := [.int 0]) (h1 := mk g2) rfl ?_
    obtain ⟨e1, e2⟩ := zb_r2 e
    subst e1
    subst e2
    exact Wp.ret rfl rfl rfl (K _)
/-- EveningFirst$Reader.takeLine()Z -/
def d_31 (g : G) : Option (Bool × G) :=
  Option.bind (d_41 0 g) fun v1 =>
  bif v1 then (
    zb_bp (d_32 g) fun v25 g26 =>
    some (v25, g26)) else
  Option.bind (d_41 1 g) fun v3 =>
  bif v3 then (
    zb_bp (d_33 g) fun v23 g24 =>
    some (v23, g24)) else
  Option.bind (d_41 2 g) fun v5 =>
  bif v5 then (
    zb_bp (d_34 g) fun v21 g22 =>
    some (v21, g22)) else
  Option.bind (d_41 3 g) fun v7 =>
  bif v7 then (
    zb_bp (d_35 1 g) fun v19 g20 =>
    some (v19, g20)) else
  Option.bind (d_41 4 g) fun v9 =>
  bif v9 then (
    zb_bp (d_35 2 g) fun v17 g18 =>
    some (v17, g18)) else
  Option.bind (d_41 5 g) fun v11 =>
  bif v11 then (
    zb_bp (d_36 g) fun v15 g16 =>
    some (v15, g16)) else
  zb_p (d_44 2 (g 28 9) g) fun v13 g14 =>
  some (v13, g14)
set_option maxRecDepth 100000 in
set_option maxHeartbeats 4000000 in
theorem w_31 {sc : Option (List Int32)} {d : Nat} (g : G) {r : Bool} {g' : G} (e : d_31 g = some (r, g')) : zB sc (d + 7) 31 0 (zm_ent (z_L 31) [.ref 28]) [] (mk g) [.int (zb_i r)] (mk g') := by
  unfold d_31 at e
  intro Q K
  show Wp sc (d + 7) 31 0 [some (.ref 28)] [] (mk g) Q
  refine Wp.steps 2 (pc1 := 3) (lo1 := [some (.ref 28)]) (st1 := [.ref (zm_SP + 1 + 0), .ref 28]) (h1 := mk g) rfl ?_
  obtain ⟨v1, hvv1, e⟩ := zb_bind e
  refine Wp.ca (m := 41) (d1 := d + 6) (as := [.ref 28, .ref (zm_SP + 1 + 0)]) (rest := []) (st1 := [.int (zb_i v1)]) (pc1 := 6) rfl rfl rfl rfl rfl rfl rfl rfl (mk_rok rfl rfl rfl rfl) rfl rfl rfl (w_41 (sc := sc) (d := d + 1) 0 (by decide) g hvv1) ?_
  rcases zb_if e with ⟨hc2, e⟩ | ⟨hc2, e⟩
  · skip
    refine Wp.iF (pc1 := 9) rfl (zb_eqF hc2) rfl ?_
    refine Wp.steps 1 (pc1 := 10) (lo1 := [some (.ref 28)]) (st1 := [.ref 28]) (h1 := mk g) rfl ?_
    obtain ⟨v25, g26, hvv25, e⟩ := zb_bpair e
    refine Wp.ca (m := 32) (d1 := d + 6) (as := [.ref 28]) (rest := []) (st1 := [.int (zb_i v25)]) (pc1 := 13) rfl rfl rfl rfl rfl rfl rfl rfl (mk_rok rfl rfl rfl rfl) rfl rfl rfl (w_32 (sc := sc) (d := d + 3)  g hvv25) ?_
    obtain ⟨e1, e2⟩ := zb_r2 e
    subst e1
    subst e2
    exact Wp.ret rfl rfl (zb_ok _) (K _)
  · skip
    refine Wp.iT (pc1 := 14) rfl (zb_eqT hc2) rfl ?_
    refine Wp.steps 2 (pc1 := 17) (lo1 := [some (.ref 28)]) (st1 := [.ref (zm_SP + 1 + 1), .ref 28]) (h1 := mk g) rfl ?_
    obtain ⟨v3, hvv3, e⟩ := zb_bind e
    refine Wp.ca (m := 41) (d1 := d + 6) (as := [.ref 28, .ref (zm_SP + 1 + 1)]) (rest := []) (st1 := [.int (zb_i v3)]) (pc1 := 20) rfl rfl rfl rfl rfl rfl rfl rfl (mk_rok rfl rfl rfl rfl) rfl rfl rfl (w_41 (sc := sc) (d := d + 1) 1 (by decide) g hvv3) ?_
    rcases zb_if e with ⟨hc4, e⟩ | ⟨hc4, e⟩
    · skip
      refine Wp.iF (pc1 := 23) rfl (zb_eqF hc4) rfl ?_
      refine Wp.steps 1 (pc1 := 24) (lo1 := [some (.ref 28)]) (st1 := [.ref 28]) (h1 := mk g) rfl ?_
      obtain ⟨v23, g24, hvv23, e⟩ := zb_bpair e
      refine Wp.ca (m := 33) (d1 := d + 6) (as := [.ref 28]) (rest := []) (st1 := [.int (zb_i v23)]) (pc1 := 27) rfl rfl rfl rfl rfl rfl rfl rfl (mk_rok rfl rfl rfl rfl) rfl rfl rfl (w_33 (sc := sc) (d := d)  g hvv23) ?_
      obtain ⟨e1, e2⟩ := zb_r2 e
      subst e1
      subst e2
      exact Wp.ret rfl rfl (zb_ok _) (K _)
    · skip
      refine Wp.iT (pc1 := 28) rfl (zb_eqT hc4) rfl ?_
      refine Wp.steps 2 (pc1 := 31) (lo1 := [some (.ref 28)]) (st1 := [.ref (zm_SP + 1 + 2), .ref 28]) (h1 := mk g) rfl ?_
      obtain ⟨v5, hvv5, e⟩ := zb_bind e
      refine Wp.ca (m := 41) (d1 := d + 6) (as := [.ref 28, .ref (zm_SP + 1 + 2)]) (rest := []) (st1 := [.int (zb_i v5)]) (pc1 := 34) rfl rfl rfl rfl rfl rfl rfl rfl (mk_rok rfl rfl rfl rfl) rfl rfl rfl (w_41 (sc := sc) (d := d + 1) 2 (by decide) g hvv5) ?_
      rcases zb_if e with ⟨hc6, e⟩ | ⟨hc6, e⟩
      · skip
        refine Wp.iF (pc1 := 37) rfl (zb_eqF hc6) rfl ?_
        refine Wp.steps 1 (pc1 := 38) (lo1 := [some (.ref 28)]) (st1 := [.ref 28]) (h1 := mk g) rfl ?_
        obtain ⟨v21, g22, hvv21, e⟩ := zb_bpair e
        refine Wp.ca (m := 34) (d1 := d + 6) (as := [.ref 28]) (rest := []) (st1 := [.int (zb_i v21)]) (pc1 := 41) rfl rfl rfl rfl rfl rfl rfl rfl (mk_rok rfl rfl rfl rfl) rfl rfl rfl (w_34 (sc := sc) (d := d + 3)  g hvv21) ?_
        obtain ⟨e1, e2⟩ := zb_r2 e
        subst e1
        subst e2
        exact Wp.ret rfl rfl (zb_ok _) (K _)
      · skip
        refine Wp.iT (pc1 := 42) rfl (zb_eqT hc6) rfl ?_
        refine Wp.steps 2 (pc1 := 45) (lo1 := [some (.ref 28)]) (st1 := [.ref (zm_SP + 1 + 3), .ref 28]) (h1 := mk g) rfl ?_
        obtain ⟨v7, hvv7, e⟩ := zb_bind e
        refine Wp.ca (m := 41) (d1 := d + 6) (as := [.ref 28, .ref (zm_SP + 1 + 3)]) (rest := []) (st1 := [.int (zb_i v7)]) (pc1 := 48) rfl rfl rfl rfl rfl rfl rfl rfl (mk_rok rfl rfl rfl rfl) rfl rfl rfl (w_41 (sc := sc) (d := d + 1) 3 (by decide) g hvv7) ?_
        rcases zb_if e with ⟨hc8, e⟩ | ⟨hc8, e⟩
        · skip
          refine Wp.iF (pc1 := 51) rfl (zb_eqF hc8) rfl ?_
          refine Wp.steps 2 (pc1 := 53) (lo1 := [some (.ref 28)]) (st1 := [.int 1, .ref 28]) (h1 := mk g) rfl ?_
          obtain ⟨v19, g20, hvv19, e⟩ := zb_bpair e
          refine Wp.ca (m := 35) (d1 := d + 6) (as := [.ref 28, .int 1]) (rest := []) (st1 := [.int (zb_i v19)]) (pc1 := 56) rfl rfl rfl rfl rfl rfl rfl rfl (mk_rok rfl rfl rfl rfl) rfl rfl rfl (w_35 (sc := sc) (d := d + 3) 1 g hvv19) ?_
          obtain ⟨e1, e2⟩ := zb_r2 e
          subst e1
          subst e2
          exact Wp.ret rfl rfl (zb_ok _) (K _)
        · skip
          refine Wp.iT (pc1 := 57) rfl (zb_eqT hc8) rfl ?_
          refine Wp.steps 2 (pc1 := 60) (lo1 := [some (.ref 28)]) (st1 := [.ref (zm_SP + 1 + 4), .ref 28]) (h1 := mk g) rfl ?_
          obtain ⟨v9, hvv9, e⟩ := zb_bind e
          refine Wp.ca (m := 41) (d1 := d + 6) (as := [.ref 28, .ref (zm_SP + 1 + 4)]) (rest := []) (st1 := [.int (zb_i v9)]) (pc1 := 63) rfl rfl rfl rfl rfl rfl rfl rfl (mk_rok rfl rfl rfl rfl) rfl rfl rfl (w_41 (sc := sc) (d := d + 1) 4 (by decide) g hvv9) ?_
          rcases zb_if e with ⟨hc10, e⟩ | ⟨hc10, e⟩
          · skip
            refine Wp.iF (pc1 := 66) rfl (zb_eqF hc10) rfl ?_
            refine Wp.steps 2 (pc1 := 68) (lo1 := [some (.ref 28)]) (st1 := [.int 2, .ref 28]) (h1 := mk g) rfl ?_
            obtain ⟨v17, g18, hvv17, e⟩ := zb_bpair e
            refine Wp.ca (m := 35) (d1 := d + 6) (as := [.ref 28, .int 2]) (rest := []) (st1 := [.int (zb_i v17)]) (pc1 := 71) rfl rfl rfl rfl rfl rfl rfl rfl (mk_rok rfl rfl rfl rfl) rfl rfl rfl (w_35 (sc := sc) (d := d + 3) 2 g hvv17) ?_
            obtain ⟨e1, e2⟩ := zb_r2 e
            subst e1
            subst e2
            exact Wp.ret rfl rfl (zb_ok _) (K _)
          · skip
            refine Wp.iT (pc1 := 72) rfl (zb_eqT hc10) rfl ?_
            refine Wp.steps 2 (pc1 := 75) (lo1 := [some (.ref 28)]) (st1 := [.ref (zm_SP + 1 + 5), .ref 28]) (h1 := mk g) rfl ?_
            obtain ⟨v11, hvv11, e⟩ := zb_bind e
            refine Wp.ca (m := 41) (d1 := d + 6) (as := [.ref 28, .ref (zm_SP + 1 + 5)]) (rest := []) (st1 := [.int (zb_i v11)]) (pc1 := 78) rfl rfl rfl rfl rfl rfl rfl rfl (mk_rok rfl rfl rfl rfl) rfl rfl rfl (w_41 (sc := sc) (d := d + 1) 5 (by decide) g hvv11) ?_
            rcases zb_if e with ⟨hc12, e⟩ | ⟨hc12, e⟩
            · skip
              refine Wp.iF (pc1 := 81) rfl (zb_eqF hc12) rfl ?_
              refine Wp.steps 1 (pc1 := 82) (lo1 := [some (.ref 28)]) (st1 := [.ref 28]) (h1 := mk g) rfl ?_
              obtain ⟨v15, g16, hvv15, e⟩ := zb_bpair e
              refine Wp.ca (m := 36) (d1 := d + 6) (as := [.ref 28]) (rest := []) (st1 := [.int (zb_i v15)]) (pc1 := 85) rfl rfl rfl rfl rfl rfl rfl rfl (mk_rok rfl rfl rfl rfl) rfl rfl rfl (w_36 (sc := sc) (d := d + 3)  g hvv15) ?_
              obtain ⟨e1, e2⟩ := zb_r2 e
              subst e1
              subst e2
              exact Wp.ret rfl rfl (zb_ok _) (K _)
            · skip
              refine Wp.iT (pc1 := 86) rfl (zb_eqT hc12) rfl ?_
              refine Wp.steps 3 (pc1 := 89) (lo1 := [some (.ref 28)]) (st1 := [.ref 28, .int 2, .ref 28]) (h1 := mk g) rfl ?_
              refine Wp.gf (pc1 := 92) (v := .int (g 28 9)) rfl rfl rfl rfl rfl ?_
              obtain ⟨v13, g14, hvv13, e⟩ := zb_pair e
              refine Wp.ca (m := 44) (d1 := d + 6) (as := [.ref 28, .int 2, .int (g 28 9)]) (rest := []) (st1 := [.int (zb_i v13)]) (pc1 := 95) rfl rfl rfl rfl rfl rfl rfl rfl (mk_rok rfl rfl rfl rfl) rfl rfl rfl (w_44 (sc := sc) (d := d + 6) 2 (g 28 9) g hvv13) ?_
              obtain ⟨e1, e2⟩ := zb_r2 e
              subst e1
              subst e2
              exact Wp.ret rfl rfl (zb_ok _) (K _)
/-- EveningFirst$Family.isHour(I)Z -/
def d_19 (r0 : Nat) (x1 : Int32) (g : G) : Bool :=
  bif zm_cmp .lt x1 0 then (
    false) else
  bif zm_cmp .ge x1 (g r0 0) then (
    false) else
  true
set_option maxRecDepth 100000 in
set_option maxHeartbeats 4000000 in
theorem w_19 {sc : Option (List Int32)} {d : Nat} (r0 : Nat) (x1 : Int32) (h0 : zg_cl r0 = 2) (g : G) {r : Bool} (e : d_19 r0 x1 g = r) : zB sc (d) 19 0 (zm_ent (z_L 19) [.ref r0, .int x1]) [] (mk g) [.int (zb_i r)] (mk g) := by
  unfold d_19 at e
  intro Q K
  show Wp sc (d) 19 0 [some (.ref r0), some (.int x1)] [] (mk g) Q
  refine Wp.steps 1 (pc1 := 1) (lo1 := [some (.ref r0), some (.int x1)]) (st1 := [.int x1]) (h1 := mk g) rfl ?_
  rcases zb_if e with ⟨hc1, e⟩ | ⟨hc1, e⟩
  · skip
    refine Wp.iT (pc1 := 16) rfl hc1 rfl ?_
    refine Wp.steps 1 (pc1 := 17) (lo1 := [some (.ref r0), some (.int x1)]) (st1 := [.int 0]) (h1 := mk g) rfl ?_
    have e1 := e
    subst e1
    exact Wp.ret rfl rfl rfl (K _)
  · skip
    refine Wp.iF (pc1 := 4) rfl hc1 rfl ?_
    refine Wp.steps 2 (pc1 := 6) (lo1 := [some (.ref r0), some (.int x1)]) (st1 := [.ref r0, .int x1]) (h1 := mk g) rfl ?_
    refine Wp.gf (pc1 := 9) (v := .int (g r0 0)) rfl h0 rfl rfl rfl ?_
    rcases zb_if e with ⟨hc2, e⟩ | ⟨hc2, e⟩
    · skip
      refine Wp.cT (pc1 := 16) rfl hc2 rfl ?_
      refine Wp.steps 1 (pc1 := 17) (lo1 := [some (.ref r0), some (.int x1)]) (st1 := [.int 0]) (h1 := mk g) rfl ?_
      have e1 := e
      subst e1
      exact Wp.ret rfl rfl rfl (K _)
    · skip
      refine Wp.cF (pc1 := 12) rfl hc2 rfl ?_
      refine Wp.steps 2 (pc1 := 17) (lo1 := [some (.ref r0), some (.int x1)]) (st1 := [.int 1]) (h1 := mk g) rfl ?_
      have e1 := e
      subst e1
      exact Wp.ret rfl rfl rfl (K _)
/-- EveningFirst$Family.isOne(I)Z -/
def d_18 (r0 : Nat) (x1 : Int32) (g : G) : Bool :=
  bif zm_cmp .lt x1 0 then (
    false) else
  bif zm_cmp .ge x1 (g r0 1) then (
    false) else
  true
set_option maxRecDepth 100000 in
set_option maxHeartbeats 4000000 in
theorem w_18 {sc : Option (List Int32)} {d : Nat} (r0 : Nat) (x1 : Int32) (h0 : zg_cl r0 = 2) (g : G) {r : Bool} (e : d_18 r0 x1 g = r) : zB sc (d) 18 0 (zm_ent (z_L 18) [.ref r0, .int x1]) [] (mk g) [.int (zb_i r)] (mk g) := by
  unfold d_18 at e
  intro Q K
  show Wp sc (d) 18 0 [some (.ref r0), some (.int x1)] [] (mk g) Q
  refine Wp.steps 1 (pc1 := 1) (lo1 := [some (.ref r0), some (.int x1)]) (st1 := [.int x1]) (h1 := mk g) rfl ?_
  rcases zb_if e with ⟨hc1, e⟩ | ⟨hc1, e⟩
  · skip
    refine Wp.iT (pc1 := 16) rfl hc1 rfl ?_
    refine Wp.steps 1 (pc1 := 17) (lo1 := [some (.ref r0), some (.int x1)]) (st1 := [.int 0]) (h1 := mk g) rfl ?_
    have e1 := e
    subst e1
    exact Wp.ret rfl rfl rfl (K _)
  · skip
    refine Wp.iF (pc1 := 4) rfl hc1 rfl ?_
    refine Wp.steps 2 (pc1 := 6) (lo1 := [some (.ref r0), some (.int x1)]) (st1 := [.ref r0, .int x1]) (h1 := mk g) rfl ?_
    refine Wp.gf (pc1 := 9) (v := .int (g r0 1)) rfl h0 rfl rfl rfl ?_
    rcases zb_if e with ⟨hc2, e⟩ | ⟨hc2, e⟩
    · skip
      refine Wp.cT (pc1 := 16) rfl hc2 rfl ?_
      refine Wp.steps 1 (pc1 := 17) (lo1 := [some (.ref r0), some (.int x1)]) (st1 := [.int 0]) (h1 := mk g) rfl ?_
      have e1 := e
      subst e1
      exact Wp.ret rfl rfl rfl (K _)
    · skip
      refine Wp.cF (pc1 := 12) rfl hc2 rfl ?_
      refine Wp.steps 2 (pc1 := 17) (lo1 := [some (.ref r0), some (.int x1)]) (st1 := [.int 1]) (h1 := mk g) rfl ?_
      have e1 := e
      subst e1
      exact Wp.ret rfl rfl rfl (K _)
def d_27_2 (r0 : Nat) (g : G) : Nat → Int32 → Option Bool
  | 0, _ => none
  | f + 1, x1 =>
    bif zm_cmp .ge x1 (g r0 2) then (
      some true) else
    Option.bind (zm_ix x1 8) fun k2 =>
    zb_l (d_19 r0 (g (r0 + 8 + k2) 0) g) fun v3 =>
    bif v3 then (
      Option.bind (zm_ix x1 8) fun k5 =>
      zb_l (d_18 r0 (g (r0 + 8 + k5) 1) g) fun v6 =>
      bif v6 then (
        Option.bind (zm_ix x1 8) fun k8 =>
        zb_l (d_18 r0 (g (r0 + 8 + k8) 2) g) fun v9 =>
        bif v9 then (
          d_27_2 r0 g f (x1 + 1)) else
        some false) else
      some false) else
    some false
set_option maxRecDepth 100000 in
set_option maxHeartbeats 4000000 in
theorem w_27_2 {sc : Option (List Int32)} {d : Nat} (r0 : Nat) (h0 : zg_cl r0 = 2) (g : G) : ∀ (f : Nat) (x1 : Int32) (r : Bool), d_27_2 r0 g f x1 = some r → zB sc (d + 1) 27 2 [some (.ref r0), some (.int x1)] [] (mk g) [.int (zb_i r)] (mk g) := by
  intro f
  induction f with
  | zero =>
    intro x1 r e
    rw [d_27_2.eq_1] at e
    cases e
  | succ f ih =>
    intro x1 r e
    rw [d_27_2.eq_2] at e
    intro Q K
    refine Wp.steps 2 (pc1 := 4) (lo1 := [some (.ref r0), some (.int x1)]) (st1 := [.ref r0, .int x1]) (h1 := mk g) rfl ?_
    refine Wp.gf (pc1 := 7) (v := .int (g r0 2)) rfl h0 rfl rfl rfl ?_
    rcases zb_if e with ⟨hc1, e⟩ | ⟨hc1, e⟩
    · skip
      refine Wp.cT (pc1 := 66) rfl hc1 rfl ?_
      refine Wp.steps 1 (pc1 := 67) (lo1 := [some (.ref r0), some (.int x1)]) (st1 := [.int 1]) (h1 := mk g) rfl ?_
      have e1 := zb_r1 e
      subst e1
      exact Wp.ret rfl rfl rfl (K _)
    · skip
      refine Wp.cF (pc1 := 10) rfl hc1 rfl ?_
      refine Wp.steps 2 (pc1 := 12) (lo1 := [some (.ref r0), some (.int x1)]) (st1 := [.ref r0, .ref r0]) (h1 := mk g) rfl ?_
      refine Wp.gf (pc1 := 15) (v := .ref (r0 + 2)) rfl h0 rfl rfl rfl ?_
      refine Wp.steps 1 (pc1 := 16) (lo1 := [some (.ref r0), some (.int x1)]) (st1 := [.int x1, .ref (r0 + 2), .ref r0]) (h1 := mk g) rfl ?_
      obtain ⟨k2, hk2, e⟩ := zb_bind e
      refine Wp.aa (pc1 := 17) (v := (r0 + 8 + k2)) rfl (zg_rdeeds (b := r0) h0) rfl hk2 (by omega) rfl ?_
      refine Wp.gf (pc1 := 20) (v := .int (g (r0 + 8 + k2) 0)) rfl (zg_deed (b := r0) h0 hk2) rfl rfl rfl ?_
      obtain ⟨v3, hvv3, e⟩ := zb_let e
      refine Wp.ca (m := 19) (d1 := d) (as := [.ref r0, .int (g (r0 + 8 + k2) 0)]) (rest := []) (st1 := [.int (zb_i v3)]) (pc1 := 23) rfl rfl rfl rfl rfl rfl rfl rfl (mk_rok h0 rfl rfl rfl) rfl rfl rfl (w_19 (sc := sc) (d := d) r0 (g (r0 + 8 + k2) 0) h0 g hvv3) ?_
      rcases zb_if e with ⟨hc4, e⟩ | ⟨hc4, e⟩
      · skip
        refine Wp.iF (pc1 := 26) rfl (zb_eqF hc4) rfl ?_
        refine Wp.steps 2 (pc1 := 28) (lo1 := [some (.ref r0), some (.int x1)]) (st1 := [.ref r0, .ref r0]) (h1 := mk g) rfl ?_
        refine Wp.gf (pc1 := 31) (v := .ref (r0 + 2)) rfl h0 rfl rfl rfl ?_
        refine Wp.steps 1 (pc1 := 32) (lo1 := [some (.ref r0), some (.int x1)]) (st1 := [.int x1, .ref (r0 + 2), .ref r0]) (h1 := mk g) rfl ?_
        obtain ⟨k5, hk5, e⟩ := zb_bind e
        refine Wp.aa (pc1 := 33) (v := (r0 + 8 + k5)) rfl (zg_rdeeds (b := r0) h0) rfl hk5 (by omega) rfl ?_
        refine Wp.gf (pc1 := 36) (v := .int (g (r0 + 8 + k5) 1)) rfl (zg_deed (b := r0) h0 hk5) rfl rfl rfl ?_
        obtain ⟨v6, hvv6, e⟩ := zb_let e
        refine Wp.ca (m := 18) (d1 := d) (as := [.ref r0, .int (g (r0 + 8 + k5) 1)]) (rest := []) (st1 := [.int (zb_i v6)]) (pc1 := 39) rfl rfl rfl rfl rfl rfl rfl rfl (mk_rok h0 rfl rfl rfl) rfl rfl rfl (w_18 (sc := sc) (d := d) r0 (g (r0 + 8 + k5) 1) h0 g hvv6) ?_
        rcases zb_if e with ⟨hc7, e⟩ | ⟨hc7, e⟩
        · skip
          refine Wp.iF (pc1 := 42) rfl (zb_eqF hc7) rfl ?_
          refine Wp.steps 2 (pc1 := 44) (lo1 := [some (.ref r0), some (.int x1)]) (st1 := [.ref r0, .ref r0]) (h1 := mk g) rfl ?_
          refine Wp.gf (pc1 := 47) (v := .ref (r0 + 2)) rfl h0 rfl rfl rfl ?_
          refine Wp.steps 1 (pc1 := 48) (lo1 := [some (.ref r0), some (.int x1)]) (st1 := [.int x1, .ref (r0 + 2), .ref r0]) (h1 := mk g) rfl ?_
          obtain ⟨k8, hk8, e⟩ := zb_bind e
          refine Wp.aa (pc1 := 49) (v := (r0 + 8 + k8)) rfl (zg_rdeeds (b := r0) h0) rfl hk8 (by omega) rfl ?_
          refine Wp.gf (pc1 := 52) (v := .int (g (r0 + 8 + k8) 2)) rfl (zg_deed (b := r0) h0 hk8) rfl rfl rfl ?_
          obtain ⟨v9, hvv9, e⟩ := zb_let e
          refine Wp.ca (m := 18) (d1 := d) (as := [.ref r0, .int (g (r0 + 8 + k8) 2)]) (rest := []) (st1 := [.int (zb_i v9)]) (pc1 := 55) rfl rfl rfl rfl rfl rfl rfl rfl (mk_rok h0 rfl rfl rfl) rfl rfl rfl (w_18 (sc := sc) (d := d) r0 (g (r0 + 8 + k8) 2) h0 g hvv9) ?_
          rcases zb_if e with ⟨hc10, e⟩ | ⟨hc10, e⟩
          · skip
            refine Wp.iT (pc1 := 60) rfl (zb_neT hc10) rfl ?_
            refine Wp.steps 2 (pc1 := 2) (lo1 := [some (.ref r0), some (.int (x1 + 1))]) (st1 := []) (h1 := mk g) rfl ?_
            exact ih _ _ e Q K
          · skip
            refine Wp.iF (pc1 := 58) rfl (zb_neF hc10) rfl ?_
            refine Wp.steps 1 (pc1 := 59) (lo1 := [some (.ref r0), some (.int x1)]) (st1 := [.int 0]) (h1 := mk g) rfl ?_
            have e1 := zb_r1 e
            subst e1
            exact Wp.ret rfl rfl rfl (K _)
        · skip
          refine Wp.iT (pc1 := 58) rfl (zb_eqT hc7) rfl ?_
          refine Wp.steps 1 (pc1 := 59) (lo1 := [some (.ref r0), some (.int x1)]) (st1 := [.int 0]) (h1 := mk g) rfl ?_
          have e1 := zb_r1 e
          subst e1
          exact Wp.ret rfl rfl rfl (K _)
      · skip
        refine Wp.iT (pc1 := 58) rfl (zb_eqT hc4) rfl ?_
        refine Wp.steps 1 (pc1 := 59) (lo1 := [some (.ref r0), some (.int x1)]) (st1 := [.int 0]) (h1 := mk g) rfl ?_
        have e1 := zb_r1 e
        subst e1
        exact Wp.ret rfl rfl rfl (K _)
/-- EveningFirst$Family.isWhole()Z -/
def d_27 (r0 : Nat) (g : G) : Option Bool :=
  d_27_2 r0 g 300 0
set_option maxRecDepth 100000 in
set_option maxHeartbeats 4000000 in
theorem w_27 {sc : Option (List Int32)} {d : Nat} (r0 : Nat) (h0 : zg_cl r0 = 2) (g : G) {r : Bool} (e : d_27 r0 g = some r) : zB sc (d + 1) 27 0 (zm_ent (z_L 27) [.ref r0]) [] (mk g) [.int (zb_i r)] (mk g) := by
  unfold d_27 at e
  intro Q K
  show Wp sc (d + 1) 27 0 [some (.ref r0), none] [] (mk g) Q
  refine Wp.steps 2 (pc1 := 2) (lo1 := [some (.ref r0), some (.int 0)]) (st1 := []) (h1 := mk g) rfl ?_
  exact w_27_2 (sc := sc) (d := d) r0 h0 g 300 0 _ e Q K
