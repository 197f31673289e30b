/-! printed by wip/tools/den.py -/
/-- EveningFirstModel.readHis()I -/
def d_124 (g : G) : Option (Int32 × G) :=
  zb_bp (d_121 0 3 g) fun v1 g2 =>
  bif zm_cmp .ne (g2 113 19) 0 then (
    zb_l (zg_up g2 113 11 (g2 113 11)) fun g4 =>
    some (v1, g4)) else
  bif zm_cmp .le v1 (g2 113 11) then (
    zb_l (zg_up g2 113 11 (g2 113 11)) fun g6 =>
    some (v1, g6)) else
  zb_l (zg_up g2 113 11 v1) fun g7 =>
  some (v1, g7)
set_option maxRecDepth 100000 in
set_option maxHeartbeats 4000000 in
theorem w_124 {sc : Option (List Int32)} {d : Nat} (g : G) {r : Int32} {g' : G} (e : d_124 g = some (r, g')) : zB sc (d + 3) 124 0 (zm_ent (z_L 124) [.ref 113]) [] (mk g) [.int r] (mk g') := by
  unfold d_124 at e
  intro Q K
  show Wp sc (d + 3) 124 0 [some (.ref 113), none] [] (mk g) Q
  refine Wp.steps 3 (pc1 := 3) (lo1 := [some (.ref 113), none]) (st1 := [.int 3, .int 0, .ref 113]) (h1 := mk g) rfl ?_
  obtain ⟨v1, g2, hvv1, e⟩ := zb_bpair e
  refine Wp.ca (m := 121) (d1 := d + 2) (as := [.ref 113, .int 0, .int 3]) (rest := []) (st1 := [.int v1]) (pc1 := 6) rfl rfl rfl rfl rfl rfl rfl rfl (mk_rok rfl rfl rfl rfl) rfl rfl rfl (w_121 (sc := sc) (d := d) 0 3 g hvv1) ?_
  refine Wp.steps 3 (pc1 := 9) (lo1 := [some (.ref 113), some (.int v1)]) (st1 := [.ref 113, .ref 113]) (h1 := mk g2) rfl ?_
  refine Wp.gf (pc1 := 12) (v := .int (g2 113 19)) rfl rfl rfl rfl rfl ?_
  rcases zb_if e with ⟨hc3, e⟩ | ⟨hc3, e⟩
  · skip
    refine Wp.iT (pc1 := 27) rfl hc3 rfl ?_
    refine Wp.steps 1 (pc1 := 28) (lo1 := [some (.ref 113), some (.int v1)]) (st1 := [.ref 113, .ref 113]) (h1 := mk g2) rfl ?_
    refine Wp.gf (pc1 := 31) (v := .int (g2 113 11)) rfl rfl rfl rfl rfl ?_
    obtain ⟨g4, hg4, e⟩ := zb_let e
    refine Wp.pf (pc1 := 34) rfl rfl rfl rfl rfl rfl hg4 rfl ?_
    refine Wp.steps 1 (pc1 := 35) (lo1 := [some (.ref 113), some (.int v1)]) (st1 := [.int v1]) (h1 := mk g4) rfl ?_
    obtain ⟨e1, e2⟩ := zb_r2 e
    subst e1
    subst e2
    exact Wp.ret rfl rfl rfl (K _)
  · skip
    refine Wp.iF (pc1 := 15) rfl hc3 rfl ?_
    refine Wp.steps 2 (pc1 := 17) (lo1 := [some (.ref 113), some (.int v1)]) (st1 := [.ref 113, .int v1, .ref 113]) (h1 := mk g2) rfl ?_
    refine Wp.gf (pc1 := 20) (v := .int (g2 113 11)) rfl rfl rfl rfl rfl ?_
    rcases zb_if e with ⟨hc5, e⟩ | ⟨hc5, e⟩
    · skip
      refine Wp.cT (pc1 := 27) rfl hc5 rfl ?_
      refine Wp.steps 1 (pc1 := 28) (lo1 := [some (.ref 113), some (.int v1)]) (st1 := [.ref 113, .ref 113]) (h1 := mk g2) rfl ?_
      refine Wp.gf (pc1 := 31) (v := .int (g2 113 11)) rfl rfl rfl rfl rfl ?_
      obtain ⟨g6, hg6, e⟩ := zb_let e
      refine Wp.pf (pc1 := 34) rfl rfl rfl rfl rfl rfl hg6 rfl ?_
      refine Wp.steps 1 (pc1 := 35) (lo1 := [some (.ref 113), some (.int v1)]) (st1 := [.int v1]) (h1 := mk g6) rfl ?_
      obtain ⟨e1, e2⟩ := zb_r2 e
      subst e1
      subst e2
      exact Wp.ret rfl rfl rfl (K _)
    · skip
      refine Wp.cF (pc1 := 23) rfl hc5 rfl ?_
      refine Wp.steps 2 (pc1 := 31) (lo1 := [some (.ref 113), some (.int v1)]) (st1 := [.int v1, .ref 113]) (h1 := mk g2) rfl ?_
      obtain ⟨g7, hg7, e⟩ := zb_let e
      refine Wp.pf (pc1 := 34) rfl rfl rfl rfl rfl rfl hg7 rfl ?_
      refine Wp.steps 1 (pc1 := 35) (lo1 := [some (.ref 113), some (.int v1)]) (st1 := [.int v1]) (h1 := mk g7) rfl ?_
      obtain ⟨e1, e2⟩ := zb_r2 e
      subst e1
      subst e2
      exact Wp.ret rfl rfl rfl (K _)
def d_125_46 (x1 : Int32) (x2 : Int32) (s1 : Int32) (g : G) : Option G :=
  zb_l (zg_up g 113 10 s1) fun g4 =>
  Option.bind (zm_ix (x1 + 0) 98) fun k6 =>
  zb_l (zg_up g4 116 k6 x2) fun g5 =>
  zb_bp (d_124 g5) fun v7 g8 =>
  Option.bind (zm_ix (x1 + 1) 98) fun k10 =>
  zb_l (zg_up g8 116 k10 v7) fun g9 =>
  zb_bp (d_124 g9) fun v11 g12 =>
  Option.bind (zm_ix (x1 + 2) 98) fun k14 =>
  zb_l (zg_up g12 116 k14 v11) fun g13 =>
  zb_bp (d_121 0 5 g13) fun v15 g16 =>
  Option.bind (zm_ix (x1 + 3) 98) fun k18 =>
  zb_l (zg_up g16 116 k18 v15) fun g17 =>
  zb_bp (d_122 g17) fun v19 g20 =>
  Option.bind (zm_ix (x1 + 4) 98) fun k22 =>
  zb_l (zg_up g20 116 k22 v19) fun g21 =>
  zb_l (zg_up g21 116 8 ((g21 116 8) + 1)) fun g23 =>
  some g23
set_option maxRecDepth 100000 in
set_option maxHeartbeats 4000000 in
theorem w_125_46 {sc : Option (List Int32)} {d : Nat} (x1 : Int32) (x2 : Int32) (s1 : Int32) (g : G) (g' : G) (e : d_125_46 x1 x2 s1 g = some g') : zB sc (d + 4) 125 46 [some (.ref 113), some (.int x1), some (.int x2)] [.int s1, .ref 113] (mk g) [] (mk g') := by
  unfold d_125_46 at e
  intro Q K
  obtain ⟨g4, hg4, e⟩ := zb_let e
  refine Wp.pf (pc1 := 49) rfl rfl rfl rfl rfl rfl hg4 rfl ?_
  refine Wp.steps 1 (pc1 := 50) (lo1 := [some (.ref 113), some (.int x1), some (.int x2)]) (st1 := [.ref 113]) (h1 := mk g4) rfl ?_
  refine Wp.gf (pc1 := 53) (v := .ref 116) rfl rfl rfl rfl rfl ?_
  refine Wp.steps 4 (pc1 := 57) (lo1 := [some (.ref 113), some (.int x1), some (.int x2)]) (st1 := [.int x2, .int (x1 + 0), .ref 116]) (h1 := mk g4) rfl ?_
  obtain ⟨k6, hk6, e⟩ := zb_bind e
  obtain ⟨g5, hg5, e⟩ := zb_let e
  refine Wp.ias (pc1 := 58) rfl rfl rfl hk6 hg5 rfl ?_
  refine Wp.steps 1 (pc1 := 59) (lo1 := [some (.ref 113), some (.int x1), some (.int x2)]) (st1 := [.ref 113]) (h1 := mk g5) rfl ?_
  refine Wp.gf (pc1 := 62) (v := .ref 116) rfl rfl rfl rfl rfl ?_
  refine Wp.steps 4 (pc1 := 66) (lo1 := [some (.ref 113), some (.int x1), some (.int x2)]) (st1 := [.ref 113, .int (x1 + 1), .ref 116]) (h1 := mk g5) rfl ?_
  obtain ⟨v7, g8, hvv7, e⟩ := zb_bpair e
  refine Wp.ca (m := 124) (d1 := d + 3) (as := [.ref 113]) (rest := [.int (x1 + 1), .ref 116]) (st1 := [.int v7, .int (x1 + 1), .ref 116]) (pc1 := 69) rfl rfl rfl rfl rfl rfl rfl rfl (mk_rok rfl rfl rfl rfl) rfl rfl rfl (w_124 (sc := sc) (d := d)  g5 hvv7) ?_
  obtain ⟨k10, hk10, e⟩ := zb_bind e
  obtain ⟨g9, hg9, e⟩ := zb_let e
  refine Wp.ias (pc1 := 70) rfl rfl rfl hk10 hg9 rfl ?_
  refine Wp.steps 1 (pc1 := 71) (lo1 := [some (.ref 113), some (.int x1), some (.int x2)]) (st1 := [.ref 113]) (h1 := mk g9) rfl ?_
  refine Wp.gf (pc1 := 74) (v := .ref 116) rfl rfl rfl rfl rfl ?_
  refine Wp.steps 4 (pc1 := 78) (lo1 := [some (.ref 113), some (.int x1), some (.int x2)]) (st1 := [.ref 113, .int (x1 + 2), .ref 116]) (h1 := mk g9) rfl ?_
  obtain ⟨v11, g12, hvv11, e⟩ := zb_bpair e
  refine Wp.ca (m := 124) (d1 := d + 3) (as := [.ref 113]) (rest := [.int (x1 + 2), .ref 116]) (st1 := [.int v11, .int (x1 + 2), .ref 116]) (pc1 := 81) rfl rfl rfl rfl rfl rfl rfl rfl (mk_rok rfl rfl rfl rfl) rfl rfl rfl (w_124 (sc := sc) (d := d)  g9 hvv11) ?_
  obtain ⟨k14, hk14, e⟩ := zb_bind e
  obtain ⟨g13, hg13, e⟩ := zb_let e
  refine Wp.ias (pc1 := 82) rfl rfl rfl hk14 hg13 rfl ?_
  refine Wp.steps 1 (pc1 := 83) (lo1 := [some (.ref 113), some (.int x1), some (.int x2)]) (st1 := [.ref 113]) (h1 := mk g13) rfl ?_
  refine Wp.gf (pc1 := 86) (v := .ref 116) rfl rfl rfl rfl rfl ?_
  refine Wp.steps 6 (pc1 := 92) (lo1 := [some (.ref 113), some (.int x1), some (.int x2)]) (st1 := [.int 5, .int 0, .ref 113, .int (x1 + 3), .ref 116]) (h1 := mk g13) rfl ?_
  obtain ⟨v15, g16, hvv15, e⟩ := zb_bpair e
  refine Wp.ca (m := 121) (d1 := d + 3) (as := [.ref 113, .int 0, .int 5]) (rest := [.int (x1 + 3), .ref 116]) (st1 := [.int v15, .int (x1 + 3), .ref 116]) (pc1 := 95) rfl rfl rfl rfl rfl rfl rfl rfl (mk_rok rfl rfl rfl rfl) rfl rfl rfl (w_121 (sc := sc) (d := d + 1) 0 5 g13 hvv15) ?_
  obtain ⟨k18, hk18, e⟩ := zb_bind e
  obtain ⟨g17, hg17, e⟩ := zb_let e
  refine Wp.ias (pc1 := 96) rfl rfl rfl hk18 hg17 rfl ?_
  refine Wp.steps 1 (pc1 := 97) (lo1 := [some (.ref 113), some (.int x1), some (.int x2)]) (st1 := [.ref 113]) (h1 := mk g17) rfl ?_
  refine Wp.gf (pc1 := 100) (v := .ref 116) rfl rfl rfl rfl rfl ?_
  refine Wp.steps 4 (pc1 := 104) (lo1 := [some (.ref 113), some (.int x1), some (.int x2)]) (st1 := [.ref 113, .int (x1 + 4), .ref 116]) (h1 := mk g17) rfl ?_
  obtain ⟨v19, g20, hvv19, e⟩ := zb_bpair e
  refine Wp.ca (m := 122) (d1 := d + 3) (as := [.ref 113]) (rest := [.int (x1 + 4), .ref 116]) (st1 := [.int v19, .int (x1 + 4), .ref 116]) (pc1 := 107) rfl rfl rfl rfl rfl rfl rfl rfl (mk_rok rfl rfl rfl rfl) rfl rfl rfl (w_122 (sc := sc) (d := d + 1)  g17 hvv19) ?_
  obtain ⟨k22, hk22, e⟩ := zb_bind e
  obtain ⟨g21, hg21, e⟩ := zb_let e
  refine Wp.ias (pc1 := 108) rfl rfl rfl hk22 hg21 rfl ?_
  refine Wp.steps 1 (pc1 := 109) (lo1 := [some (.ref 113), some (.int x1), some (.int x2)]) (st1 := [.ref 113]) (h1 := mk g21) rfl ?_
  refine Wp.gf (pc1 := 112) (v := .ref 116) rfl rfl rfl rfl rfl ?_
  refine Wp.steps 2 (pc1 := 115) (lo1 := [some (.ref 113), some (.int x1), some (.int x2)]) (st1 := [.int 8, .ref 116, .int 8, .ref 116]) (h1 := mk g21) rfl ?_
  refine Wp.ia (pc1 := 116) (k := 8) rfl rfl rfl rfl rfl ?_
  refine Wp.steps 2 (pc1 := 118) (lo1 := [some (.ref 113), some (.int x1), some (.int x2)]) (st1 := [.int ((g21 116 8) + 1), .int 8, .ref 116]) (h1 := mk g21) rfl ?_
  obtain ⟨g23, hg23, e⟩ := zb_let e
  refine Wp.ias (pc1 := 119) (k := 8) rfl rfl rfl rfl hg23 rfl ?_
  have e1 := zb_r1 e
  subst e1
  exact Wp.ret rfl rfl rfl (K _)
/-- EveningFirstModel.readDeed()V -/
def d_125 (g : G) : Option G :=
  zb_bp (d_121 0 7 g) fun v1 g2 =>
  bif zm_cmp .ne (g2 113 19) 0 then (
    d_125_46 (9 + (7 * (g 116 8))) v1 (g2 113 10) g2) else
  bif zm_cmp .le v1 (g2 113 10) then (
    d_125_46 (9 + (7 * (g 116 8))) v1 (g2 113 10) g2) else
  d_125_46 (9 + (7 * (g 116 8))) v1 v1 g2
set_option maxRecDepth 100000 in
set_option maxHeartbeats 4000000 in
theorem w_125 {sc : Option (List Int32)} {d : Nat} (g : G) {g' : G} (e : d_125 g = some g') : zB sc (d + 4) 125 0 (zm_ent (z_L 125) [.ref 113]) [] (mk g) [] (mk g') := by
  unfold d_125 at e
  intro Q K
  show Wp sc (d + 4) 125 0 [some (.ref 113), none, none] [] (mk g) Q
  refine Wp.steps 3 (pc1 := 5) (lo1 := [some (.ref 113), none, none]) (st1 := [.ref 113, .int 7, .int 9]) (h1 := mk g) rfl ?_
  refine Wp.gf (pc1 := 8) (v := .ref 116) rfl rfl rfl rfl rfl ?_
  refine Wp.steps 1 (pc1 := 10) (lo1 := [some (.ref 113), none, none]) (st1 := [.int 8, .ref 116, .int 7, .int 9]) (h1 := mk g) rfl ?_
  refine Wp.ia (pc1 := 11) (k := 8) rfl rfl rfl rfl rfl ?_
  refine Wp.steps 6 (pc1 := 18) (lo1 := [some (.ref 113), some (.int (9 + (7 * (g 116 8)))), none]) (st1 := [.int 7, .int 0, .ref 113]) (h1 := mk g) rfl ?_
  obtain ⟨v1, g2, hvv1, e⟩ := zb_bpair e
  refine Wp.ca (m := 121) (d1 := d + 3) (as := [.ref 113, .int 0, .int 7]) (rest := []) (st1 := [.int v1]) (pc1 := 21) rfl rfl rfl rfl rfl rfl rfl rfl (mk_rok rfl rfl rfl rfl) rfl rfl rfl (w_121 (sc := sc) (d := d + 1) 0 7 g hvv1) ?_
  refine Wp.steps 3 (pc1 := 24) (lo1 := [some (.ref 113), some (.int (9 + (7 * (g 116 8)))), some (.int v1)]) (st1 := [.ref 113, .ref 113]) (h1 := mk g2) rfl ?_
  refine Wp.gf (pc1 := 27) (v := .int (g2 113 19)) rfl rfl rfl rfl rfl ?_
  rcases zb_if e with ⟨hc3, e⟩ | ⟨hc3, e⟩
  · skip
    refine Wp.iT (pc1 := 42) rfl hc3 rfl ?_
    refine Wp.steps 1 (pc1 := 43) (lo1 := [some (.ref 113), some (.int (9 + (7 * (g 116 8)))), some (.int v1)]) (st1 := [.ref 113, .ref 113]) (h1 := mk g2) rfl ?_
    refine Wp.gf (pc1 := 46) (v := .int (g2 113 10)) rfl rfl rfl rfl rfl ?_
    exact w_125_46 (sc := sc) (d := d) (9 + (7 * (g 116 8))) v1 (g2 113 10) g2 _ e Q K
  · skip
    refine Wp.iF (pc1 := 30) rfl hc3 rfl ?_
    refine Wp.steps 2 (pc1 := 32) (lo1 := [some (.ref 113), some (.int (9 + (7 * (g 116 8)))), some (.int v1)]) (st1 := [.ref 113, .int v1, .ref 113]) (h1 := mk g2) rfl ?_
    refine Wp.gf (pc1 := 35) (v := .int (g2 113 10)) rfl rfl rfl rfl rfl ?_
    rcases zb_if e with ⟨hc24, e⟩ | ⟨hc24, e⟩
    · skip
      refine Wp.cT (pc1 := 42) rfl hc24 rfl ?_
      refine Wp.steps 1 (pc1 := 43) (lo1 := [some (.ref 113), some (.int (9 + (7 * (g 116 8)))), some (.int v1)]) (st1 := [.ref 113, .ref 113]) (h1 := mk g2) rfl ?_
      refine Wp.gf (pc1 := 46) (v := .int (g2 113 10)) rfl rfl rfl rfl rfl ?_
      exact w_125_46 (sc := sc) (d := d) (9 + (7 * (g 116 8))) v1 (g2 113 10) g2 _ e Q K
    · skip
      refine Wp.cF (pc1 := 38) rfl hc24 rfl ?_
      refine Wp.steps 2 (pc1 := 46) (lo1 := [some (.ref 113), some (.int (9 + (7 * (g 116 8)))), some (.int v1)]) (st1 := [.int v1, .ref 113]) (h1 := mk g2) rfl ?_
      exact w_125_46 (sc := sc) (d := d) (9 + (7 * (g 116 8))) v1 v1 g2 _ e Q K
/-- EveningFirstModel.readFresh(I)I -/
def d_126 (x1 : Int32) (g : G) : Option (Int32 × G) :=
  zb_p (d_120 0 7 g) fun v1 g2 =>
  bif zm_cmp .ne (g2 113 19) 0 then (
    bif zm_cmp .ne (g2 113 19) 0 then (
      Option.bind (d_119 g2) fun g5 =>
      some (v1, g5)) else
    bif zm_cmp .le v1 (g2 113 12) then (
      zb_l (zg_up g2 113 12 (g2 113 12)) fun g7 =>
      Option.bind (d_119 g7) fun g8 =>
      some (v1, g8)) else
    zb_l (zg_up g2 113 12 v1) fun g9 =>
    Option.bind (d_119 g9) fun g10 =>
    some (v1, g10)) else
  bif zm_cmp .ne ((x1 >>> (v1 &&& 31)) &&& 1) 0 then (
    zb_l (d_113 0 4 g2) fun g12 =>
    bif zm_cmp .ne (g12 113 19) 0 then (
      Option.bind (d_119 g12) fun g14 =>
      some (v1, g14)) else
    bif zm_cmp .le v1 (g12 113 12) then (
      zb_l (zg_up g12 113 12 (g12 113 12)) fun g16 =>
      Option.bind (d_119 g16) fun g17 =>
      some (v1, g17)) else
    zb_l (zg_up g12 113 12 v1) fun g18 =>
    Option.bind (d_119 g18) fun g19 =>
    some (v1, g19)) else
  zb_l (d_113 1 4 g2) fun g20 =>
  bif zm_cmp .ne (g20 113 19) 0 then (
    Option.bind (d_119 g20) fun g22 =>
    some (v1, g22)) else
  bif zm_cmp .le v1 (g20 113 12) then (
    zb_l (zg_up g20 113 12 (g20 113 12)) fun g24 =>
    Option.bind (d_119 g24) fun g25 =>
    some (v1, g25)) else
  zb_l (zg_up g20 113 12 v1) fun g26 =>
  Option.bind (d_119 g26) fun g27 =>
  some (v1, g27)
set_option maxRecDepth 100000 in
set_option maxHeartbeats 4000000 in
theorem w_126 {sc : Option (List Int32)} {d : Nat} (x1 : Int32) (g : G) {r : Int32} {g' : G} (e : d_126 x1 g = some (r, g')) : zB sc (d + 2) 126 0 (zm_ent (z_L 126) [.ref 113, .int x1]) [] (mk g) [.int r] (mk g') := by
  unfold d_126 at e
  intro Q K
  show Wp sc (d + 2) 126 0 [some (.ref 113), some (.int x1), none] [] (mk g) Q
  refine Wp.steps 3 (pc1 := 4) (lo1 := [some (.ref 113), some (.int x1), none]) (st1 := [.int 7, .int 0, .ref 113]) (h1 := mk g) rfl ?_
  obtain ⟨v1, g2, hvv1, e⟩ := zb_pair e
  refine Wp.ca (m := 120) (d1 := d + 1) (as := [.ref 113, .int 0, .int 7]) (rest := []) (st1 := [.int v1]) (pc1 := 7) rfl rfl rfl rfl rfl rfl rfl rfl (mk_rok rfl rfl rfl rfl) rfl rfl rfl (w_120 (sc := sc) (d := d) 0 7 g hvv1) ?_
  refine Wp.steps 2 (pc1 := 9) (lo1 := [some (.ref 113), some (.int x1), some (.int v1)]) (st1 := [.ref 113]) (h1 := mk g2) rfl ?_
  refine Wp.gf (pc1 := 12) (v := .int (g2 113 19)) rfl rfl rfl rfl rfl ?_
  rcases zb_if e with ⟨hc3, e⟩ | ⟨hc3, e⟩
  · skip
    refine Wp.iT (pc1 := 33) rfl hc3 rfl ?_
    refine Wp.steps 1 (pc1 := 34) (lo1 := [some (.ref 113), some (.int x1), some (.int v1)]) (st1 := [.ref 113]) (h1 := mk g2) rfl ?_
    refine Wp.gf (pc1 := 37) (v := .int (g2 113 19)) rfl rfl rfl rfl rfl ?_
    rcases zb_if e with ⟨hc4, e⟩ | ⟨hc4, e⟩
    · skip
      refine Wp.iT (pc1 := 60) rfl hc4 rfl ?_
      refine Wp.steps 1 (pc1 := 61) (lo1 := [some (.ref 113), some (.int x1), some (.int v1)]) (st1 := [.ref 113]) (h1 := mk g2) rfl ?_
      obtain ⟨g5, hvg5, e⟩ := zb_bind e
      refine Wp.ca (m := 119) (d1 := d + 1) (as := [.ref 113]) (rest := []) (st1 := []) (pc1 := 64) rfl rfl rfl rfl rfl rfl rfl rfl (mk_rok rfl rfl rfl rfl) rfl rfl rfl (w_119 (sc := sc) (d := d)  g2 hvg5) ?_
      refine Wp.steps 1 (pc1 := 65) (lo1 := [some (.ref 113), some (.int x1), some (.int v1)]) (st1 := [.int v1]) (h1 := mk g5) rfl ?_
      obtain ⟨e1, e2⟩ := zb_r2 e
      subst e1
      subst e2
      exact Wp.ret rfl rfl rfl (K _)
    · skip
      refine Wp.iF (pc1 := 40) rfl hc4 rfl ?_
      refine Wp.steps 3 (pc1 := 43) (lo1 := [some (.ref 113), some (.int x1), some (.int v1)]) (st1 := [.ref 113, .int v1, .ref 113]) (h1 := mk g2) rfl ?_
      refine Wp.gf (pc1 := 46) (v := .int (g2 113 12)) rfl rfl rfl rfl rfl ?_
      rcases zb_if e with ⟨hc6, e⟩ | ⟨hc6, e⟩
      · skip
        refine Wp.cT (pc1 := 53) rfl hc6 rfl ?_
        refine Wp.steps 1 (pc1 := 54) (lo1 := [some (.ref 113), some (.int x1), some (.int v1)]) (st1 := [.ref 113, .ref 113]) (h1 := mk g2) rfl ?_
        refine Wp.gf (pc1 := 57) (v := .int (g2 113 12)) rfl rfl rfl rfl rfl ?_
        obtain ⟨g7, hg7, e⟩ := zb_let e
        refine Wp.pf (pc1 := 60) rfl rfl rfl rfl rfl rfl hg7 rfl ?_
        refine Wp.steps 1 (pc1 := 61) (lo1 := [some (.ref 113), some (.int x1), some (.int v1)]) (st1 := [.ref 113]) (h1 := mk g7) rfl ?_
        obtain ⟨g8, hvg8, e⟩ := zb_bind e
        refine Wp.ca (m := 119) (d1 := d + 1) (as := [.ref 113]) (rest := []) (st1 := []) (pc1 := 64) rfl rfl rfl rfl rfl rfl rfl rfl (mk_rok rfl rfl rfl rfl) rfl rfl rfl (w_119 (sc := sc) (d := d)  g7 hvg8) ?_
        refine Wp.steps 1 (pc1 := 65) (lo1 := [some (.ref 113), some (.int x1), some (.int v1)]) (st1 := [.int v1]) (h1 := mk g8) rfl ?_
        obtain ⟨e1, e2⟩ := zb_r2 e
        subst e1
        subst e2
        exact Wp.ret rfl rfl rfl (K _)
      · skip
        refine Wp.cF (pc1 := 49) rfl hc6 rfl ?_
        refine Wp.steps 2 (pc1 := 57) (lo1 := [some (.ref 113), some (.int x1), some (.int v1)]) (st1 := [.int v1, .ref 113]) (h1 := mk g2) rfl ?_
        obtain ⟨g9, hg9, e⟩ := zb_let e
        refine Wp.pf (pc1 := 60) rfl rfl rfl rfl rfl rfl hg9 rfl ?_
        refine Wp.steps 1 (pc1 := 61) (lo1 := [some (.ref 113), some (.int x1), some (.int v1)]) (st1 := [.ref 113]) (h1 := mk g9) rfl ?_
        obtain ⟨g10, hvg10, e⟩ := zb_bind e
        refine Wp.ca (m := 119) (d1 := d + 1) (as := [.ref 113]) (rest := []) (st1 := []) (pc1 := 64) rfl rfl rfl rfl rfl rfl rfl rfl (mk_rok rfl rfl rfl rfl) rfl rfl rfl (w_119 (sc := sc) (d := d)  g9 hvg10) ?_
        refine Wp.steps 1 (pc1 := 65) (lo1 := [some (.ref 113), some (.int x1), some (.int v1)]) (st1 := [.int v1]) (h1 := mk g10) rfl ?_
        obtain ⟨e1, e2⟩ := zb_r2 e
        subst e1
        subst e2
        exact Wp.ret rfl rfl rfl (K _)
  · skip
    refine Wp.iF (pc1 := 15) rfl hc3 rfl ?_
    refine Wp.steps 6 (pc1 := 21) (lo1 := [some (.ref 113), some (.int x1), some (.int v1)]) (st1 := [.int ((x1 >>> (v1 &&& 31)) &&& 1), .ref 113]) (h1 := mk g2) rfl ?_
    rcases zb_if e with ⟨hc11, e⟩ | ⟨hc11, e⟩
    · skip
      refine Wp.iT (pc1 := 28) rfl hc11 rfl ?_
      refine Wp.steps 2 (pc1 := 30) (lo1 := [some (.ref 113), some (.int x1), some (.int v1)]) (st1 := [.int 4, .int 0, .ref 113]) (h1 := mk g2) rfl ?_
      obtain ⟨g12, hvg12, e⟩ := zb_let e
      refine Wp.ca (m := 113) (d1 := d + 1) (as := [.ref 113, .int 0, .int 4]) (rest := []) (st1 := []) (pc1 := 33) rfl rfl rfl rfl rfl rfl rfl rfl (mk_rok rfl rfl rfl rfl) rfl rfl rfl (w_113 (sc := sc) (d := d + 1) 0 4 g2 hvg12) ?_
      refine Wp.steps 1 (pc1 := 34) (lo1 := [some (.ref 113), some (.int x1), some (.int v1)]) (st1 := [.ref 113]) (h1 := mk g12) rfl ?_
      refine Wp.gf (pc1 := 37) (v := .int (g12 113 19)) rfl rfl rfl rfl rfl ?_
      rcases zb_if e with ⟨hc13, e⟩ | ⟨hc13, e⟩
      · skip
        refine Wp.iT (pc1 := 60) rfl hc13 rfl ?_
        refine Wp.steps 1 (pc1 := 61) (lo1 := [some (.ref 113), some (.int x1), some (.int v1)]) (st1 := [.ref 113]) (h1 := mk g12) rfl ?_
        obtain ⟨g14, hvg14, e⟩ := zb_bind e
        refine Wp.ca (m := 119) (d1 := d + 1) (as := [.ref 113]) (rest := []) (st1 := []) (pc1 := 64) rfl rfl rfl rfl rfl rfl rfl rfl (mk_rok rfl rfl rfl rfl) rfl rfl rfl (w_119 (sc := sc) (d := d)  g12 hvg14) ?_
        refine Wp.steps 1 (pc1 := 65) (lo1 := [some (.ref 113), some (.int x1), some (.int v1)]) (st1 := [.int v1]) (h1 := mk g14) rfl ?_
        obtain ⟨e1, e2⟩ := zb_r2 e
        subst e1
        subst e2
        exact Wp.ret rfl rfl rfl (K _)
      · skip
        refine Wp.iF (pc1 := 40) rfl hc13 rfl ?_
        refine Wp.steps 3 (pc1 := 43) (lo1 := [some (.ref 113), some (.int x1), some (.int v1)]) (st1 := [.ref 113, .int v1, .ref 113]) (h1 := mk g12) rfl ?_
        refine Wp.gf (pc1 := 46) (v := .int (g12 113 12)) rfl rfl rfl rfl rfl ?_
        rcases zb_if e with ⟨hc15, e⟩ | ⟨hc15, e⟩
        · skip
          refine Wp.cT (pc1 := 53) rfl hc15 rfl ?_
          refine Wp.steps 1 (pc1 := 54) (lo1 := [some (.ref 113), some (.int x1), some (.int v1)]) (st1 := [.ref 113, .ref 113]) (h1 := mk g12) rfl ?_
          refine Wp.gf (pc1 := 57) (v := .int (g12 113 12)) rfl rfl rfl rfl rfl ?_
          obtain ⟨g16, hg16, e⟩ := zb_let e
          refine Wp.pf (pc1 := 60) rfl rfl rfl rfl rfl rfl hg16 rfl ?_
          refine Wp.steps 1 (pc1 := 61) (lo1 := [some (.ref 113), some (.int x1), some (.int v1)]) (st1 := [.ref 113]) (h1 := mk g16) rfl ?_
          obtain ⟨g17, hvg17, e⟩ := zb_bind e
          refine Wp.ca (m := 119) (d1 := d + 1) (as := [.ref 113]) (rest := []) (st1 := []) (pc1 := 64) rfl rfl rfl rfl rfl rfl rfl rfl (mk_rok rfl rfl rfl rfl) rfl rfl rfl (w_119 (sc := sc) (d := d)  g16 hvg17) ?_
          refine Wp.steps 1 (pc1 := 65) (lo1 := [some (.ref 113), some (.int x1), some (.int v1)]) (st1 := [.int v1]) (h1 := mk g17) rfl ?_
          obtain ⟨e1, e2⟩ := zb_r2 e
          subst e1
          subst e2
          exact Wp.ret rfl rfl rfl (K _)
        · skip
          refine Wp.cF (pc1 := 49) rfl hc15 rfl ?_
          refine Wp.steps 2 (pc1 := 57) (lo1 := [some (.ref 113), some (.int x1), some (.int v1)]) (st1 := [.int v1, .ref 113]) (h1 := mk g12) rfl ?_
          obtain ⟨g18, hg18, e⟩ := zb_let e
          refine Wp.pf (pc1 := 60) rfl rfl rfl rfl rfl rfl hg18 rfl ?_
          refine Wp.steps 1 (pc1 := 61) (lo1 := [some (.ref 113), some (.int x1), some (.int v1)]) (st1 := [.ref 113]) (h1 := mk g18) rfl ?_
          obtain ⟨g19, hvg19, e⟩ := zb_bind e
          refine Wp.ca (m := 119) (d1 := d + 1) (as := [.ref 113]) (rest := []) (st1 := []) (pc1 := 64) rfl rfl rfl rfl rfl rfl rfl rfl (mk_rok rfl rfl rfl rfl) rfl rfl rfl (w_119 (sc := sc) (d := d)  g18 hvg19) ?_
          refine Wp.steps 1 (pc1 := 65) (lo1 := [some (.ref 113), some (.int x1), some (.int v1)]) (st1 := [.int v1]) (h1 := mk g19) rfl ?_
          obtain ⟨e1, e2⟩ := zb_r2 e
          subst e1
          subst e2
          exact Wp.ret rfl rfl rfl (K _)
    · skip
      refine Wp.iF (pc1 := 24) rfl hc11 rfl ?_
      refine Wp.steps 3 (pc1 := 30) (lo1 := [some (.ref 113), some (.int x1), some (.int v1)]) (st1 := [.int 4, .int 1, .ref 113]) (h1 := mk g2) rfl ?_
      obtain ⟨g20, hvg20, e⟩ := zb_let e
      refine Wp.ca (m := 113) (d1 := d + 1) (as := [.ref 113, .int 1, .int 4]) (rest := []) (st1 := []) (pc1 := 33) rfl rfl rfl rfl rfl rfl rfl rfl (mk_rok rfl rfl rfl rfl) rfl rfl rfl (w_113 (sc := sc) (d := d + 1) 1 4 g2 hvg20) ?_
      refine Wp.steps 1 (pc1 := 34) (lo1 := [some (.ref 113), some (.int x1), some (.int v1)]) (st1 := [.ref 113]) (h1 := mk g20) rfl ?_
      refine Wp.gf (pc1 := 37) (v := .int (g20 113 19)) rfl rfl rfl rfl rfl ?_
      rcases zb_if e with ⟨hc21, e⟩ | ⟨hc21, e⟩
      · skip
        refine Wp.iT (pc1 := 60) rfl hc21 rfl ?_
        refine Wp.steps 1 (pc1 := 61) (lo1 := [some (.ref 113), some (.int x1), some (.int v1)]) (st1 := [.ref 113]) (h1 := mk g20) rfl ?_
        obtain ⟨g22, hvg22, e⟩ := zb_bind e
        refine Wp.ca (m := 119) (d1 := d + 1) (as := [.ref 113]) (rest := []) (st1 := []) (pc1 := 64) rfl rfl rfl rfl rfl rfl rfl rfl (mk_rok rfl rfl rfl rfl) rfl rfl rfl (w_119 (sc := sc) (d := d)  g20 hvg22) ?_
        refine Wp.steps 1 (pc1 := 65) (lo1 := [some (.ref 113), some (.int x1), some (.int v1)]) (st1 := [.int v1]) (h1 := mk g22) rfl ?_
        obtain ⟨e1, e2⟩ := zb_r2 e
        subst e1
        subst e2
        exact Wp.ret rfl rfl rfl (K _)
      · skip
        refine Wp.iF (pc1 := 40) rfl hc21 rfl ?_
        refine Wp.steps 3 (pc1 := 43) (lo1 := [some (.ref 113), some (.int x1), some (.int v1)]) (st1 := [.ref 113, .int v1, .ref 113]) (h1 := mk g20) rfl ?_
        refine Wp.gf (pc1 := 46) (v := .int (g20 113 12)) rfl rfl rfl rfl rfl ?_
        rcases zb_if e with ⟨hc23, e⟩ | ⟨hc23, e⟩
        · skip
          refine Wp.cT (pc1 := 53) rfl hc23 rfl ?_
          refine Wp.steps 1 (pc1 := 54) (lo1 := [some (.ref 113), some (.int x1), some (.int v1)]) (st1 := [.ref 113, .ref 113]) (h1 := mk g20) rfl ?_
          refine Wp.gf (pc1 := 57) (v := .int (g20 113 12)) rfl rfl rfl rfl rfl ?_
          obtain ⟨g24, hg24, e⟩ := zb_let e
          refine Wp.pf (pc1 := 60) rfl rfl rfl rfl rfl rfl hg24 rfl ?_
          refine Wp.steps 1 (pc1 := 61) (lo1 := [some (.ref 113), some (.int x1), some (.int v1)]) (st1 := [.ref 113]) (h1 := mk g24) rfl ?_
          obtain ⟨g25, hvg25, e⟩ := zb_bind e
          refine Wp.ca (m := 119) (d1 := d + 1) (as := [.ref 113]) (rest := []) (st1 := []) (pc1 := 64) rfl rfl rfl rfl rfl rfl rfl rfl (mk_rok rfl rfl rfl rfl) rfl rfl rfl (w_119 (sc := sc) (d := d)  g24 hvg25) ?_
          refine Wp.steps 1 (pc1 := 65) (lo1 := [some (.ref 113), some (.int x1), some (.int v1)]) (st1 := [.int v1]) (h1 := mk g25) rfl ?_
          obtain ⟨e1, e2⟩ := zb_r2 e
          subst e1
          subst e2
          exact Wp.ret rfl rfl rfl (K _)
        · skip
          refine Wp.cF (pc1 := 49) rfl hc23 rfl ?_
          refine Wp.steps 2 (pc1 := 57) (lo1 := [some (.ref 113), some (.int x1), some (.int v1)]) (st1 := [.int v1, .ref 113]) (h1 := mk g20) rfl ?_
          obtain ⟨g26, hg26, e⟩ := zb_let e
          refine Wp.pf (pc1 := 60) rfl rfl rfl rfl rfl rfl hg26 rfl ?_
          refine Wp.steps 1 (pc1 := 61) (lo1 := [some (.ref 113), some (.int x1), some (.int v1)]) (st1 := [.ref 113]) (h1 := mk g26) rfl ?_
          obtain ⟨g27, hvg27, e⟩ := zb_bind e
          refine Wp.ca (m := 119) (d1 := d + 1) (as := [.ref 113]) (rest := []) (st1 := []) (pc1 := 64) rfl rfl rfl rfl rfl rfl rfl rfl (mk_rok rfl rfl rfl rfl) rfl rfl rfl (w_119 (sc := sc) (d := d)  g26 hvg27) ?_
          refine Wp.steps 1 (pc1 := 65) (lo1 := [some (.ref 113), some (.int x1), some (.int v1)]) (st1 := [.int v1]) (h1 := mk g27) rfl ?_
          obtain ⟨e1, e2⟩ := zb_r2 e
          subst e1
          subst e2
          exact Wp.ret rfl rfl rfl (K _)
/-- EveningFirstModel.readLineOf(I)V -/
def d_127 (x1 : Int32) (g : G) : Option G :=
  bif x1 == 0 then (
    zb_bp (d_121 2 8 g) fun v2 g3 =>
    zb_l (zg_up g3 113 5 v2) fun g4 =>
    some g4) else
  bif x1 == 1 then (
    Option.bind (d_123 g) fun g6 =>
    some g6) else
  bif x1 == 2 then (
    Option.bind (d_125 g) fun g8 =>
    some g8) else
  bif x1 == 3 then (
    zb_bp (d_126 (g 113 8) g) fun v10 g11 =>
    zb_l (zg_up g11 113 8 ((g11 113 8) ||| ((1 : Int32) <<< (v10 &&& 31)))) fun g12 =>
    bif zm_cmp .ne x1 3 then (
      Option.bind (zm_ix ((9 + (7 * v10)) + 5) 98) fun k15 =>
      zb_l (zg_up g12 116 k15 2) fun g14 =>
      some g14) else
    Option.bind (zm_ix ((9 + (7 * v10)) + 5) 98) fun k17 =>
    zb_l (zg_up g12 116 k17 1) fun g16 =>
    some g16) else
  bif x1 == 4 then (
    zb_bp (d_126 (g 113 8) g) fun v19 g20 =>
    zb_l (zg_up g20 113 8 ((g20 113 8) ||| ((1 : Int32) <<< (v19 &&& 31)))) fun g21 =>
    bif zm_cmp .ne x1 3 then (
      Option.bind (zm_ix ((9 + (7 * v19)) + 5) 98) fun k24 =>
      zb_l (zg_up g21 116 k24 2) fun g23 =>
      some g23) else
    Option.bind (zm_ix ((9 + (7 * v19)) + 5) 98) fun k26 =>
    zb_l (zg_up g21 116 k26 1) fun g25 =>
    some g25) else
  bif x1 == 5 then (
    zb_bp (d_126 (g 113 9) g) fun v28 g29 =>
    zb_l (zg_up g29 113 9 ((g29 113 9) ||| ((1 : Int32) <<< (v28 &&& 31)))) fun g30 =>
    zb_bp (d_121 0 10 g30) fun v31 g32 =>
    Option.bind (zm_ix ((9 + (7 * v28)) + 6) 98) fun k34 =>
    zb_l (zg_up g32 116 k34 v31) fun g33 =>
    some g33) else
  zb_bp (d_126 (g 113 8) g) fun v35 g36 =>
  zb_l (zg_up g36 113 8 ((g36 113 8) ||| ((1 : Int32) <<< (v35 &&& 31)))) fun g37 =>
  bif zm_cmp .ne x1 3 then (
    Option.bind (zm_ix ((9 + (7 * v35)) + 5) 98) fun k40 =>
    zb_l (zg_up g37 116 k40 2) fun g39 =>
    some g39) else
  Option.bind (zm_ix ((9 + (7 * v35)) + 5) 98) fun k42 =>
  zb_l (zg_up g37 116 k42 1) fun g41 =>
  some g41
set_option maxRecDepth 100000 in
set_option maxHeartbeats 4000000 in
theorem w_127 {sc : Option (List Int32)} {d : Nat} (x1 : Int32) (g : G) {g' : G} (e : d_127 x1 g = some g') : zB sc (d + 5) 127 0 (zm_ent (z_L 127) [.ref 113, .int x1]) [] (mk g) [] (mk g') := by
  unfold d_127 at e
  intro Q K
  show Wp sc (d + 5) 127 0 [some (.ref 113), some (.int x1), none] [] (mk g) Q
  refine Wp.steps 1 (pc1 := 1) (lo1 := [some (.ref 113), some (.int x1), none]) (st1 := [.int x1]) (h1 := mk g) rfl ?_
  rcases zb_if e with ⟨hc1, e⟩ | ⟨hc1, e⟩
  · skip
    refine Wp.swT (pc1 := 40) (w := 0) rfl hc1 rfl ?_
    refine Wp.steps 4 (pc1 := 45) (lo1 := [some (.ref 113), some (.int x1), none]) (st1 := [.int 8, .int 2, .ref 113, .ref 113]) (h1 := mk g) rfl ?_
    obtain ⟨v2, g3, hvv2, e⟩ := zb_bpair e
    refine Wp.ca (m := 121) (d1 := d + 4) (as := [.ref 113, .int 2, .int 8]) (rest := [.ref 113]) (st1 := [.int v2, .ref 113]) (pc1 := 48) rfl rfl rfl rfl rfl rfl rfl rfl (mk_rok rfl rfl rfl rfl) rfl rfl rfl (w_121 (sc := sc) (d := d + 2) 2 8 g hvv2) ?_
    obtain ⟨g4, hg4, e⟩ := zb_let e
    refine Wp.pf (pc1 := 51) rfl rfl rfl rfl rfl rfl hg4 rfl ?_
    refine Wp.steps 1 (pc1 := 159) (lo1 := [some (.ref 113), some (.int x1), none]) (st1 := []) (h1 := mk g4) rfl ?_
    have e1 := zb_r1 e
    subst e1
    exact Wp.ret rfl rfl rfl (K _)
  · skip
    rcases zb_if e with ⟨hc5, e⟩ | ⟨hc5, e⟩
    · skip
      refine Wp.swT (pc1 := 54) (w := 1) rfl hc5 rfl ?_
      refine Wp.steps 1 (pc1 := 55) (lo1 := [some (.ref 113), some (.int x1), none]) (st1 := [.ref 113]) (h1 := mk g) rfl ?_
      obtain ⟨g6, hvg6, e⟩ := zb_bind e
      refine Wp.ca (m := 123) (d1 := d + 4) (as := [.ref 113]) (rest := []) (st1 := []) (pc1 := 58) rfl rfl rfl rfl rfl rfl rfl rfl (mk_rok rfl rfl rfl rfl) rfl rfl rfl (w_123 (sc := sc) (d := d + 1)  g hvg6) ?_
      refine Wp.steps 1 (pc1 := 159) (lo1 := [some (.ref 113), some (.int x1), none]) (st1 := []) (h1 := mk g6) rfl ?_
      have e1 := zb_r1 e
      subst e1
      exact Wp.ret rfl rfl rfl (K _)
    · skip
      rcases zb_if e with ⟨hc7, e⟩ | ⟨hc7, e⟩
      · skip
        refine Wp.swT (pc1 := 61) (w := 2) rfl hc7 rfl ?_
        refine Wp.steps 1 (pc1 := 62) (lo1 := [some (.ref 113), some (.int x1), none]) (st1 := [.ref 113]) (h1 := mk g) rfl ?_
        obtain ⟨g8, hvg8, e⟩ := zb_bind e
        refine Wp.ca (m := 125) (d1 := d + 4) (as := [.ref 113]) (rest := []) (st1 := []) (pc1 := 65) rfl rfl rfl rfl rfl rfl rfl rfl (mk_rok rfl rfl rfl rfl) rfl rfl rfl (w_125 (sc := sc) (d := d)  g hvg8) ?_
        refine Wp.steps 1 (pc1 := 159) (lo1 := [some (.ref 113), some (.int x1), none]) (st1 := []) (h1 := mk g8) rfl ?_
        have e1 := zb_r1 e
        subst e1
        exact Wp.ret rfl rfl rfl (K _)
      · skip
        rcases zb_if e with ⟨hc9, e⟩ | ⟨hc9, e⟩
        · skip
          refine Wp.swT (pc1 := 114) (w := 3) rfl hc9 rfl ?_
          refine Wp.steps 2 (pc1 := 116) (lo1 := [some (.ref 113), some (.int x1), none]) (st1 := [.ref 113, .ref 113]) (h1 := mk g) rfl ?_
          refine Wp.gf (pc1 := 119) (v := .int (g 113 8)) rfl rfl rfl rfl rfl ?_
          obtain ⟨v10, g11, hvv10, e⟩ := zb_bpair e
          refine Wp.ca (m := 126) (d1 := d + 4) (as := [.ref 113, .int (g 113 8)]) (rest := []) (st1 := [.int v10]) (pc1 := 122) rfl rfl rfl rfl rfl rfl rfl rfl (mk_rok rfl rfl rfl rfl) rfl rfl rfl (w_126 (sc := sc) (d := d + 2) (g 113 8) g hvv10) ?_
          refine Wp.steps 3 (pc1 := 125) (lo1 := [some (.ref 113), some (.int x1), some (.int v10)]) (st1 := [.ref 113, .ref 113]) (h1 := mk g11) rfl ?_
          refine Wp.gf (pc1 := 128) (v := .int (g11 113 8)) rfl rfl rfl rfl rfl ?_
          refine Wp.steps 4 (pc1 := 132) (lo1 := [some (.ref 113), some (.int x1), some (.int v10)]) (st1 := [.int ((g11 113 8) ||| ((1 : Int32) <<< (v10 &&& 31))), .ref 113]) (h1 := mk g11) rfl ?_
          obtain ⟨g12, hg12, e⟩ := zb_let e
          refine Wp.pf (pc1 := 135) rfl rfl rfl rfl rfl rfl hg12 rfl ?_
          refine Wp.steps 1 (pc1 := 136) (lo1 := [some (.ref 113), some (.int x1), some (.int v10)]) (st1 := [.ref 113]) (h1 := mk g12) rfl ?_
          refine Wp.gf (pc1 := 139) (v := .ref 116) rfl rfl rfl rfl rfl ?_
          refine Wp.steps 8 (pc1 := 149) (lo1 := [some (.ref 113), some (.int x1), some (.int v10)]) (st1 := [.int x1, .int ((9 + (7 * v10)) + 5), .ref 116]) (h1 := mk g12) rfl ?_
          refine Wp.steps 1 (pc1 := 150) (lo1 := [some (.ref 113), some (.int x1), some (.int v10)]) (st1 := [.int 3, .int x1, .int ((9 + (7 * v10)) + 5), .ref 116]) (h1 := mk g12) rfl ?_
          rcases zb_if e with ⟨hc13, e⟩ | ⟨hc13, e⟩
          · skip
            refine Wp.cT (pc1 := 157) rfl hc13 rfl ?_
            refine Wp.steps 1 (pc1 := 158) (lo1 := [some (.ref 113), some (.int x1), some (.int v10)]) (st1 := [.int 2, .int ((9 + (7 * v10)) + 5), .ref 116]) (h1 := mk g12) rfl ?_
            obtain ⟨k15, hk15, e⟩ := zb_bind e
            obtain ⟨g14, hg14, e⟩ := zb_let e
            refine Wp.ias (pc1 := 159) rfl rfl rfl hk15 hg14 rfl ?_
            have e1 := zb_r1 e
            subst e1
            exact Wp.ret rfl rfl rfl (K _)
          · skip
            refine Wp.cF (pc1 := 153) rfl hc13 rfl ?_
            refine Wp.steps 2 (pc1 := 158) (lo1 := [some (.ref 113), some (.int x1), some (.int v10)]) (st1 := [.int 1, .int ((9 + (7 * v10)) + 5), .ref 116]) (h1 := mk g12) rfl ?_
            obtain ⟨k17, hk17, e⟩ := zb_bind e
            obtain ⟨g16, hg16, e⟩ := zb_let e
            refine Wp.ias (pc1 := 159) rfl rfl rfl hk17 hg16 rfl ?_
            have e1 := zb_r1 e
            subst e1
            exact Wp.ret rfl rfl rfl (K _)
        · skip
          rcases zb_if e with ⟨hc18, e⟩ | ⟨hc18, e⟩
          · skip
            refine Wp.swT (pc1 := 114) (w := 4) rfl hc18 rfl ?_
            refine Wp.steps 2 (pc1 := 116) (lo1 := [some (.ref 113), some (.int x1), none]) (st1 := [.ref 113, .ref 113]) (h1 := mk g) rfl ?_
            refine Wp.gf (pc1 := 119) (v := .int (g 113 8)) rfl rfl rfl rfl rfl ?_
            obtain ⟨v19, g20, hvv19, e⟩ := zb_bpair e
            refine Wp.ca (m := 126) (d1 := d + 4) (as := [.ref 113, .int (g 113 8)]) (rest := []) (st1 := [.int v19]) (pc1 := 122) rfl rfl rfl rfl rfl rfl rfl rfl (mk_rok rfl rfl rfl rfl) rfl rfl rfl (w_126 (sc := sc) (d := d + 2) (g 113 8) g hvv19) ?_
            refine Wp.steps 3 (pc1 := 125) (lo1 := [some (.ref 113), some (.int x1), some (.int v19)]) (st1 := [.ref 113, .ref 113]) (h1 := mk g20) rfl ?_
            refine Wp.gf (pc1 := 128) (v := .int (g20 113 8)) rfl rfl rfl rfl rfl ?_
            refine Wp.steps 4 (pc1 := 132) (lo1 := [some (.ref 113), some (.int x1), some (.int v19)]) (st1 := [.int ((g20 113 8) ||| ((1 : Int32) <<< (v19 &&& 31))), .ref 113]) (h1 := mk g20) rfl ?_
            obtain ⟨g21, hg21, e⟩ := zb_let e
            refine Wp.pf (pc1 := 135) rfl rfl rfl rfl rfl rfl hg21 rfl ?_
            refine Wp.steps 1 (pc1 := 136) (lo1 := [some (.ref 113), some (.int x1), some (.int v19)]) (st1 := [.ref 113]) (h1 := mk g21) rfl ?_
            refine Wp.gf (pc1 := 139) (v := .ref 116) rfl rfl rfl rfl rfl ?_
            refine Wp.steps 8 (pc1 := 149) (lo1 := [some (.ref 113), some (.int x1), some (.int v19)]) (st1 := [.int x1, .int ((9 + (7 * v19)) + 5), .ref 116]) (h1 := mk g21) rfl ?_
            refine Wp.steps 1 (pc1 := 150) (lo1 := [some (.ref 113), some (.int x1), some (.int v19)]) (st1 := [.int 3, .int x1, .int ((9 + (7 * v19)) + 5), .ref 116]) (h1 := mk g21) rfl ?_
            rcases zb_if e with ⟨hc22, e⟩ | ⟨hc22, e⟩
            · skip
              refine Wp.cT (pc1 := 157) rfl hc22 rfl ?_
              refine Wp.steps 1 (pc1 := 158) (lo1 := [some (.ref 113), some (.int x1), some (.int v19)]) (st1 := [.int 2, .int ((9 + (7 * v19)) + 5), .ref 116]) (h1 := mk g21) rfl ?_
              obtain ⟨k24, hk24, e⟩ := zb_bind e
              obtain ⟨g23, hg23, e⟩ := zb_let e
              refine Wp.ias (pc1 := 159) rfl rfl rfl hk24 hg23 rfl ?_
              have e1 := zb_r1 e
              subst e1
              exact Wp.ret rfl rfl rfl (K _)
            · skip
              refine Wp.cF (pc1 := 153) rfl hc22 rfl ?_
              refine Wp.steps 2 (pc1 := 158) (lo1 := [some (.ref 113), some (.int x1), some (.int v19)]) (st1 := [.int 1, .int ((9 + (7 * v19)) + 5), .ref 116]) (h1 := mk g21) rfl ?_
              obtain ⟨k26, hk26, e⟩ := zb_bind e
              obtain ⟨g25, hg25, e⟩ := zb_let e
              refine Wp.ias (pc1 := 159) rfl rfl rfl hk26 hg25 rfl ?_
              have e1 := zb_r1 e
              subst e1
              exact Wp.ret rfl rfl rfl (K _)
          · skip
            rcases zb_if e with ⟨hc27, e⟩ | ⟨hc27, e⟩
            · skip
              refine Wp.swT (pc1 := 68) (w := 5) rfl hc27 rfl ?_
              refine Wp.steps 2 (pc1 := 70) (lo1 := [some (.ref 113), some (.int x1), none]) (st1 := [.ref 113, .ref 113]) (h1 := mk g) rfl ?_
              refine Wp.gf (pc1 := 73) (v := .int (g 113 9)) rfl rfl rfl rfl rfl ?_
              obtain ⟨v28, g29, hvv28, e⟩ := zb_bpair e
              refine Wp.ca (m := 126) (d1 := d + 4) (as := [.ref 113, .int (g 113 9)]) (rest := []) (st1 := [.int v28]) (pc1 := 76) rfl rfl rfl rfl rfl rfl rfl rfl (mk_rok rfl rfl rfl rfl) rfl rfl rfl (w_126 (sc := sc) (d := d + 2) (g 113 9) g hvv28) ?_
              refine Wp.steps 3 (pc1 := 79) (lo1 := [some (.ref 113), some (.int x1), some (.int v28)]) (st1 := [.ref 113, .ref 113]) (h1 := mk g29) rfl ?_
              refine Wp.gf (pc1 := 82) (v := .int (g29 113 9)) rfl rfl rfl rfl rfl ?_
              refine Wp.steps 4 (pc1 := 86) (lo1 := [some (.ref 113), some (.int x1), some (.int v28)]) (st1 := [.int ((g29 113 9) ||| ((1 : Int32) <<< (v28 &&& 31))), .ref 113]) (h1 := mk g29) rfl ?_
              obtain ⟨g30, hg30, e⟩ := zb_let e
              refine Wp.pf (pc1 := 89) rfl rfl rfl rfl rfl rfl hg30 rfl ?_
              refine Wp.steps 1 (pc1 := 90) (lo1 := [some (.ref 113), some (.int x1), some (.int v28)]) (st1 := [.ref 113]) (h1 := mk g30) rfl ?_
              refine Wp.gf (pc1 := 93) (v := .ref 116) rfl rfl rfl rfl rfl ?_
              refine Wp.steps 8 (pc1 := 104) (lo1 := [some (.ref 113), some (.int x1), some (.int v28)]) (st1 := [.ref 113, .int ((9 + (7 * v28)) + 6), .ref 116]) (h1 := mk g30) rfl ?_
              refine Wp.steps 2 (pc1 := 107) (lo1 := [some (.ref 113), some (.int x1), some (.int v28)]) (st1 := [.int 10, .int 0, .ref 113, .int ((9 + (7 * v28)) + 6), .ref 116]) (h1 := mk g30) rfl ?_
              obtain ⟨v31, g32, hvv31, e⟩ := zb_bpair e
              refine Wp.ca (m := 121) (d1 := d + 4) (as := [.ref 113, .int 0, .int 10]) (rest := [.int ((9 + (7 * v28)) + 6), .ref 116]) (st1 := [.int v31, .int ((9 + (7 * v28)) + 6), .ref 116]) (pc1 := 110) rfl rfl rfl rfl rfl rfl rfl rfl (mk_rok rfl rfl rfl rfl) rfl rfl rfl (w_121 (sc := sc) (d := d + 2) 0 10 g30 hvv31) ?_
              obtain ⟨k34, hk34, e⟩ := zb_bind e
              obtain ⟨g33, hg33, e⟩ := zb_let e
              refine Wp.ias (pc1 := 111) rfl rfl rfl hk34 hg33 rfl ?_
              refine Wp.steps 1 (pc1 := 159) (lo1 := [some (.ref 113), some (.int x1), some (.int v28)]) (st1 := []) (h1 := mk g33) rfl ?_
              have e1 := zb_r1 e
              subst e1
              exact Wp.ret rfl rfl rfl (K _)
            · skip
              refine Wp.swD (pc1 := 114) [0, 1, 2, 3, 4, 5] rfl (by simp only [List.all_cons, List.all_nil, hc1, hc5, hc7, hc9, hc18, hc27, Bool.not_false, Bool.and_true]) (by decide) rfl ?_
              refine Wp.steps 2 (pc1 := 116) (lo1 := [some (.ref 113), some (.int x1), none]) (st1 := [.ref 113, .ref 113]) (h1 := mk g) rfl ?_
              refine Wp.gf (pc1 := 119) (v := .int (g 113 8)) rfl rfl rfl rfl rfl ?_
              obtain ⟨v35, g36, hvv35, e⟩ := zb_bpair e
              refine Wp.ca (m := 126) (d1 := d + 4) (as := [.ref 113, .int (g 113 8)]) (rest := []) (st1 := [.int v35]) (pc1 := 122) rfl rfl rfl rfl rfl rfl rfl rfl (mk_rok rfl rfl rfl rfl) rfl rfl rfl (w_126 (sc := sc) (d := d + 2) (g 113 8) g hvv35) ?_
              refine Wp.steps 3 (pc1 := 125) (lo1 := [some (.ref 113), some (.int x1), some (.int v35)]) (st1 := [.ref 113, .ref 113]) (h1 := mk g36) rfl ?_
              refine Wp.gf (pc1 := 128) (v := .int (g36 113 8)) rfl rfl rfl rfl rfl ?_
              refine Wp.steps 4 (pc1 := 132) (lo1 := [some (.ref 113), some (.int x1), some (.int v35)]) (st1 := [.int ((g36 113 8) ||| ((1 : Int32) <<< (v35 &&& 31))), .ref 113]) (h1 := mk g36) rfl ?_
              obtain ⟨g37, hg37, e⟩ := zb_let e
              refine Wp.pf (pc1 := 135) rfl rfl rfl rfl rfl rfl hg37 rfl ?_
              refine Wp.steps 1 (pc1 := 136) (lo1 := [some (.ref 113), some (.int x1), some (.int v35)]) (st1 := [.ref 113]) (h1 := mk g37) rfl ?_
              refine Wp.gf (pc1 := 139) (v := .ref 116) rfl rfl rfl rfl rfl ?_
              refine Wp.steps 8 (pc1 := 149) (lo1 := [some (.ref 113), some (.int x1), some (.int v35)]) (st1 := [.int x1, .int ((9 + (7 * v35)) + 5), .ref 116]) (h1 := mk g37) rfl ?_
              refine Wp.steps 1 (pc1 := 150) (lo1 := [some (.ref 113), some (.int x1), some (.int v35)]) (st1 := [.int 3, .int x1, .int ((9 + (7 * v35)) + 5), .ref 116]) (h1 := mk g37) rfl ?_
              rcases zb_if e with ⟨hc38, e⟩ | ⟨hc38, e⟩
              · skip
                refine Wp.cT (pc1 := 157) rfl hc38 rfl ?_
                refine Wp.steps 1 (pc1 := 158) (lo1 := [some (.ref 113), some (.int x1), some (.int v35)]) (st1 := [.int 2, .int ((9 + (7 * v35)) + 5), .ref 116]) (h1 := mk g37) rfl ?_
                obtain ⟨k40, hk40, e⟩ := zb_bind e
                obtain ⟨g39, hg39, e⟩ := zb_let e
                refine Wp.ias (pc1 := 159) rfl rfl rfl hk40 hg39 rfl ?_
                have e1 := zb_r1 e
                subst e1
                exact Wp.ret rfl rfl rfl (K _)
              · skip
                refine Wp.cF (pc1 := 153) rfl hc38 rfl ?_
                refine Wp.steps 2 (pc1 := 158) (lo1 := [some (.ref 113), some (.int x1), some (.int v35)]) (st1 := [.int 1, .int ((9 + (7 * v35)) + 5), .ref 116]) (h1 := mk g37) rfl ?_
                obtain ⟨k42, hk42, e⟩ := zb_bind e
                obtain ⟨g41, hg41, e⟩ := zb_let e
                refine Wp.ias (pc1 := 159) rfl rfl rfl hk42 hg41 rfl ?_
                have e1 := zb_r1 e
                subst e1
                exact Wp.ret rfl rfl rfl (K _)
