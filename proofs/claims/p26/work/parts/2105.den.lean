/-! printed by wip/tools/den.py -/
/-- EveningFirstModel.looked(II)I -/
def d_120 (x1 : Int32) (x2 : Int32) (g : G) : Int32 × G :=
  bif zm_cmp .ne (g 113 19) 0 then (
    bif zm_cmp .ne (g 113 19) 0 then (
      bif zm_cmp .ne (g 113 19) 0 then (
        (0, g)) else
      ((g 113 18), g)) else
    zb_l (d_107 (Int32.toInt64 (g 113 18)) (Int32.toInt64 x1) (Int32.toInt64 x2)) fun v4 =>
    zb_l (d_113 (zb_i v4) 3 g) fun g5 =>
    bif zm_cmp .ne (g5 113 19) 0 then (
      (0, g5)) else
    ((g5 113 18), g5)) else
  bif zm_cmp .ne (g 113 17) 2 then (
    zb_l (d_113 0 2 g) fun g8 =>
    bif zm_cmp .ne (g8 113 19) 0 then (
      bif zm_cmp .ne (g8 113 19) 0 then (
        (0, g8)) else
      ((g8 113 18), g8)) else
    zb_l (d_107 (Int32.toInt64 (g8 113 18)) (Int32.toInt64 x1) (Int32.toInt64 x2)) fun v11 =>
    zb_l (d_113 (zb_i v11) 3 g8) fun g12 =>
    bif zm_cmp .ne (g12 113 19) 0 then (
      (0, g12)) else
    ((g12 113 18), g12)) else
  zb_l (d_113 1 2 g) fun g14 =>
  bif zm_cmp .ne (g14 113 19) 0 then (
    bif zm_cmp .ne (g14 113 19) 0 then (
      (0, g14)) else
    ((g14 113 18), g14)) else
  zb_l (d_107 (Int32.toInt64 (g14 113 18)) (Int32.toInt64 x1) (Int32.toInt64 x2)) fun v17 =>
  zb_l (d_113 (zb_i v17) 3 g14) fun g18 =>
  bif zm_cmp .ne (g18 113 19) 0 then (
    (0, g18)) else
  ((g18 113 18), g18)
set_option maxRecDepth 100000 in
set_option maxHeartbeats 4000000 in
theorem w_120 {sc : Option (List Int32)} {d : Nat} (x1 : Int32) (x2 : Int32) (g : G) {r : Int32} {g' : G} (e : d_120 x1 x2 g = (r, g')) : zB sc (d + 1) 120 0 (zm_ent (z_L 120) [.ref 113, .int x1, .int x2]) [] (mk g) [.int r] (mk g') := by
  unfold d_120 at e
  intro Q K
  show Wp sc (d + 1) 120 0 [some (.ref 113), some (.int x1), some (.int x2)] [] (mk g) Q
  refine Wp.steps 1 (pc1 := 1) (lo1 := [some (.ref 113), some (.int x1), some (.int x2)]) (st1 := [.ref 113]) (h1 := mk g) rfl ?_
  refine Wp.gf (pc1 := 4) (v := .int (g 113 19)) rfl rfl rfl rfl rfl ?_
  rcases zb_if e with ⟨hc1, e⟩ | ⟨hc1, e⟩
  · skip
    refine Wp.iT (pc1 := 25) rfl hc1 rfl ?_
    refine Wp.steps 1 (pc1 := 26) (lo1 := [some (.ref 113), some (.int x1), some (.int x2)]) (st1 := [.ref 113]) (h1 := mk g) rfl ?_
    refine Wp.gf (pc1 := 29) (v := .int (g 113 19)) rfl rfl rfl rfl rfl ?_
    rcases zb_if e with ⟨hc2, e⟩ | ⟨hc2, e⟩
    · skip
      refine Wp.iT (pc1 := 49) rfl hc2 rfl ?_
      refine Wp.steps 1 (pc1 := 50) (lo1 := [some (.ref 113), some (.int x1), some (.int x2)]) (st1 := [.ref 113]) (h1 := mk g) rfl ?_
      refine Wp.gf (pc1 := 53) (v := .int (g 113 19)) rfl rfl rfl rfl rfl ?_
      rcases zb_if e with ⟨hc3, e⟩ | ⟨hc3, e⟩
      · skip
        refine Wp.iT (pc1 := 63) rfl hc3 rfl ?_
        refine Wp.steps 1 (pc1 := 64) (lo1 := [some (.ref 113), some (.int x1), some (.int x2)]) (st1 := [.int 0]) (h1 := mk g) rfl ?_
        obtain ⟨e1, e2⟩ := zb_q2 e
        subst e1
        subst e2
        exact Wp.ret rfl rfl rfl (K _)
      · skip
        refine Wp.iF (pc1 := 56) rfl hc3 rfl ?_
        refine Wp.steps 1 (pc1 := 57) (lo1 := [some (.ref 113), some (.int x1), some (.int x2)]) (st1 := [.ref 113]) (h1 := mk g) rfl ?_
        refine Wp.gf (pc1 := 60) (v := .int (g 113 18)) rfl rfl rfl rfl rfl ?_
        refine Wp.steps 1 (pc1 := 64) (lo1 := [some (.ref 113), some (.int x1), some (.int x2)]) (st1 := [.int (g 113 18)]) (h1 := mk g) rfl ?_
        obtain ⟨e1, e2⟩ := zb_q2 e
        subst e1
        subst e2
        exact Wp.ret rfl rfl rfl (K _)
    · skip
      refine Wp.iF (pc1 := 32) rfl hc2 rfl ?_
      refine Wp.steps 2 (pc1 := 34) (lo1 := [some (.ref 113), some (.int x1), some (.int x2)]) (st1 := [.ref 113, .ref 113]) (h1 := mk g) rfl ?_
      refine Wp.gf (pc1 := 37) (v := .int (g 113 18)) rfl rfl rfl rfl rfl ?_
      refine Wp.steps 5 (pc1 := 42) (lo1 := [some (.ref 113), some (.int x1), some (.int x2)]) (st1 := [.long (Int32.toInt64 x2), .long (Int32.toInt64 x1), .long (Int32.toInt64 (g 113 18)), .ref 113]) (h1 := mk g) rfl ?_
      obtain ⟨v4, hvv4, e⟩ := zb_let e
      refine Wp.ca (m := 107) (d1 := d) (as := [.long (Int32.toInt64 (g 113 18)), .long (Int32.toInt64 x1), .long (Int32.toInt64 x2)]) (rest := [.ref 113]) (st1 := [.int (zb_i v4), .ref 113]) (pc1 := 45) rfl rfl rfl rfl rfl rfl rfl rfl rfl rfl rfl rfl (w_107 (sc := sc) (d := d) (Int32.toInt64 (g 113 18)) (Int32.toInt64 x1) (Int32.toInt64 x2) g hvv4) ?_
      refine Wp.steps 1 (pc1 := 46) (lo1 := [some (.ref 113), some (.int x1), some (.int x2)]) (st1 := [.int 3, .int (zb_i v4), .ref 113]) (h1 := mk g) rfl ?_
      obtain ⟨g5, hvg5, e⟩ := zb_let e
      refine Wp.ca (m := 113) (d1 := d) (as := [.ref 113, .int (zb_i v4), .int 3]) (rest := []) (st1 := []) (pc1 := 49) rfl rfl rfl rfl rfl rfl rfl rfl (mk_rok rfl rfl rfl rfl) rfl rfl rfl (w_113 (sc := sc) (d := d) (zb_i v4) 3 g hvg5) ?_
      refine Wp.steps 1 (pc1 := 50) (lo1 := [some (.ref 113), some (.int x1), some (.int x2)]) (st1 := [.ref 113]) (h1 := mk g5) rfl ?_
      refine Wp.gf (pc1 := 53) (v := .int (g5 113 19)) rfl rfl rfl rfl rfl ?_
      rcases zb_if e with ⟨hc6, e⟩ | ⟨hc6, e⟩
      · skip
        refine Wp.iT (pc1 := 63) rfl hc6 rfl ?_
        refine Wp.steps 1 (pc1 := 64) (lo1 := [some (.ref 113), some (.int x1), some (.int x2)]) (st1 := [.int 0]) (h1 := mk g5) rfl ?_
        obtain ⟨e1, e2⟩ := zb_q2 e
        subst e1
        subst e2
        exact Wp.ret rfl rfl rfl (K _)
      · skip
        refine Wp.iF (pc1 := 56) rfl hc6 rfl ?_
        refine Wp.steps 1 (pc1 := 57) (lo1 := [some (.ref 113), some (.int x1), some (.int x2)]) (st1 := [.ref 113]) (h1 := mk g5) rfl ?_
        refine Wp.gf (pc1 := 60) (v := .int (g5 113 18)) rfl rfl rfl rfl rfl ?_
        refine Wp.steps 1 (pc1 := 64) (lo1 := [some (.ref 113), some (.int x1), some (.int x2)]) (st1 := [.int (g5 113 18)]) (h1 := mk g5) rfl ?_
        obtain ⟨e1, e2⟩ := zb_q2 e
        subst e1
        subst e2
        exact Wp.ret rfl rfl rfl (K _)
  · skip
    refine Wp.iF (pc1 := 7) rfl hc1 rfl ?_
    refine Wp.steps 2 (pc1 := 9) (lo1 := [some (.ref 113), some (.int x1), some (.int x2)]) (st1 := [.ref 113, .ref 113]) (h1 := mk g) rfl ?_
    refine Wp.gf (pc1 := 12) (v := .int (g 113 17)) rfl rfl rfl rfl rfl ?_
    refine Wp.steps 1 (pc1 := 13) (lo1 := [some (.ref 113), some (.int x1), some (.int x2)]) (st1 := [.int 2, .int (g 113 17), .ref 113]) (h1 := mk g) rfl ?_
    rcases zb_if e with ⟨hc7, e⟩ | ⟨hc7, e⟩
    · skip
      refine Wp.cT (pc1 := 20) rfl hc7 rfl ?_
      refine Wp.steps 2 (pc1 := 22) (lo1 := [some (.ref 113), some (.int x1), some (.int x2)]) (st1 := [.int 2, .int 0, .ref 113]) (h1 := mk g) rfl ?_
      obtain ⟨g8, hvg8, e⟩ := zb_let e
      refine Wp.ca (m := 113) (d1 := d) (as := [.ref 113, .int 0, .int 2]) (rest := []) (st1 := []) (pc1 := 25) rfl rfl rfl rfl rfl rfl rfl rfl (mk_rok rfl rfl rfl rfl) rfl rfl rfl (w_113 (sc := sc) (d := d) 0 2 g hvg8) ?_
      refine Wp.steps 1 (pc1 := 26) (lo1 := [some (.ref 113), some (.int x1), some (.int x2)]) (st1 := [.ref 113]) (h1 := mk g8) rfl ?_
      refine Wp.gf (pc1 := 29) (v := .int (g8 113 19)) rfl rfl rfl rfl rfl ?_
      rcases zb_if e with ⟨hc9, e⟩ | ⟨hc9, e⟩
      · skip
        refine Wp.iT (pc1 := 49) rfl hc9 rfl ?_
        refine Wp.steps 1 (pc1 := 50) (lo1 := [some (.ref 113), some (.int x1), some (.int x2)]) (st1 := [.ref 113]) (h1 := mk g8) rfl ?_
        refine Wp.gf (pc1 := 53) (v := .int (g8 113 19)) rfl rfl rfl rfl rfl ?_
        rcases zb_if e with ⟨hc10, e⟩ | ⟨hc10, e⟩
        · skip
          refine Wp.iT (pc1 := 63) rfl hc10 rfl ?_
          refine Wp.steps 1 (pc1 := 64) (lo1 := [some (.ref 113), some (.int x1), some (.int x2)]) (st1 := [.int 0]) (h1 := mk g8) rfl ?_
          obtain ⟨e1, e2⟩ := zb_q2 e
          subst e1
          subst e2
          exact Wp.ret rfl rfl rfl (K _)
        · skip
          refine Wp.iF (pc1 := 56) rfl hc10 rfl ?_
          refine Wp.steps 1 (pc1 := 57) (lo1 := [some (.ref 113), some (.int x1), some (.int x2)]) (st1 := [.ref 113]) (h1 := mk g8) rfl ?_
          refine Wp.gf (pc1 := 60) (v := .int (g8 113 18)) rfl rfl rfl rfl rfl ?_
          refine Wp.steps 1 (pc1 := 64) (lo1 := [some (.ref 113), some (.int x1), some (.int x2)]) (st1 := [.int (g8 113 18)]) (h1 := mk g8) rfl ?_
          obtain ⟨e1, e2⟩ := zb_q2 e
          subst e1
          subst e2
          exact Wp.ret rfl rfl rfl (K _)
      · skip
        refine Wp.iF (pc1 := 32) rfl hc9 rfl ?_
        refine Wp.steps 2 (pc1 := 34) (lo1 := [some (.ref 113), some (.int x1), some (.int x2)]) (st1 := [.ref 113, .ref 113]) (h1 := mk g8) rfl ?_
        refine Wp.gf (pc1 := 37) (v := .int (g8 113 18)) rfl rfl rfl rfl rfl ?_
        refine Wp.steps 5 (pc1 := 42) (lo1 := [some (.ref 113), some (.int x1), some (.int x2)]) (st1 := [.long (Int32.toInt64 x2), .long (Int32.toInt64 x1), .long (Int32.toInt64 (g8 113 18)), .ref 113]) (h1 := mk g8) rfl ?_
        obtain ⟨v11, hvv11, e⟩ := zb_let e
        refine Wp.ca (m := 107) (d1 := d) (as := [.long (Int32.toInt64 (g8 113 18)), .long (Int32.toInt64 x1), .long (Int32.toInt64 x2)]) (rest := [.ref 113]) (st1 := [.int (zb_i v11), .ref 113]) (pc1 := 45) rfl rfl rfl rfl rfl rfl rfl rfl rfl rfl rfl rfl (w_107 (sc := sc) (d := d) (Int32.toInt64 (g8 113 18)) (Int32.toInt64 x1) (Int32.toInt64 x2) g8 hvv11) ?_
        refine Wp.steps 1 (pc1 := 46) (lo1 := [some (.ref 113), some (.int x1), some (.int x2)]) (st1 := [.int 3, .int (zb_i v11), .ref 113]) (h1 := mk g8) rfl ?_
        obtain ⟨g12, hvg12, e⟩ := zb_let e
        refine Wp.ca (m := 113) (d1 := d) (as := [.ref 113, .int (zb_i v11), .int 3]) (rest := []) (st1 := []) (pc1 := 49) rfl rfl rfl rfl rfl rfl rfl rfl (mk_rok rfl rfl rfl rfl) rfl rfl rfl (w_113 (sc := sc) (d := d) (zb_i v11) 3 g8 hvg12) ?_
        refine Wp.steps 1 (pc1 := 50) (lo1 := [some (.ref 113), some (.int x1), some (.int x2)]) (st1 := [.ref 113]) (h1 := mk g12) rfl ?_
        refine Wp.gf (pc1 := 53) (v := .int (g12 113 19)) rfl rfl rfl rfl rfl ?_
        rcases zb_if e with ⟨hc13, e⟩ | ⟨hc13, e⟩
        · skip
          refine Wp.iT (pc1 := 63) rfl hc13 rfl ?_
          refine Wp.steps 1 (pc1 := 64) (lo1 := [some (.ref 113), some (.int x1), some (.int x2)]) (st1 := [.int 0]) (h1 := mk g12) rfl ?_
          obtain ⟨e1, e2⟩ := zb_q2 e
          subst e1
          subst e2
          exact Wp.ret rfl rfl rfl (K _)
        · skip
          refine Wp.iF (pc1 := 56) rfl hc13 rfl ?_
          refine Wp.steps 1 (pc1 := 57) (lo1 := [some (.ref 113), some (.int x1), some (.int x2)]) (st1 := [.ref 113]) (h1 := mk g12) rfl ?_
          refine Wp.gf (pc1 := 60) (v := .int (g12 113 18)) rfl rfl rfl rfl rfl ?_
          refine Wp.steps 1 (pc1 := 64) (lo1 := [some (.ref 113), some (.int x1), some (.int x2)]) (st1 := [.int (g12 113 18)]) (h1 := mk g12) rfl ?_
          obtain ⟨e1, e2⟩ := zb_q2 e
          subst e1
          subst e2
          exact Wp.ret rfl rfl rfl (K _)
    · skip
      refine Wp.cF (pc1 := 16) rfl hc7 rfl ?_
      refine Wp.steps 3 (pc1 := 22) (lo1 := [some (.ref 113), some (.int x1), some (.int x2)]) (st1 := [.int 2, .int 1, .ref 113]) (h1 := mk g) rfl ?_
      obtain ⟨g14, hvg14, e⟩ := zb_let e
      refine Wp.ca (m := 113) (d1 := d) (as := [.ref 113, .int 1, .int 2]) (rest := []) (st1 := []) (pc1 := 25) rfl rfl rfl rfl rfl rfl rfl rfl (mk_rok rfl rfl rfl rfl) rfl rfl rfl (w_113 (sc := sc) (d := d) 1 2 g hvg14) ?_
      refine Wp.steps 1 (pc1 := 26) (lo1 := [some (.ref 113), some (.int x1), some (.int x2)]) (st1 := [.ref 113]) (h1 := mk g14) rfl ?_
      refine Wp.gf (pc1 := 29) (v := .int (g14 113 19)) rfl rfl rfl rfl rfl ?_
      rcases zb_if e with ⟨hc15, e⟩ | ⟨hc15, e⟩
      · skip
        refine Wp.iT (pc1 := 49) rfl hc15 rfl ?_
        refine Wp.steps 1 (pc1 := 50) (lo1 := [some (.ref 113), some (.int x1), some (.int x2)]) (st1 := [.ref 113]) (h1 := mk g14) rfl ?_
        refine Wp.gf (pc1 := 53) (v := .int (g14 113 19)) rfl rfl rfl rfl rfl ?_
        rcases zb_if e with ⟨hc16, e⟩ | ⟨hc16, e⟩
        · skip
          refine Wp.iT (pc1 := 63) rfl hc16 rfl ?_
          refine Wp.steps 1 (pc1 := 64) (lo1 := [some (.ref 113), some (.int x1), some (.int x2)]) (st1 := [.int 0]) (h1 := mk g14) rfl ?_
          obtain ⟨e1, e2⟩ := zb_q2 e
          subst e1
          subst e2
          exact Wp.ret rfl rfl rfl (K _)
        · skip
          refine Wp.iF (pc1 := 56) rfl hc16 rfl ?_
          refine Wp.steps 1 (pc1 := 57) (lo1 := [some (.ref 113), some (.int x1), some (.int x2)]) (st1 := [.ref 113]) (h1 := mk g14) rfl ?_
          refine Wp.gf (pc1 := 60) (v := .int (g14 113 18)) rfl rfl rfl rfl rfl ?_
          refine Wp.steps 1 (pc1 := 64) (lo1 := [some (.ref 113), some (.int x1), some (.int x2)]) (st1 := [.int (g14 113 18)]) (h1 := mk g14) rfl ?_
          obtain ⟨e1, e2⟩ := zb_q2 e
          subst e1
          subst e2
          exact Wp.ret rfl rfl rfl (K _)
      · skip
        refine Wp.iF (pc1 := 32) rfl hc15 rfl ?_
        refine Wp.steps 2 (pc1 := 34) (lo1 := [some (.ref 113), some (.int x1), some (.int x2)]) (st1 := [.ref 113, .ref 113]) (h1 := mk g14) rfl ?_
        refine Wp.gf (pc1 := 37) (v := .int (g14 113 18)) rfl rfl rfl rfl rfl ?_
        refine Wp.steps 5 (pc1 := 42) (lo1 := [some (.ref 113), some (.int x1), some (.int x2)]) (st1 := [.long (Int32.toInt64 x2), .long (Int32.toInt64 x1), .long (Int32.toInt64 (g14 113 18)), .ref 113]) (h1 := mk g14) rfl ?_
        obtain ⟨v17, hvv17, e⟩ := zb_let e
        refine Wp.ca (m := 107) (d1 := d) (as := [.long (Int32.toInt64 (g14 113 18)), .long (Int32.toInt64 x1), .long (Int32.toInt64 x2)]) (rest := [.ref 113]) (st1 := [.int (zb_i v17), .ref 113]) (pc1 := 45) rfl rfl rfl rfl rfl rfl rfl rfl rfl rfl rfl rfl (w_107 (sc := sc) (d := d) (Int32.toInt64 (g14 113 18)) (Int32.toInt64 x1) (Int32.toInt64 x2) g14 hvv17) ?_
        refine Wp.steps 1 (pc1 := 46) (lo1 := [some (.ref 113), some (.int x1), some (.int x2)]) (st1 := [.int 3, .int (zb_i v17), .ref 113]) (h1 := mk g14) rfl ?_
        obtain ⟨g18, hvg18, e⟩ := zb_let e
        refine Wp.ca (m := 113) (d1 := d) (as := [.ref 113, .int (zb_i v17), .int 3]) (rest := []) (st1 := []) (pc1 := 49) rfl rfl rfl rfl rfl rfl rfl rfl (mk_rok rfl rfl rfl rfl) rfl rfl rfl (w_113 (sc := sc) (d := d) (zb_i v17) 3 g14 hvg18) ?_
        refine Wp.steps 1 (pc1 := 50) (lo1 := [some (.ref 113), some (.int x1), some (.int x2)]) (st1 := [.ref 113]) (h1 := mk g18) rfl ?_
        refine Wp.gf (pc1 := 53) (v := .int (g18 113 19)) rfl rfl rfl rfl rfl ?_
        rcases zb_if e with ⟨hc19, e⟩ | ⟨hc19, e⟩
        · skip
          refine Wp.iT (pc1 := 63) rfl hc19 rfl ?_
          refine Wp.steps 1 (pc1 := 64) (lo1 := [some (.ref 113), some (.int x1), some (.int x2)]) (st1 := [.int 0]) (h1 := mk g18) rfl ?_
          obtain ⟨e1, e2⟩ := zb_q2 e
          subst e1
          subst e2
          exact Wp.ret rfl rfl rfl (K _)
        · skip
          refine Wp.iF (pc1 := 56) rfl hc19 rfl ?_
          refine Wp.steps 1 (pc1 := 57) (lo1 := [some (.ref 113), some (.int x1), some (.int x2)]) (st1 := [.ref 113]) (h1 := mk g18) rfl ?_
          refine Wp.gf (pc1 := 60) (v := .int (g18 113 18)) rfl rfl rfl rfl rfl ?_
          refine Wp.steps 1 (pc1 := 64) (lo1 := [some (.ref 113), some (.int x1), some (.int x2)]) (st1 := [.int (g18 113 18)]) (h1 := mk g18) rfl ?_
          obtain ⟨e1, e2⟩ := zb_q2 e
          subst e1
          subst e2
          exact Wp.ret rfl rfl rfl (K _)
/-- EveningFirstModel.readNumber(II)I -/
def d_121 (x1 : Int32) (x2 : Int32) (g : G) : Option (Int32 × G) :=
  zb_p (d_120 x1 x2 g) fun v1 g2 =>
  Option.bind (d_119 g2) fun g3 =>
  some (v1, g3)
set_option maxRecDepth 100000 in
set_option maxHeartbeats 4000000 in
theorem w_121 {sc : Option (List Int32)} {d : Nat} (x1 : Int32) (x2 : Int32) (g : G) {r : Int32} {g' : G} (e : d_121 x1 x2 g = some (r, g')) : zB sc (d + 2) 121 0 (zm_ent (z_L 121) [.ref 113, .int x1, .int x2]) [] (mk g) [.int r] (mk g') := by
  unfold d_121 at e
  intro Q K
  show Wp sc (d + 2) 121 0 [some (.ref 113), some (.int x1), some (.int x2), none] [] (mk g) Q
  refine Wp.steps 3 (pc1 := 3) (lo1 := [some (.ref 113), some (.int x1), some (.int x2), none]) (st1 := [.int x2, .int x1, .ref 113]) (h1 := mk g) rfl ?_
  obtain ⟨v1, g2, hvv1, e⟩ := zb_pair e
  refine Wp.ca (m := 120) (d1 := d + 1) (as := [.ref 113, .int x1, .int x2]) (rest := []) (st1 := [.int v1]) (pc1 := 6) rfl rfl rfl rfl rfl rfl rfl rfl (mk_rok rfl rfl rfl rfl) rfl rfl rfl (w_120 (sc := sc) (d := d) x1 x2 g hvv1) ?_
  refine Wp.steps 2 (pc1 := 8) (lo1 := [some (.ref 113), some (.int x1), some (.int x2), some (.int v1)]) (st1 := [.ref 113]) (h1 := mk g2) rfl ?_
  obtain ⟨g3, hvg3, e⟩ := zb_bind e
  refine Wp.ca (m := 119) (d1 := d + 1) (as := [.ref 113]) (rest := []) (st1 := []) (pc1 := 11) rfl rfl rfl rfl rfl rfl rfl rfl (mk_rok rfl rfl rfl rfl) rfl rfl rfl (w_119 (sc := sc) (d := d)  g2 hvg3) ?_
  refine Wp.steps 1 (pc1 := 12) (lo1 := [some (.ref 113), some (.int x1), some (.int x2), some (.int v1)]) (st1 := [.int v1]) (h1 := mk g3) rfl ?_
  obtain ⟨e1, e2⟩ := zb_r2 e
  subst e1
  subst e2
  exact Wp.ret rfl rfl rfl (K _)
def d_118_27 (g : G) : Option Int32 :=
  Option.bind (d_115 4 98 97 99 g) fun v3 =>
  bif v3 then (
    Option.bind (d_116 107 0 g) fun v9 =>
    bif v9 then (
      some 1) else
    Option.bind (d_115 5 111 116 104 g) fun v11 =>
    bif v11 then (
      Option.bind (d_116 101 114 g) fun v13 =>
      bif v13 then (
        some 2) else
      some (-4)) else
    some (-4)) else
  Option.bind (d_115 5 111 116 104 g) fun v5 =>
  bif v5 then (
    Option.bind (d_116 101 114 g) fun v7 =>
    bif v7 then (
      some 2) else
    some (-4)) else
  some (-4)
set_option maxRecDepth 100000 in
set_option maxHeartbeats 4000000 in
theorem w_118_27 {sc : Option (List Int32)} {d : Nat} (g : G) (r : Int32) (e : d_118_27 g = some r) : zB sc (d + 2) 118 27 [some (.ref 113)] [] (mk g) [.int r] (mk g) := by
  unfold d_118_27 at e
  intro Q K
  refine Wp.steps 5 (pc1 := 35) (lo1 := [some (.ref 113)]) (st1 := [.int 99, .int 97, .int 98, .int 4, .ref 113]) (h1 := mk g) rfl ?_
  obtain ⟨v3, hvv3, e⟩ := zb_bind e
  refine Wp.ca (m := 115) (d1 := d + 1) (as := [.ref 113, .int 4, .int 98, .int 97, .int 99]) (rest := []) (st1 := [.int (zb_i v3)]) (pc1 := 38) rfl rfl rfl rfl rfl rfl rfl rfl (mk_rok rfl rfl rfl rfl) rfl rfl rfl (w_115 (sc := sc) (d := d) 4 98 97 99 g hvv3) ?_
  rcases zb_if e with ⟨hc4, e⟩ | ⟨hc4, e⟩
  · skip
    refine Wp.iF (pc1 := 41) rfl (zb_eqF hc4) rfl ?_
    refine Wp.steps 3 (pc1 := 45) (lo1 := [some (.ref 113)]) (st1 := [.int 0, .int 107, .ref 113]) (h1 := mk g) rfl ?_
    obtain ⟨v9, hvv9, e⟩ := zb_bind e
    refine Wp.ca (m := 116) (d1 := d + 1) (as := [.ref 113, .int 107, .int 0]) (rest := []) (st1 := [.int (zb_i v9)]) (pc1 := 48) rfl rfl rfl rfl rfl rfl rfl rfl (mk_rok rfl rfl rfl rfl) rfl rfl rfl (w_116 (sc := sc) (d := d) 107 0 g hvv9) ?_
    rcases zb_if e with ⟨hc10, e⟩ | ⟨hc10, e⟩
    · skip
      refine Wp.iF (pc1 := 51) rfl (zb_eqF hc10) rfl ?_
      refine Wp.steps 2 (pc1 := 86) (lo1 := [some (.ref 113)]) (st1 := [.int 1]) (h1 := mk g) rfl ?_
      have e1 := zb_r1 e
      subst e1
      exact Wp.ret rfl rfl rfl (K _)
    · skip
      refine Wp.iT (pc1 := 55) rfl (zb_eqT hc10) rfl ?_
      refine Wp.steps 5 (pc1 := 63) (lo1 := [some (.ref 113)]) (st1 := [.int 104, .int 116, .int 111, .int 5, .ref 113]) (h1 := mk g) rfl ?_
      obtain ⟨v11, hvv11, e⟩ := zb_bind e
      refine Wp.ca (m := 115) (d1 := d + 1) (as := [.ref 113, .int 5, .int 111, .int 116, .int 104]) (rest := []) (st1 := [.int (zb_i v11)]) (pc1 := 66) rfl rfl rfl rfl rfl rfl rfl rfl (mk_rok rfl rfl rfl rfl) rfl rfl rfl (w_115 (sc := sc) (d := d) 5 111 116 104 g hvv11) ?_
      rcases zb_if e with ⟨hc12, e⟩ | ⟨hc12, e⟩
      · skip
        refine Wp.iF (pc1 := 69) rfl (zb_eqF hc12) rfl ?_
        refine Wp.steps 3 (pc1 := 74) (lo1 := [some (.ref 113)]) (st1 := [.int 114, .int 101, .ref 113]) (h1 := mk g) rfl ?_
        obtain ⟨v13, hvv13, e⟩ := zb_bind e
        refine Wp.ca (m := 116) (d1 := d + 1) (as := [.ref 113, .int 101, .int 114]) (rest := []) (st1 := [.int (zb_i v13)]) (pc1 := 77) rfl rfl rfl rfl rfl rfl rfl rfl (mk_rok rfl rfl rfl rfl) rfl rfl rfl (w_116 (sc := sc) (d := d) 101 114 g hvv13) ?_
        rcases zb_if e with ⟨hc14, e⟩ | ⟨hc14, e⟩
        · skip
          refine Wp.iF (pc1 := 80) rfl (zb_eqF hc14) rfl ?_
          refine Wp.steps 2 (pc1 := 86) (lo1 := [some (.ref 113)]) (st1 := [.int 2]) (h1 := mk g) rfl ?_
          have e1 := zb_r1 e
          subst e1
          exact Wp.ret rfl rfl rfl (K _)
        · skip
          refine Wp.iT (pc1 := 84) rfl (zb_eqT hc14) rfl ?_
          refine Wp.steps 1 (pc1 := 86) (lo1 := [some (.ref 113)]) (st1 := [.int (-4)]) (h1 := mk g) rfl ?_
          have e1 := zb_r1 e
          subst e1
          exact Wp.ret rfl rfl rfl (K _)
      · skip
        refine Wp.iT (pc1 := 84) rfl (zb_eqT hc12) rfl ?_
        refine Wp.steps 1 (pc1 := 86) (lo1 := [some (.ref 113)]) (st1 := [.int (-4)]) (h1 := mk g) rfl ?_
        have e1 := zb_r1 e
        subst e1
        exact Wp.ret rfl rfl rfl (K _)
  · skip
    refine Wp.iT (pc1 := 55) rfl (zb_eqT hc4) rfl ?_
    refine Wp.steps 5 (pc1 := 63) (lo1 := [some (.ref 113)]) (st1 := [.int 104, .int 116, .int 111, .int 5, .ref 113]) (h1 := mk g) rfl ?_
    obtain ⟨v5, hvv5, e⟩ := zb_bind e
    refine Wp.ca (m := 115) (d1 := d + 1) (as := [.ref 113, .int 5, .int 111, .int 116, .int 104]) (rest := []) (st1 := [.int (zb_i v5)]) (pc1 := 66) rfl rfl rfl rfl rfl rfl rfl rfl (mk_rok rfl rfl rfl rfl) rfl rfl rfl (w_115 (sc := sc) (d := d) 5 111 116 104 g hvv5) ?_
    rcases zb_if e with ⟨hc6, e⟩ | ⟨hc6, e⟩
    · skip
      refine Wp.iF (pc1 := 69) rfl (zb_eqF hc6) rfl ?_
      refine Wp.steps 3 (pc1 := 74) (lo1 := [some (.ref 113)]) (st1 := [.int 114, .int 101, .ref 113]) (h1 := mk g) rfl ?_
      obtain ⟨v7, hvv7, e⟩ := zb_bind e
      refine Wp.ca (m := 116) (d1 := d + 1) (as := [.ref 113, .int 101, .int 114]) (rest := []) (st1 := [.int (zb_i v7)]) (pc1 := 77) rfl rfl rfl rfl rfl rfl rfl rfl (mk_rok rfl rfl rfl rfl) rfl rfl rfl (w_116 (sc := sc) (d := d) 101 114 g hvv7) ?_
      rcases zb_if e with ⟨hc8, e⟩ | ⟨hc8, e⟩
      · skip
        refine Wp.iF (pc1 := 80) rfl (zb_eqF hc8) rfl ?_
        refine Wp.steps 2 (pc1 := 86) (lo1 := [some (.ref 113)]) (st1 := [.int 2]) (h1 := mk g) rfl ?_
        have e1 := zb_r1 e
        subst e1
        exact Wp.ret rfl rfl rfl (K _)
      · skip
        refine Wp.iT (pc1 := 84) rfl (zb_eqT hc8) rfl ?_
        refine Wp.steps 1 (pc1 := 86) (lo1 := [some (.ref 113)]) (st1 := [.int (-4)]) (h1 := mk g) rfl ?_
        have e1 := zb_r1 e
        subst e1
        exact Wp.ret rfl rfl rfl (K _)
    · skip
      refine Wp.iT (pc1 := 84) rfl (zb_eqT hc6) rfl ?_
      refine Wp.steps 1 (pc1 := 86) (lo1 := [some (.ref 113)]) (st1 := [.int (-4)]) (h1 := mk g) rfl ?_
      have e1 := zb_r1 e
      subst e1
      exact Wp.ret rfl rfl rfl (K _)
/-- EveningFirstModel.wayNow()I -/
def d_118 (g : G) : Option Int32 :=
  Option.bind (d_115 5 102 111 114 g) fun v1 =>
  bif v1 then (
    Option.bind (d_116 116 104 g) fun v15 =>
    bif v15 then (
      some 0) else
    d_118_27 g) else
  d_118_27 g
set_option maxRecDepth 100000 in
set_option maxHeartbeats 4000000 in
theorem w_118 {sc : Option (List Int32)} {d : Nat} (g : G) {r : Int32} (e : d_118 g = some r) : zB sc (d + 2) 118 0 (zm_ent (z_L 118) [.ref 113]) [] (mk g) [.int r] (mk g) := by
  unfold d_118 at e
  intro Q K
  show Wp sc (d + 2) 118 0 [some (.ref 113)] [] (mk g) Q
  refine Wp.steps 5 (pc1 := 8) (lo1 := [some (.ref 113)]) (st1 := [.int 114, .int 111, .int 102, .int 5, .ref 113]) (h1 := mk g) rfl ?_
  obtain ⟨v1, hvv1, e⟩ := zb_bind e
  refine Wp.ca (m := 115) (d1 := d + 1) (as := [.ref 113, .int 5, .int 102, .int 111, .int 114]) (rest := []) (st1 := [.int (zb_i v1)]) (pc1 := 11) rfl rfl rfl rfl rfl rfl rfl rfl (mk_rok rfl rfl rfl rfl) rfl rfl rfl (w_115 (sc := sc) (d := d) 5 102 111 114 g hvv1) ?_
  rcases zb_if e with ⟨hc2, e⟩ | ⟨hc2, e⟩
  · skip
    refine Wp.iF (pc1 := 14) rfl (zb_eqF hc2) rfl ?_
    refine Wp.steps 3 (pc1 := 19) (lo1 := [some (.ref 113)]) (st1 := [.int 104, .int 116, .ref 113]) (h1 := mk g) rfl ?_
    obtain ⟨v15, hvv15, e⟩ := zb_bind e
    refine Wp.ca (m := 116) (d1 := d + 1) (as := [.ref 113, .int 116, .int 104]) (rest := []) (st1 := [.int (zb_i v15)]) (pc1 := 22) rfl rfl rfl rfl rfl rfl rfl rfl (mk_rok rfl rfl rfl rfl) rfl rfl rfl (w_116 (sc := sc) (d := d) 116 104 g hvv15) ?_
    rcases zb_if e with ⟨hc16, e⟩ | ⟨hc16, e⟩
    · skip
      refine Wp.iF (pc1 := 25) rfl (zb_eqF hc16) rfl ?_
      refine Wp.steps 1 (pc1 := 26) (lo1 := [some (.ref 113)]) (st1 := [.int 0]) (h1 := mk g) rfl ?_
      have e1 := zb_r1 e
      subst e1
      exact Wp.ret rfl rfl rfl (K _)
    · skip
      refine Wp.iT (pc1 := 27) rfl (zb_eqT hc16) rfl ?_
      exact w_118_27 (sc := sc) (d := d) g _ e Q K
  · skip
    refine Wp.iT (pc1 := 27) rfl (zb_eqT hc2) rfl ?_
    exact w_118_27 (sc := sc) (d := d) g _ e Q K
def d_122_2 : Nat → Int32 → G → Option (Int32 × G)
  | 0, _, _ => none
  | f + 1, x1, g =>
    bif zm_cmp .ne (g 113 19) 0 then (
      some (x1, g)) else
    bif zm_cmp .ne (g 113 17) 2 then (
      some (x1, g)) else
    zb_p (d_120 0 5 g) fun v3 g4 =>
    bif zm_cmp .ne (g4 113 19) 0 then (
      Option.bind (d_119 g4) fun g6 =>
      d_122_2 f (x1 ||| ((1 : Int32) <<< (v3 &&& 31))) g6) else
    bif zm_cmp .ne ((x1 >>> (v3 &&& 31)) &&& 1) 0 then (
      zb_l (d_113 0 4 g4) fun g8 =>
      Option.bind (d_119 g8) fun g9 =>
      d_122_2 f (x1 ||| ((1 : Int32) <<< (v3 &&& 31))) g9) else
    zb_l (d_113 1 4 g4) fun g10 =>
    Option.bind (d_119 g10) fun g11 =>
    d_122_2 f (x1 ||| ((1 : Int32) <<< (v3 &&& 31))) g11
set_option maxRecDepth 100000 in
set_option maxHeartbeats 4000000 in
theorem w_122_2 {sc : Option (List Int32)} {d : Nat} : ∀ (f : Nat) (x1 : Int32) (g : G) (r : Int32) (g' : G), d_122_2 f x1 g = some (r, g') → zB sc (d + 2) 122 2 [some (.ref 113), some (.int x1), none] [] (mk g) [.int r] (mk g') := by
  intro f
  induction f with
  | zero =>
    intro x1 g r g' e
    rw [d_122_2.eq_1] at e
    cases e
  | succ f ih =>
    intro x1 g r g' e
    rw [d_122_2.eq_2] at e
    intro Q K
    refine Wp.steps 1 (pc1 := 3) (lo1 := [some (.ref 113), some (.int x1), none]) (st1 := [.ref 113]) (h1 := mk g) rfl ?_
    refine Wp.gf (pc1 := 6) (v := .int (g 113 19)) rfl rfl rfl rfl rfl ?_
    rcases zb_if e with ⟨hc1, e⟩ | ⟨hc1, e⟩
    · skip
      refine Wp.iT (pc1 := 62) rfl hc1 rfl ?_
      refine Wp.steps 1 (pc1 := 63) (lo1 := [some (.ref 113), some (.int x1), none]) (st1 := [.int x1]) (h1 := mk g) rfl ?_
      obtain ⟨e1, e2⟩ := zb_r2 e
      subst e1
      subst e2
      exact Wp.ret rfl rfl rfl (K _)
    · skip
      refine Wp.iF (pc1 := 9) rfl hc1 rfl ?_
      refine Wp.steps 1 (pc1 := 10) (lo1 := [some (.ref 113), some (.int x1), none]) (st1 := [.ref 113]) (h1 := mk g) rfl ?_
      refine Wp.gf (pc1 := 13) (v := .int (g 113 17)) rfl rfl rfl rfl rfl ?_
      refine Wp.steps 1 (pc1 := 14) (lo1 := [some (.ref 113), some (.int x1), none]) (st1 := [.int 2, .int (g 113 17)]) (h1 := mk g) rfl ?_
      rcases zb_if e with ⟨hc2, e⟩ | ⟨hc2, e⟩
      · skip
        refine Wp.cT (pc1 := 62) rfl hc2 rfl ?_
        refine Wp.steps 1 (pc1 := 63) (lo1 := [some (.ref 113), some (.int x1), none]) (st1 := [.int x1]) (h1 := mk g) rfl ?_
        obtain ⟨e1, e2⟩ := zb_r2 e
        subst e1
        subst e2
        exact Wp.ret rfl rfl rfl (K _)
      · skip
        refine Wp.cF (pc1 := 17) rfl hc2 rfl ?_
        refine Wp.steps 3 (pc1 := 20) (lo1 := [some (.ref 113), some (.int x1), none]) (st1 := [.int 5, .int 0, .ref 113]) (h1 := mk g) rfl ?_
        obtain ⟨v3, g4, hvv3, e⟩ := zb_pair e
        refine Wp.ca (m := 120) (d1 := d + 1) (as := [.ref 113, .int 0, .int 5]) (rest := []) (st1 := [.int v3]) (pc1 := 23) rfl rfl rfl rfl rfl rfl rfl rfl (mk_rok rfl rfl rfl rfl) rfl rfl rfl (w_120 (sc := sc) (d := d) 0 5 g hvv3) ?_
        refine Wp.steps 2 (pc1 := 25) (lo1 := [some (.ref 113), some (.int x1), some (.int v3)]) (st1 := [.ref 113]) (h1 := mk g4) rfl ?_
        refine Wp.gf (pc1 := 28) (v := .int (g4 113 19)) rfl rfl rfl rfl rfl ?_
        rcases zb_if e with ⟨hc5, e⟩ | ⟨hc5, e⟩
        · skip
          refine Wp.iT (pc1 := 49) rfl hc5 rfl ?_
          refine Wp.steps 7 (pc1 := 56) (lo1 := [some (.ref 113), some (.int (x1 ||| ((1 : Int32) <<< (v3 &&& 31)))), some (.int v3)]) (st1 := [.ref 113]) (h1 := mk g4) rfl ?_
          obtain ⟨g6, hvg6, e⟩ := zb_bind e
          refine Wp.ca (m := 119) (d1 := d + 1) (as := [.ref 113]) (rest := []) (st1 := []) (pc1 := 59) rfl rfl rfl rfl rfl rfl rfl rfl (mk_rok rfl rfl rfl rfl) rfl rfl rfl (w_119 (sc := sc) (d := d)  g4 hvg6) ?_
          refine Wp.steps 1 (pc1 := 2) (lo1 := [some (.ref 113), some (.int (x1 ||| ((1 : Int32) <<< (v3 &&& 31)))), some (.int v3)]) (st1 := []) (h1 := mk g6) rfl ?_
          refine Wp.fg [some (.ref 113), some (.int (x1 ||| ((1 : Int32) <<< (v3 &&& 31)))), none] (zm_lle_s (zm_lle_s (zm_lle_n zm_lle_0))) ?_
          exact ih _ _ _ _ e Q K
        · skip
          refine Wp.iF (pc1 := 31) rfl hc5 rfl ?_
          refine Wp.steps 6 (pc1 := 37) (lo1 := [some (.ref 113), some (.int x1), some (.int v3)]) (st1 := [.int ((x1 >>> (v3 &&& 31)) &&& 1), .ref 113]) (h1 := mk g4) rfl ?_
          rcases zb_if e with ⟨hc7, e⟩ | ⟨hc7, e⟩
          · skip
            refine Wp.iT (pc1 := 44) rfl hc7 rfl ?_
            refine Wp.steps 2 (pc1 := 46) (lo1 := [some (.ref 113), some (.int x1), some (.int v3)]) (st1 := [.int 4, .int 0, .ref 113]) (h1 := mk g4) rfl ?_
            obtain ⟨g8, hvg8, e⟩ := zb_let e
            refine Wp.ca (m := 113) (d1 := d + 1) (as := [.ref 113, .int 0, .int 4]) (rest := []) (st1 := []) (pc1 := 49) rfl rfl rfl rfl rfl rfl rfl rfl (mk_rok rfl rfl rfl rfl) rfl rfl rfl (w_113 (sc := sc) (d := d + 1) 0 4 g4 hvg8) ?_
            refine Wp.steps 7 (pc1 := 56) (lo1 := [some (.ref 113), some (.int (x1 ||| ((1 : Int32) <<< (v3 &&& 31)))), some (.int v3)]) (st1 := [.ref 113]) (h1 := mk g8) rfl ?_
            obtain ⟨g9, hvg9, e⟩ := zb_bind e
            refine Wp.ca (m := 119) (d1 := d + 1) (as := [.ref 113]) (rest := []) (st1 := []) (pc1 := 59) rfl rfl rfl rfl rfl rfl rfl rfl (mk_rok rfl rfl rfl rfl) rfl rfl rfl (w_119 (sc := sc) (d := d)  g8 hvg9) ?_
            refine Wp.steps 1 (pc1 := 2) (lo1 := [some (.ref 113), some (.int (x1 ||| ((1 : Int32) <<< (v3 &&& 31)))), some (.int v3)]) (st1 := []) (h1 := mk g9) rfl ?_
            refine Wp.fg [some (.ref 113), some (.int (x1 ||| ((1 : Int32) <<< (v3 &&& 31)))), none] (zm_lle_s (zm_lle_s (zm_lle_n zm_lle_0))) ?_
            exact ih _ _ _ _ e Q K
          · skip
            refine Wp.iF (pc1 := 40) rfl hc7 rfl ?_
            refine Wp.steps 3 (pc1 := 46) (lo1 := [some (.ref 113), some (.int x1), some (.int v3)]) (st1 := [.int 4, .int 1, .ref 113]) (h1 := mk g4) rfl ?_
            obtain ⟨g10, hvg10, e⟩ := zb_let e
            refine Wp.ca (m := 113) (d1 := d + 1) (as := [.ref 113, .int 1, .int 4]) (rest := []) (st1 := []) (pc1 := 49) rfl rfl rfl rfl rfl rfl rfl rfl (mk_rok rfl rfl rfl rfl) rfl rfl rfl (w_113 (sc := sc) (d := d + 1) 1 4 g4 hvg10) ?_
            refine Wp.steps 7 (pc1 := 56) (lo1 := [some (.ref 113), some (.int (x1 ||| ((1 : Int32) <<< (v3 &&& 31)))), some (.int v3)]) (st1 := [.ref 113]) (h1 := mk g10) rfl ?_
            obtain ⟨g11, hvg11, e⟩ := zb_bind e
            refine Wp.ca (m := 119) (d1 := d + 1) (as := [.ref 113]) (rest := []) (st1 := []) (pc1 := 59) rfl rfl rfl rfl rfl rfl rfl rfl (mk_rok rfl rfl rfl rfl) rfl rfl rfl (w_119 (sc := sc) (d := d)  g10 hvg11) ?_
            refine Wp.steps 1 (pc1 := 2) (lo1 := [some (.ref 113), some (.int (x1 ||| ((1 : Int32) <<< (v3 &&& 31)))), some (.int v3)]) (st1 := []) (h1 := mk g11) rfl ?_
            refine Wp.fg [some (.ref 113), some (.int (x1 ||| ((1 : Int32) <<< (v3 &&& 31)))), none] (zm_lle_s (zm_lle_s (zm_lle_n zm_lle_0))) ?_
            exact ih _ _ _ _ e Q K
/-- EveningFirstModel.readThings()I -/
def d_122 (g : G) : Option (Int32 × G) :=
  d_122_2 300 0 g
set_option maxRecDepth 100000 in
set_option maxHeartbeats 4000000 in
theorem w_122 {sc : Option (List Int32)} {d : Nat} (g : G) {r : Int32} {g' : G} (e : d_122 g = some (r, g')) : zB sc (d + 2) 122 0 (zm_ent (z_L 122) [.ref 113]) [] (mk g) [.int r] (mk g') := by
  unfold d_122 at e
  intro Q K
  show Wp sc (d + 2) 122 0 [some (.ref 113), none, none] [] (mk g) Q
  refine Wp.steps 2 (pc1 := 2) (lo1 := [some (.ref 113), some (.int 0), none]) (st1 := []) (h1 := mk g) rfl ?_
  exact w_122_2 (sc := sc) (d := d) 300 0 g _ _ e Q K
def d_123_24 (s0 : Int32) (g : G) : Option G :=
  bif zm_cmp .eq s0 (-4) then (
    zb_l (d_113 0 2 g) fun g3 =>
    Option.bind (d_119 g3) fun g4 =>
    Option.bind (zm_ix (0 + (g4 113 6)) 98) fun k6 =>
    zb_l (zg_up g4 116 k6 s0) fun g5 =>
    zb_bp (d_122 g5) fun v7 g8 =>
    Option.bind (zm_ix (4 + (g5 113 6)) 98) fun k10 =>
    zb_l (zg_up g8 116 k10 v7) fun g9 =>
    zb_l (zg_up g9 113 6 ((g9 113 6) + 1)) fun g11 =>
    some g11) else
  zb_l (d_113 1 2 g) fun g12 =>
  Option.bind (d_119 g12) fun g13 =>
  Option.bind (zm_ix (0 + (g13 113 6)) 98) fun k15 =>
  zb_l (zg_up g13 116 k15 s0) fun g14 =>
  zb_bp (d_122 g14) fun v16 g17 =>
  Option.bind (zm_ix (4 + (g14 113 6)) 98) fun k19 =>
  zb_l (zg_up g17 116 k19 v16) fun g18 =>
  zb_l (zg_up g18 113 6 ((g18 113 6) + 1)) fun g20 =>
  some g20
set_option maxRecDepth 100000 in
set_option maxHeartbeats 4000000 in
theorem w_123_24 {sc : Option (List Int32)} {d : Nat} (s0 : Int32) (g : G) (g' : G) (e : d_123_24 s0 g = some g') : zB sc (d + 3) 123 24 [some (.ref 113), none] [.int s0] (mk g) [] (mk g') := by
  unfold d_123_24 at e
  intro Q K
  refine Wp.steps 4 (pc1 := 29) (lo1 := [some (.ref 113), some (.int s0)]) (st1 := [.int (-4), .int s0, .ref 113]) (h1 := mk g) rfl ?_
  rcases zb_if e with ⟨hc2, e⟩ | ⟨hc2, e⟩
  · skip
    refine Wp.cT (pc1 := 36) rfl hc2 rfl ?_
    refine Wp.steps 2 (pc1 := 38) (lo1 := [some (.ref 113), some (.int s0)]) (st1 := [.int 2, .int 0, .ref 113]) (h1 := mk g) rfl ?_
    obtain ⟨g3, hvg3, e⟩ := zb_let e
    refine Wp.ca (m := 113) (d1 := d + 2) (as := [.ref 113, .int 0, .int 2]) (rest := []) (st1 := []) (pc1 := 41) rfl rfl rfl rfl rfl rfl rfl rfl (mk_rok rfl rfl rfl rfl) rfl rfl rfl (w_113 (sc := sc) (d := d + 2) 0 2 g hvg3) ?_
    refine Wp.steps 1 (pc1 := 42) (lo1 := [some (.ref 113), some (.int s0)]) (st1 := [.ref 113]) (h1 := mk g3) rfl ?_
    obtain ⟨g4, hvg4, e⟩ := zb_bind e
    refine Wp.ca (m := 119) (d1 := d + 2) (as := [.ref 113]) (rest := []) (st1 := []) (pc1 := 45) rfl rfl rfl rfl rfl rfl rfl rfl (mk_rok rfl rfl rfl rfl) rfl rfl rfl (w_119 (sc := sc) (d := d + 1)  g3 hvg4) ?_
    refine Wp.steps 1 (pc1 := 46) (lo1 := [some (.ref 113), some (.int s0)]) (st1 := [.ref 113]) (h1 := mk g4) rfl ?_
    refine Wp.gf (pc1 := 49) (v := .ref 116) rfl rfl rfl rfl rfl ?_
    refine Wp.steps 2 (pc1 := 51) (lo1 := [some (.ref 113), some (.int s0)]) (st1 := [.ref 113, .int 0, .ref 116]) (h1 := mk g4) rfl ?_
    refine Wp.gf (pc1 := 54) (v := .int (g4 113 6)) rfl rfl rfl rfl rfl ?_
    refine Wp.steps 2 (pc1 := 56) (lo1 := [some (.ref 113), some (.int s0)]) (st1 := [.int s0, .int (0 + (g4 113 6)), .ref 116]) (h1 := mk g4) rfl ?_
    obtain ⟨k6, hk6, e⟩ := zb_bind e
    obtain ⟨g5, hg5, e⟩ := zb_let e
    refine Wp.ias (pc1 := 57) rfl rfl rfl hk6 hg5 rfl ?_
    refine Wp.steps 1 (pc1 := 58) (lo1 := [some (.ref 113), some (.int s0)]) (st1 := [.ref 113]) (h1 := mk g5) rfl ?_
    refine Wp.gf (pc1 := 61) (v := .ref 116) rfl rfl rfl rfl rfl ?_
    refine Wp.steps 2 (pc1 := 63) (lo1 := [some (.ref 113), some (.int s0)]) (st1 := [.ref 113, .int 4, .ref 116]) (h1 := mk g5) rfl ?_
    refine Wp.gf (pc1 := 66) (v := .int (g5 113 6)) rfl rfl rfl rfl rfl ?_
    refine Wp.steps 2 (pc1 := 68) (lo1 := [some (.ref 113), some (.int s0)]) (st1 := [.ref 113, .int (4 + (g5 113 6)), .ref 116]) (h1 := mk g5) rfl ?_
    obtain ⟨v7, g8, hvv7, e⟩ := zb_bpair e
    refine Wp.ca (m := 122) (d1 := d + 2) (as := [.ref 113]) (rest := [.int (4 + (g5 113 6)), .ref 116]) (st1 := [.int v7, .int (4 + (g5 113 6)), .ref 116]) (pc1 := 71) rfl rfl rfl rfl rfl rfl rfl rfl (mk_rok rfl rfl rfl rfl) rfl rfl rfl (w_122 (sc := sc) (d := d)  g5 hvv7) ?_
    obtain ⟨k10, hk10, e⟩ := zb_bind e
    obtain ⟨g9, hg9, e⟩ := zb_let e
    refine Wp.ias (pc1 := 72) rfl rfl rfl hk10 hg9 rfl ?_
    refine Wp.steps 2 (pc1 := 74) (lo1 := [some (.ref 113), some (.int s0)]) (st1 := [.ref 113, .ref 113]) (h1 := mk g9) rfl ?_
    refine Wp.gf (pc1 := 77) (v := .int (g9 113 6)) rfl rfl rfl rfl rfl ?_
    refine Wp.steps 2 (pc1 := 79) (lo1 := [some (.ref 113), some (.int s0)]) (st1 := [.int ((g9 113 6) + 1), .ref 113]) (h1 := mk g9) rfl ?_
    obtain ⟨g11, hg11, e⟩ := zb_let e
    refine Wp.pf (pc1 := 82) rfl rfl rfl rfl rfl rfl hg11 rfl ?_
    have e1 := zb_r1 e
    subst e1
    exact Wp.ret rfl rfl rfl (K _)
  · skip
    refine Wp.cF (pc1 := 32) rfl hc2 rfl ?_
    refine Wp.steps 3 (pc1 := 38) (lo1 := [some (.ref 113), some (.int s0)]) (st1 := [.int 2, .int 1, .ref 113]) (h1 := mk g) rfl ?_
    obtain ⟨g12, hvg12, e⟩ := zb_let e
    refine Wp.ca (m := 113) (d1 := d + 2) (as := [.ref 113, .int 1, .int 2]) (rest := []) (st1 := []) (pc1 := 41) rfl rfl rfl rfl rfl rfl rfl rfl (mk_rok rfl rfl rfl rfl) rfl rfl rfl (w_113 (sc := sc) (d := d + 2) 1 2 g hvg12) ?_
    refine Wp.steps 1 (pc1 := 42) (lo1 := [some (.ref 113), some (.int s0)]) (st1 := [.ref 113]) (h1 := mk g12) rfl ?_
    obtain ⟨g13, hvg13, e⟩ := zb_bind e
    refine Wp.ca (m := 119) (d1 := d + 2) (as := [.ref 113]) (rest := []) (st1 := []) (pc1 := 45) rfl rfl rfl rfl rfl rfl rfl rfl (mk_rok rfl rfl rfl rfl) rfl rfl rfl (w_119 (sc := sc) (d := d + 1)  g12 hvg13) ?_
    refine Wp.steps 1 (pc1 := 46) (lo1 := [some (.ref 113), some (.int s0)]) (st1 := [.ref 113]) (h1 := mk g13) rfl ?_
    refine Wp.gf (pc1 := 49) (v := .ref 116) rfl rfl rfl rfl rfl ?_
    refine Wp.steps 2 (pc1 := 51) (lo1 := [some (.ref 113), some (.int s0)]) (st1 := [.ref 113, .int 0, .ref 116]) (h1 := mk g13) rfl ?_
    refine Wp.gf (pc1 := 54) (v := .int (g13 113 6)) rfl rfl rfl rfl rfl ?_
    refine Wp.steps 2 (pc1 := 56) (lo1 := [some (.ref 113), some (.int s0)]) (st1 := [.int s0, .int (0 + (g13 113 6)), .ref 116]) (h1 := mk g13) rfl ?_
    obtain ⟨k15, hk15, e⟩ := zb_bind e
    obtain ⟨g14, hg14, e⟩ := zb_let e
    refine Wp.ias (pc1 := 57) rfl rfl rfl hk15 hg14 rfl ?_
    refine Wp.steps 1 (pc1 := 58) (lo1 := [some (.ref 113), some (.int s0)]) (st1 := [.ref 113]) (h1 := mk g14) rfl ?_
    refine Wp.gf (pc1 := 61) (v := .ref 116) rfl rfl rfl rfl rfl ?_
    refine Wp.steps 2 (pc1 := 63) (lo1 := [some (.ref 113), some (.int s0)]) (st1 := [.ref 113, .int 4, .ref 116]) (h1 := mk g14) rfl ?_
    refine Wp.gf (pc1 := 66) (v := .int (g14 113 6)) rfl rfl rfl rfl rfl ?_
    refine Wp.steps 2 (pc1 := 68) (lo1 := [some (.ref 113), some (.int s0)]) (st1 := [.ref 113, .int (4 + (g14 113 6)), .ref 116]) (h1 := mk g14) rfl ?_
    obtain ⟨v16, g17, hvv16, e⟩ := zb_bpair e
    refine Wp.ca (m := 122) (d1 := d + 2) (as := [.ref 113]) (rest := [.int (4 + (g14 113 6)), .ref 116]) (st1 := [.int v16, .int (4 + (g14 113 6)), .ref 116]) (pc1 := 71) rfl rfl rfl rfl rfl rfl rfl rfl (mk_rok rfl rfl rfl rfl) rfl rfl rfl (w_122 (sc := sc) (d := d)  g14 hvv16) ?_
    obtain ⟨k19, hk19, e⟩ := zb_bind e
    obtain ⟨g18, hg18, e⟩ := zb_let e
    refine Wp.ias (pc1 := 72) rfl rfl rfl hk19 hg18 rfl ?_
    refine Wp.steps 2 (pc1 := 74) (lo1 := [some (.ref 113), some (.int s0)]) (st1 := [.ref 113, .ref 113]) (h1 := mk g18) rfl ?_
    refine Wp.gf (pc1 := 77) (v := .int (g18 113 6)) rfl rfl rfl rfl rfl ?_
    refine Wp.steps 2 (pc1 := 79) (lo1 := [some (.ref 113), some (.int s0)]) (st1 := [.int ((g18 113 6) + 1), .ref 113]) (h1 := mk g18) rfl ?_
    obtain ⟨g20, hg20, e⟩ := zb_let e
    refine Wp.pf (pc1 := 82) rfl rfl rfl rfl rfl rfl hg20 rfl ?_
    have e1 := zb_r1 e
    subst e1
    exact Wp.ret rfl rfl rfl (K _)
/-- EveningFirstModel.readOne()V -/
def d_123 (g : G) : Option G :=
  bif zm_cmp .ne (g 113 19) 0 then (
    d_123_24 (-4) g) else
  bif zm_cmp .ne (g 113 17) 1 then (
    d_123_24 (-4) g) else
  Option.bind (d_118 g) fun v22 =>
  d_123_24 v22 g
set_option maxRecDepth 100000 in
set_option maxHeartbeats 4000000 in
theorem w_123 {sc : Option (List Int32)} {d : Nat} (g : G) {g' : G} (e : d_123 g = some g') : zB sc (d + 3) 123 0 (zm_ent (z_L 123) [.ref 113]) [] (mk g) [] (mk g') := by
  unfold d_123 at e
  intro Q K
  show Wp sc (d + 3) 123 0 [some (.ref 113), none] [] (mk g) Q
  refine Wp.steps 1 (pc1 := 1) (lo1 := [some (.ref 113), none]) (st1 := [.ref 113]) (h1 := mk g) rfl ?_
  refine Wp.gf (pc1 := 4) (v := .int (g 113 19)) rfl rfl rfl rfl rfl ?_
  rcases zb_if e with ⟨hc1, e⟩ | ⟨hc1, e⟩
  · skip
    refine Wp.iT (pc1 := 22) rfl hc1 rfl ?_
    refine Wp.steps 1 (pc1 := 24) (lo1 := [some (.ref 113), none]) (st1 := [.int (-4)]) (h1 := mk g) rfl ?_
    exact w_123_24 (sc := sc) (d := d) (-4) g _ e Q K
  · skip
    refine Wp.iF (pc1 := 7) rfl hc1 rfl ?_
    refine Wp.steps 1 (pc1 := 8) (lo1 := [some (.ref 113), none]) (st1 := [.ref 113]) (h1 := mk g) rfl ?_
    refine Wp.gf (pc1 := 11) (v := .int (g 113 17)) rfl rfl rfl rfl rfl ?_
    refine Wp.steps 1 (pc1 := 12) (lo1 := [some (.ref 113), none]) (st1 := [.int 1, .int (g 113 17)]) (h1 := mk g) rfl ?_
    rcases zb_if e with ⟨hc21, e⟩ | ⟨hc21, e⟩
    · skip
      refine Wp.cT (pc1 := 22) rfl hc21 rfl ?_
      refine Wp.steps 1 (pc1 := 24) (lo1 := [some (.ref 113), none]) (st1 := [.int (-4)]) (h1 := mk g) rfl ?_
      exact w_123_24 (sc := sc) (d := d) (-4) g _ e Q K
    · skip
      refine Wp.cF (pc1 := 15) rfl hc21 rfl ?_
      refine Wp.steps 1 (pc1 := 16) (lo1 := [some (.ref 113), none]) (st1 := [.ref 113]) (h1 := mk g) rfl ?_
      obtain ⟨v22, hvv22, e⟩ := zb_bind e
      refine Wp.ca (m := 118) (d1 := d + 2) (as := [.ref 113]) (rest := []) (st1 := [.int v22]) (pc1 := 19) rfl rfl rfl rfl rfl rfl rfl rfl (mk_rok rfl rfl rfl rfl) rfl rfl rfl (w_118 (sc := sc) (d := d)  g hvv22) ?_
      refine Wp.steps 1 (pc1 := 24) (lo1 := [some (.ref 113), none]) (st1 := [.int v22]) (h1 := mk g) rfl ?_
      exact w_123_24 (sc := sc) (d := d) v22 g _ e Q K
