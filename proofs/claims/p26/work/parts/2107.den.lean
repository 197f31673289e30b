/-! printed by wip/tools/den.py -/
def d_128_91 (x1 : Int32) (s1 : Int32) (g : G) : Option G :=
  zb_l (d_113 s1 4 g) fun g8 =>
  bif zm_cmp .ne (g8 113 7) 0 then (
    zb_l (zg_up g8 113 7 1) fun g10 =>
    Option.bind (d_119 g10) fun g11 =>
    bif zm_cmp .le (g11 113 19) 0 then (
      Option.bind (d_127 x1 g11) fun g13 =>
      bif zm_cmp .ne (g13 113 19) 0 then (
        Option.bind (d_119 g13) fun g15 =>
        some g15) else
      bif zm_cmp .ne (g13 113 17) 3 then (
        zb_l (d_113 0 2 g13) fun g17 =>
        Option.bind (d_119 g17) fun g18 =>
        some g18) else
      zb_l (d_113 1 2 g13) fun g19 =>
      Option.bind (d_119 g19) fun g20 =>
      some g20) else
    some g11) else
  bif zm_cmp .ne x1 0 then (
    zb_l (zg_up g8 113 7 0) fun g22 =>
    Option.bind (d_119 g22) fun g23 =>
    bif zm_cmp .le (g23 113 19) 0 then (
      Option.bind (d_127 x1 g23) fun g25 =>
      bif zm_cmp .ne (g25 113 19) 0 then (
        Option.bind (d_119 g25) fun g27 =>
        some g27) else
      bif zm_cmp .ne (g25 113 17) 3 then (
        zb_l (d_113 0 2 g25) fun g29 =>
        Option.bind (d_119 g29) fun g30 =>
        some g30) else
      zb_l (d_113 1 2 g25) fun g31 =>
      Option.bind (d_119 g31) fun g32 =>
      some g32) else
    some g23) else
  zb_l (zg_up g8 113 7 1) fun g33 =>
  Option.bind (d_119 g33) fun g34 =>
  bif zm_cmp .le (g34 113 19) 0 then (
    Option.bind (d_127 x1 g34) fun g36 =>
    bif zm_cmp .ne (g36 113 19) 0 then (
      Option.bind (d_119 g36) fun g38 =>
      some g38) else
    bif zm_cmp .ne (g36 113 17) 3 then (
      zb_l (d_113 0 2 g36) fun g40 =>
      Option.bind (d_119 g40) fun g41 =>
      some g41) else
    zb_l (d_113 1 2 g36) fun g42 =>
    Option.bind (d_119 g42) fun g43 =>
    some g43) else
  some g34
set_option maxRecDepth 100000 in
set_option maxHeartbeats 4000000 in
theorem w_128_91 {sc : Option (List Int32)} {d : Nat} (x1 : Int32) (s1 : Int32) (g : G) (g' : G) (e : d_128_91 x1 s1 g = some g') : zB sc (d + 6) 128 91 [some (.ref 113), some (.int x1)] [.int s1, .ref 113] (mk g) [] (mk g') := by
  unfold d_128_91 at e
  intro Q K
  refine Wp.steps 1 (pc1 := 92) (lo1 := [some (.ref 113), some (.int x1)]) (st1 := [.int 4, .int s1, .ref 113]) (h1 := mk g) rfl ?_
  obtain ⟨g8, hvg8, e⟩ := zb_let e
  refine Wp.ca (m := 113) (d1 := d + 5) (as := [.ref 113, .int s1, .int 4]) (rest := []) (st1 := []) (pc1 := 95) rfl rfl rfl rfl rfl rfl rfl rfl (mk_rok rfl rfl rfl rfl) rfl rfl rfl (w_113 (sc := sc) (d := d + 5) s1 4 g hvg8) ?_
  refine Wp.steps 2 (pc1 := 97) (lo1 := [some (.ref 113), some (.int x1)]) (st1 := [.ref 113, .ref 113]) (h1 := mk g8) rfl ?_
  refine Wp.gf (pc1 := 100) (v := .int (g8 113 7)) rfl rfl rfl rfl rfl ?_
  rcases zb_if e with ⟨hc9, e⟩ | ⟨hc9, e⟩
  · skip
    refine Wp.iT (pc1 := 107) rfl hc9 rfl ?_
    refine Wp.steps 2 (pc1 := 112) (lo1 := [some (.ref 113), some (.int x1)]) (st1 := [.int 1, .ref 113]) (h1 := mk g8) rfl ?_
    obtain ⟨g10, hg10, e⟩ := zb_let e
    refine Wp.pf (pc1 := 115) rfl rfl rfl rfl rfl rfl hg10 rfl ?_
    refine Wp.steps 1 (pc1 := 116) (lo1 := [some (.ref 113), some (.int x1)]) (st1 := [.ref 113]) (h1 := mk g10) rfl ?_
    obtain ⟨g11, hvg11, e⟩ := zb_bind e
    refine Wp.ca (m := 119) (d1 := d + 5) (as := [.ref 113]) (rest := []) (st1 := []) (pc1 := 119) rfl rfl rfl rfl rfl rfl rfl rfl (mk_rok rfl rfl rfl rfl) rfl rfl rfl (w_119 (sc := sc) (d := d + 4)  g10 hvg11) ?_
    refine Wp.steps 1 (pc1 := 120) (lo1 := [some (.ref 113), some (.int x1)]) (st1 := [.ref 113]) (h1 := mk g11) rfl ?_
    refine Wp.gf (pc1 := 123) (v := .int (g11 113 19)) rfl rfl rfl rfl rfl ?_
    rcases zb_if e with ⟨hc12, e⟩ | ⟨hc12, e⟩
    · skip
      refine Wp.iT (pc1 := 127) rfl hc12 rfl ?_
      refine Wp.steps 2 (pc1 := 129) (lo1 := [some (.ref 113), some (.int x1)]) (st1 := [.int x1, .ref 113]) (h1 := mk g11) rfl ?_
      obtain ⟨g13, hvg13, e⟩ := zb_bind e
      refine Wp.ca (m := 127) (d1 := d + 5) (as := [.ref 113, .int x1]) (rest := []) (st1 := []) (pc1 := 132) rfl rfl rfl rfl rfl rfl rfl rfl (mk_rok rfl rfl rfl rfl) rfl rfl rfl (w_127 (sc := sc) (d := d) x1 g11 hvg13) ?_
      refine Wp.steps 1 (pc1 := 133) (lo1 := [some (.ref 113), some (.int x1)]) (st1 := [.ref 113]) (h1 := mk g13) rfl ?_
      refine Wp.gf (pc1 := 136) (v := .int (g13 113 19)) rfl rfl rfl rfl rfl ?_
      rcases zb_if e with ⟨hc14, e⟩ | ⟨hc14, e⟩
      · skip
        refine Wp.iT (pc1 := 157) rfl hc14 rfl ?_
        refine Wp.steps 1 (pc1 := 158) (lo1 := [some (.ref 113), some (.int x1)]) (st1 := [.ref 113]) (h1 := mk g13) rfl ?_
        obtain ⟨g15, hvg15, e⟩ := zb_bind e
        refine Wp.ca (m := 119) (d1 := d + 5) (as := [.ref 113]) (rest := []) (st1 := []) (pc1 := 161) rfl rfl rfl rfl rfl rfl rfl rfl (mk_rok rfl rfl rfl rfl) rfl rfl rfl (w_119 (sc := sc) (d := d + 4)  g13 hvg15) ?_
        have e1 := zb_r1 e
        subst e1
        exact Wp.ret rfl rfl rfl (K _)
      · skip
        refine Wp.iF (pc1 := 139) rfl hc14 rfl ?_
        refine Wp.steps 2 (pc1 := 141) (lo1 := [some (.ref 113), some (.int x1)]) (st1 := [.ref 113, .ref 113]) (h1 := mk g13) rfl ?_
        refine Wp.gf (pc1 := 144) (v := .int (g13 113 17)) rfl rfl rfl rfl rfl ?_
        refine Wp.steps 1 (pc1 := 145) (lo1 := [some (.ref 113), some (.int x1)]) (st1 := [.int 3, .int (g13 113 17), .ref 113]) (h1 := mk g13) rfl ?_
        rcases zb_if e with ⟨hc16, e⟩ | ⟨hc16, e⟩
        · skip
          refine Wp.cT (pc1 := 152) rfl hc16 rfl ?_
          refine Wp.steps 2 (pc1 := 154) (lo1 := [some (.ref 113), some (.int x1)]) (st1 := [.int 2, .int 0, .ref 113]) (h1 := mk g13) rfl ?_
          obtain ⟨g17, hvg17, e⟩ := zb_let e
          refine Wp.ca (m := 113) (d1 := d + 5) (as := [.ref 113, .int 0, .int 2]) (rest := []) (st1 := []) (pc1 := 157) rfl rfl rfl rfl rfl rfl rfl rfl (mk_rok rfl rfl rfl rfl) rfl rfl rfl (w_113 (sc := sc) (d := d + 5) 0 2 g13 hvg17) ?_
          refine Wp.steps 1 (pc1 := 158) (lo1 := [some (.ref 113), some (.int x1)]) (st1 := [.ref 113]) (h1 := mk g17) rfl ?_
          obtain ⟨g18, hvg18, e⟩ := zb_bind e
          refine Wp.ca (m := 119) (d1 := d + 5) (as := [.ref 113]) (rest := []) (st1 := []) (pc1 := 161) rfl rfl rfl rfl rfl rfl rfl rfl (mk_rok rfl rfl rfl rfl) rfl rfl rfl (w_119 (sc := sc) (d := d + 4)  g17 hvg18) ?_
          have e1 := zb_r1 e
          subst e1
          exact Wp.ret rfl rfl rfl (K _)
        · skip
          refine Wp.cF (pc1 := 148) rfl hc16 rfl ?_
          refine Wp.steps 3 (pc1 := 154) (lo1 := [some (.ref 113), some (.int x1)]) (st1 := [.int 2, .int 1, .ref 113]) (h1 := mk g13) rfl ?_
          obtain ⟨g19, hvg19, e⟩ := zb_let e
          refine Wp.ca (m := 113) (d1 := d + 5) (as := [.ref 113, .int 1, .int 2]) (rest := []) (st1 := []) (pc1 := 157) rfl rfl rfl rfl rfl rfl rfl rfl (mk_rok rfl rfl rfl rfl) rfl rfl rfl (w_113 (sc := sc) (d := d + 5) 1 2 g13 hvg19) ?_
          refine Wp.steps 1 (pc1 := 158) (lo1 := [some (.ref 113), some (.int x1)]) (st1 := [.ref 113]) (h1 := mk g19) rfl ?_
          obtain ⟨g20, hvg20, e⟩ := zb_bind e
          refine Wp.ca (m := 119) (d1 := d + 5) (as := [.ref 113]) (rest := []) (st1 := []) (pc1 := 161) rfl rfl rfl rfl rfl rfl rfl rfl (mk_rok rfl rfl rfl rfl) rfl rfl rfl (w_119 (sc := sc) (d := d + 4)  g19 hvg20) ?_
          have e1 := zb_r1 e
          subst e1
          exact Wp.ret rfl rfl rfl (K _)
    · skip
      refine Wp.iF (pc1 := 126) rfl hc12 rfl ?_
      have e1 := zb_r1 e
      subst e1
      exact Wp.ret rfl rfl rfl (K _)
  · skip
    refine Wp.iF (pc1 := 103) rfl hc9 rfl ?_
    refine Wp.steps 1 (pc1 := 104) (lo1 := [some (.ref 113), some (.int x1)]) (st1 := [.int x1, .ref 113]) (h1 := mk g8) rfl ?_
    rcases zb_if e with ⟨hc21, e⟩ | ⟨hc21, e⟩
    · skip
      refine Wp.iT (pc1 := 111) rfl hc21 rfl ?_
      refine Wp.steps 1 (pc1 := 112) (lo1 := [some (.ref 113), some (.int x1)]) (st1 := [.int 0, .ref 113]) (h1 := mk g8) rfl ?_
      obtain ⟨g22, hg22, e⟩ := zb_let e
      refine Wp.pf (pc1 := 115) rfl rfl rfl rfl rfl rfl hg22 rfl ?_
      refine Wp.steps 1 (pc1 := 116) (lo1 := [some (.ref 113), some (.int x1)]) (st1 := [.ref 113]) (h1 := mk g22) rfl ?_
      obtain ⟨g23, hvg23, e⟩ := zb_bind e
      refine Wp.ca (m := 119) (d1 := d + 5) (as := [.ref 113]) (rest := []) (st1 := []) (pc1 := 119) rfl rfl rfl rfl rfl rfl rfl rfl (mk_rok rfl rfl rfl rfl) rfl rfl rfl (w_119 (sc := sc) (d := d + 4)  g22 hvg23) ?_
      refine Wp.steps 1 (pc1 := 120) (lo1 := [some (.ref 113), some (.int x1)]) (st1 := [.ref 113]) (h1 := mk g23) rfl ?_
      refine Wp.gf (pc1 := 123) (v := .int (g23 113 19)) rfl rfl rfl rfl rfl ?_
      rcases zb_if e with ⟨hc24, e⟩ | ⟨hc24, e⟩
      · skip
        refine Wp.iT (pc1 := 127) rfl hc24 rfl ?_
        refine Wp.steps 2 (pc1 := 129) (lo1 := [some (.ref 113), some (.int x1)]) (st1 := [.int x1, .ref 113]) (h1 := mk g23) rfl ?_
        obtain ⟨g25, hvg25, e⟩ := zb_bind e
        refine Wp.ca (m := 127) (d1 := d + 5) (as := [.ref 113, .int x1]) (rest := []) (st1 := []) (pc1 := 132) rfl rfl rfl rfl rfl rfl rfl rfl (mk_rok rfl rfl rfl rfl) rfl rfl rfl (w_127 (sc := sc) (d := d) x1 g23 hvg25) ?_
        refine Wp.steps 1 (pc1 := 133) (lo1 := [some (.ref 113), some (.int x1)]) (st1 := [.ref 113]) (h1 := mk g25) rfl ?_
        refine Wp.gf (pc1 := 136) (v := .int (g25 113 19)) rfl rfl rfl rfl rfl ?_
        rcases zb_if e with ⟨hc26, e⟩ | ⟨hc26, e⟩
        · skip
          refine Wp.iT (pc1 := 157) rfl hc26 rfl ?_
          refine Wp.steps 1 (pc1 := 158) (lo1 := [some (.ref 113), some (.int x1)]) (st1 := [.ref 113]) (h1 := mk g25) rfl ?_
          obtain ⟨g27, hvg27, e⟩ := zb_bind e
          refine Wp.ca (m := 119) (d1 := d + 5) (as := [.ref 113]) (rest := []) (st1 := []) (pc1 := 161) rfl rfl rfl rfl rfl rfl rfl rfl (mk_rok rfl rfl rfl rfl) rfl rfl rfl (w_119 (sc := sc) (d := d + 4)  g25 hvg27) ?_
          have e1 := zb_r1 e
          subst e1
          exact Wp.ret rfl rfl rfl (K _)
        · skip
          refine Wp.iF (pc1 := 139) rfl hc26 rfl ?_
          refine Wp.steps 2 (pc1 := 141) (lo1 := [some (.ref 113), some (.int x1)]) (st1 := [.ref 113, .ref 113]) (h1 := mk g25) rfl ?_
          refine Wp.gf (pc1 := 144) (v := .int (g25 113 17)) rfl rfl rfl rfl rfl ?_
          refine Wp.steps 1 (pc1 := 145) (lo1 := [some (.ref 113), some (.int x1)]) (st1 := [.int 3, .int (g25 113 17), .ref 113]) (h1 := mk g25) rfl ?_
          rcases zb_if e with ⟨hc28, e⟩ | ⟨hc28, e⟩
          · skip
            refine Wp.cT (pc1 := 152) rfl hc28 rfl ?_
            refine Wp.steps 2 (pc1 := 154) (lo1 := [some (.ref 113), some (.int x1)]) (st1 := [.int 2, .int 0, .ref 113]) (h1 := mk g25) rfl ?_
            obtain ⟨g29, hvg29, e⟩ := zb_let e
            refine Wp.ca (m := 113) (d1 := d + 5) (as := [.ref 113, .int 0, .int 2]) (rest := []) (st1 := []) (pc1 := 157) rfl rfl rfl rfl rfl rfl rfl rfl (mk_rok rfl rfl rfl rfl) rfl rfl rfl (w_113 (sc := sc) (d := d + 5) 0 2 g25 hvg29) ?_
            refine Wp.steps 1 (pc1 := 158) (lo1 := [some (.ref 113), some (.int x1)]) (st1 := [.ref 113]) (h1 := mk g29) rfl ?_
            obtain ⟨g30, hvg30, e⟩ := zb_bind e
            refine Wp.ca (m := 119) (d1 := d + 5) (as := [.ref 113]) (rest := []) (st1 := []) (pc1 := 161) rfl rfl rfl rfl rfl rfl rfl rfl (mk_rok rfl rfl rfl rfl) rfl rfl rfl (w_119 (sc := sc) (d := d + 4)  g29 hvg30) ?_
            have e1 := zb_r1 e
            subst e1
            exact Wp.ret rfl rfl rfl (K _)
          · skip
            refine Wp.cF (pc1 := 148) rfl hc28 rfl ?_
            refine Wp.steps 3 (pc1 := 154) (lo1 := [some (.ref 113), some (.int x1)]) (st1 := [.int 2, .int 1, .ref 113]) (h1 := mk g25) rfl ?_
            obtain ⟨g31, hvg31, e⟩ := zb_let e
            refine Wp.ca (m := 113) (d1 := d + 5) (as := [.ref 113, .int 1, .int 2]) (rest := []) (st1 := []) (pc1 := 157) rfl rfl rfl rfl rfl rfl rfl rfl (mk_rok rfl rfl rfl rfl) rfl rfl rfl (w_113 (sc := sc) (d := d + 5) 1 2 g25 hvg31) ?_
            refine Wp.steps 1 (pc1 := 158) (lo1 := [some (.ref 113), some (.int x1)]) (st1 := [.ref 113]) (h1 := mk g31) rfl ?_
            obtain ⟨g32, hvg32, e⟩ := zb_bind e
            refine Wp.ca (m := 119) (d1 := d + 5) (as := [.ref 113]) (rest := []) (st1 := []) (pc1 := 161) rfl rfl rfl rfl rfl rfl rfl rfl (mk_rok rfl rfl rfl rfl) rfl rfl rfl (w_119 (sc := sc) (d := d + 4)  g31 hvg32) ?_
            have e1 := zb_r1 e
            subst e1
            exact Wp.ret rfl rfl rfl (K _)
      · skip
        refine Wp.iF (pc1 := 126) rfl hc24 rfl ?_
        have e1 := zb_r1 e
        subst e1
        exact Wp.ret rfl rfl rfl (K _)
    · skip
      refine Wp.iF (pc1 := 107) rfl hc21 rfl ?_
      refine Wp.steps 2 (pc1 := 112) (lo1 := [some (.ref 113), some (.int x1)]) (st1 := [.int 1, .ref 113]) (h1 := mk g8) rfl ?_
      obtain ⟨g33, hg33, e⟩ := zb_let e
      refine Wp.pf (pc1 := 115) rfl rfl rfl rfl rfl rfl hg33 rfl ?_
      refine Wp.steps 1 (pc1 := 116) (lo1 := [some (.ref 113), some (.int x1)]) (st1 := [.ref 113]) (h1 := mk g33) rfl ?_
      obtain ⟨g34, hvg34, e⟩ := zb_bind e
      refine Wp.ca (m := 119) (d1 := d + 5) (as := [.ref 113]) (rest := []) (st1 := []) (pc1 := 119) rfl rfl rfl rfl rfl rfl rfl rfl (mk_rok rfl rfl rfl rfl) rfl rfl rfl (w_119 (sc := sc) (d := d + 4)  g33 hvg34) ?_
      refine Wp.steps 1 (pc1 := 120) (lo1 := [some (.ref 113), some (.int x1)]) (st1 := [.ref 113]) (h1 := mk g34) rfl ?_
      refine Wp.gf (pc1 := 123) (v := .int (g34 113 19)) rfl rfl rfl rfl rfl ?_
      rcases zb_if e with ⟨hc35, e⟩ | ⟨hc35, e⟩
      · skip
        refine Wp.iT (pc1 := 127) rfl hc35 rfl ?_
        refine Wp.steps 2 (pc1 := 129) (lo1 := [some (.ref 113), some (.int x1)]) (st1 := [.int x1, .ref 113]) (h1 := mk g34) rfl ?_
        obtain ⟨g36, hvg36, e⟩ := zb_bind e
        refine Wp.ca (m := 127) (d1 := d + 5) (as := [.ref 113, .int x1]) (rest := []) (st1 := []) (pc1 := 132) rfl rfl rfl rfl rfl rfl rfl rfl (mk_rok rfl rfl rfl rfl) rfl rfl rfl (w_127 (sc := sc) (d := d) x1 g34 hvg36) ?_
        refine Wp.steps 1 (pc1 := 133) (lo1 := [some (.ref 113), some (.int x1)]) (st1 := [.ref 113]) (h1 := mk g36) rfl ?_
        refine Wp.gf (pc1 := 136) (v := .int (g36 113 19)) rfl rfl rfl rfl rfl ?_
        rcases zb_if e with ⟨hc37, e⟩ | ⟨hc37, e⟩
        · skip
          refine Wp.iT (pc1 := 157) rfl hc37 rfl ?_
          refine Wp.steps 1 (pc1 := 158) (lo1 := [some (.ref 113), some (.int x1)]) (st1 := [.ref 113]) (h1 := mk g36) rfl ?_
          obtain ⟨g38, hvg38, e⟩ := zb_bind e
          refine Wp.ca (m := 119) (d1 := d + 5) (as := [.ref 113]) (rest := []) (st1 := []) (pc1 := 161) rfl rfl rfl rfl rfl rfl rfl rfl (mk_rok rfl rfl rfl rfl) rfl rfl rfl (w_119 (sc := sc) (d := d + 4)  g36 hvg38) ?_
          have e1 := zb_r1 e
          subst e1
          exact Wp.ret rfl rfl rfl (K _)
        · skip
          refine Wp.iF (pc1 := 139) rfl hc37 rfl ?_
          refine Wp.steps 2 (pc1 := 141) (lo1 := [some (.ref 113), some (.int x1)]) (st1 := [.ref 113, .ref 113]) (h1 := mk g36) rfl ?_
          refine Wp.gf (pc1 := 144) (v := .int (g36 113 17)) rfl rfl rfl rfl rfl ?_
          refine Wp.steps 1 (pc1 := 145) (lo1 := [some (.ref 113), some (.int x1)]) (st1 := [.int 3, .int (g36 113 17), .ref 113]) (h1 := mk g36) rfl ?_
          rcases zb_if e with ⟨hc39, e⟩ | ⟨hc39, e⟩
          · skip
            refine Wp.cT (pc1 := 152) rfl hc39 rfl ?_
            refine Wp.steps 2 (pc1 := 154) (lo1 := [some (.ref 113), some (.int x1)]) (st1 := [.int 2, .int 0, .ref 113]) (h1 := mk g36) rfl ?_
            obtain ⟨g40, hvg40, e⟩ := zb_let e
            refine Wp.ca (m := 113) (d1 := d + 5) (as := [.ref 113, .int 0, .int 2]) (rest := []) (st1 := []) (pc1 := 157) rfl rfl rfl rfl rfl rfl rfl rfl (mk_rok rfl rfl rfl rfl) rfl rfl rfl (w_113 (sc := sc) (d := d + 5) 0 2 g36 hvg40) ?_
            refine Wp.steps 1 (pc1 := 158) (lo1 := [some (.ref 113), some (.int x1)]) (st1 := [.ref 113]) (h1 := mk g40) rfl ?_
            obtain ⟨g41, hvg41, e⟩ := zb_bind e
            refine Wp.ca (m := 119) (d1 := d + 5) (as := [.ref 113]) (rest := []) (st1 := []) (pc1 := 161) rfl rfl rfl rfl rfl rfl rfl rfl (mk_rok rfl rfl rfl rfl) rfl rfl rfl (w_119 (sc := sc) (d := d + 4)  g40 hvg41) ?_
            have e1 := zb_r1 e
            subst e1
            exact Wp.ret rfl rfl rfl (K _)
          · skip
            refine Wp.cF (pc1 := 148) rfl hc39 rfl ?_
            refine Wp.steps 3 (pc1 := 154) (lo1 := [some (.ref 113), some (.int x1)]) (st1 := [.int 2, .int 1, .ref 113]) (h1 := mk g36) rfl ?_
            obtain ⟨g42, hvg42, e⟩ := zb_let e
            refine Wp.ca (m := 113) (d1 := d + 5) (as := [.ref 113, .int 1, .int 2]) (rest := []) (st1 := []) (pc1 := 157) rfl rfl rfl rfl rfl rfl rfl rfl (mk_rok rfl rfl rfl rfl) rfl rfl rfl (w_113 (sc := sc) (d := d + 5) 1 2 g36 hvg42) ?_
            refine Wp.steps 1 (pc1 := 158) (lo1 := [some (.ref 113), some (.int x1)]) (st1 := [.ref 113]) (h1 := mk g42) rfl ?_
            obtain ⟨g43, hvg43, e⟩ := zb_bind e
            refine Wp.ca (m := 119) (d1 := d + 5) (as := [.ref 113]) (rest := []) (st1 := []) (pc1 := 161) rfl rfl rfl rfl rfl rfl rfl rfl (mk_rok rfl rfl rfl rfl) rfl rfl rfl (w_119 (sc := sc) (d := d + 4)  g42 hvg43) ?_
            have e1 := zb_r1 e
            subst e1
            exact Wp.ret rfl rfl rfl (K _)
      · skip
        refine Wp.iF (pc1 := 126) rfl hc35 rfl ?_
        have e1 := zb_r1 e
        subst e1
        exact Wp.ret rfl rfl rfl (K _)
def d_128_48 (x1 : Int32) (g : G) : Option G :=
  bif zm_cmp .ne x1 2 then (
    zb_l (d_113 1 5 g) fun g6 =>
    bif zm_cmp .ne x1 0 then (
      d_128_91 x1 1 g6) else
    bif zm_cmp .ne (g6 113 7) 0 then (
      d_128_91 x1 0 g6) else
    d_128_91 x1 1 g6) else
  bif zm_cmp .ge (g 116 8) 8 then (
    zb_l (d_113 0 5 g) fun g46 =>
    bif zm_cmp .ne x1 0 then (
      d_128_91 x1 1 g46) else
    bif zm_cmp .ne (g46 113 7) 0 then (
      d_128_91 x1 0 g46) else
    d_128_91 x1 1 g46) else
  zb_l (d_113 1 5 g) fun g49 =>
  bif zm_cmp .ne x1 0 then (
    d_128_91 x1 1 g49) else
  bif zm_cmp .ne (g49 113 7) 0 then (
    d_128_91 x1 0 g49) else
  d_128_91 x1 1 g49
set_option maxRecDepth 100000 in
set_option maxHeartbeats 4000000 in
theorem w_128_48 {sc : Option (List Int32)} {d : Nat} (x1 : Int32) (g : G) (g' : G) (e : d_128_48 x1 g = some g') : zB sc (d + 6) 128 48 [some (.ref 113), some (.int x1)] [.ref 113] (mk g) [] (mk g') := by
  unfold d_128_48 at e
  intro Q K
  refine Wp.steps 2 (pc1 := 50) (lo1 := [some (.ref 113), some (.int x1)]) (st1 := [.int 2, .int x1, .ref 113]) (h1 := mk g) rfl ?_
  rcases zb_if e with ⟨hc5, e⟩ | ⟨hc5, e⟩
  · skip
    refine Wp.cT (pc1 := 65) rfl hc5 rfl ?_
    refine Wp.steps 3 (pc1 := 71) (lo1 := [some (.ref 113), some (.int x1)]) (st1 := [.int 5, .int 1, .ref 113]) (h1 := mk g) rfl ?_
    obtain ⟨g6, hvg6, e⟩ := zb_let e
    refine Wp.ca (m := 113) (d1 := d + 5) (as := [.ref 113, .int 1, .int 5]) (rest := []) (st1 := []) (pc1 := 74) rfl rfl rfl rfl rfl rfl rfl rfl (mk_rok rfl rfl rfl rfl) rfl rfl rfl (w_113 (sc := sc) (d := d + 5) 1 5 g hvg6) ?_
    refine Wp.steps 2 (pc1 := 76) (lo1 := [some (.ref 113), some (.int x1)]) (st1 := [.int x1, .ref 113]) (h1 := mk g6) rfl ?_
    rcases zb_if e with ⟨hc7, e⟩ | ⟨hc7, e⟩
    · skip
      refine Wp.iT (pc1 := 86) rfl hc7 rfl ?_
      refine Wp.steps 2 (pc1 := 91) (lo1 := [some (.ref 113), some (.int x1)]) (st1 := [.int 1, .ref 113]) (h1 := mk g6) rfl ?_
      exact w_128_91 (sc := sc) (d := d) x1 1 g6 _ e Q K
    · skip
      refine Wp.iF (pc1 := 79) rfl hc7 rfl ?_
      refine Wp.steps 1 (pc1 := 80) (lo1 := [some (.ref 113), some (.int x1)]) (st1 := [.ref 113, .ref 113]) (h1 := mk g6) rfl ?_
      refine Wp.gf (pc1 := 83) (v := .int (g6 113 7)) rfl rfl rfl rfl rfl ?_
      rcases zb_if e with ⟨hc44, e⟩ | ⟨hc44, e⟩
      · skip
        refine Wp.iT (pc1 := 90) rfl hc44 rfl ?_
        refine Wp.steps 1 (pc1 := 91) (lo1 := [some (.ref 113), some (.int x1)]) (st1 := [.int 0, .ref 113]) (h1 := mk g6) rfl ?_
        exact w_128_91 (sc := sc) (d := d) x1 0 g6 _ e Q K
      · skip
        refine Wp.iF (pc1 := 86) rfl hc44 rfl ?_
        refine Wp.steps 2 (pc1 := 91) (lo1 := [some (.ref 113), some (.int x1)]) (st1 := [.int 1, .ref 113]) (h1 := mk g6) rfl ?_
        exact w_128_91 (sc := sc) (d := d) x1 1 g6 _ e Q K
  · skip
    refine Wp.cF (pc1 := 53) rfl hc5 rfl ?_
    refine Wp.steps 1 (pc1 := 54) (lo1 := [some (.ref 113), some (.int x1)]) (st1 := [.ref 113, .ref 113]) (h1 := mk g) rfl ?_
    refine Wp.gf (pc1 := 57) (v := .ref 116) rfl rfl rfl rfl rfl ?_
    refine Wp.steps 1 (pc1 := 59) (lo1 := [some (.ref 113), some (.int x1)]) (st1 := [.int 8, .ref 116, .ref 113]) (h1 := mk g) rfl ?_
    refine Wp.ia (pc1 := 60) (k := 8) rfl rfl rfl rfl rfl ?_
    refine Wp.steps 1 (pc1 := 62) (lo1 := [some (.ref 113), some (.int x1)]) (st1 := [.int 8, .int (g 116 8), .ref 113]) (h1 := mk g) rfl ?_
    rcases zb_if e with ⟨hc45, e⟩ | ⟨hc45, e⟩
    · skip
      refine Wp.cT (pc1 := 69) rfl hc45 rfl ?_
      refine Wp.steps 2 (pc1 := 71) (lo1 := [some (.ref 113), some (.int x1)]) (st1 := [.int 5, .int 0, .ref 113]) (h1 := mk g) rfl ?_
      obtain ⟨g46, hvg46, e⟩ := zb_let e
      refine Wp.ca (m := 113) (d1 := d + 5) (as := [.ref 113, .int 0, .int 5]) (rest := []) (st1 := []) (pc1 := 74) rfl rfl rfl rfl rfl rfl rfl rfl (mk_rok rfl rfl rfl rfl) rfl rfl rfl (w_113 (sc := sc) (d := d + 5) 0 5 g hvg46) ?_
      refine Wp.steps 2 (pc1 := 76) (lo1 := [some (.ref 113), some (.int x1)]) (st1 := [.int x1, .ref 113]) (h1 := mk g46) rfl ?_
      rcases zb_if e with ⟨hc47, e⟩ | ⟨hc47, e⟩
      · skip
        refine Wp.iT (pc1 := 86) rfl hc47 rfl ?_
        refine Wp.steps 2 (pc1 := 91) (lo1 := [some (.ref 113), some (.int x1)]) (st1 := [.int 1, .ref 113]) (h1 := mk g46) rfl ?_
        exact w_128_91 (sc := sc) (d := d) x1 1 g46 _ e Q K
      · skip
        refine Wp.iF (pc1 := 79) rfl hc47 rfl ?_
        refine Wp.steps 1 (pc1 := 80) (lo1 := [some (.ref 113), some (.int x1)]) (st1 := [.ref 113, .ref 113]) (h1 := mk g46) rfl ?_
        refine Wp.gf (pc1 := 83) (v := .int (g46 113 7)) rfl rfl rfl rfl rfl ?_
        rcases zb_if e with ⟨hc48, e⟩ | ⟨hc48, e⟩
        · skip
          refine Wp.iT (pc1 := 90) rfl hc48 rfl ?_
          refine Wp.steps 1 (pc1 := 91) (lo1 := [some (.ref 113), some (.int x1)]) (st1 := [.int 0, .ref 113]) (h1 := mk g46) rfl ?_
          exact w_128_91 (sc := sc) (d := d) x1 0 g46 _ e Q K
        · skip
          refine Wp.iF (pc1 := 86) rfl hc48 rfl ?_
          refine Wp.steps 2 (pc1 := 91) (lo1 := [some (.ref 113), some (.int x1)]) (st1 := [.int 1, .ref 113]) (h1 := mk g46) rfl ?_
          exact w_128_91 (sc := sc) (d := d) x1 1 g46 _ e Q K
    · skip
      refine Wp.cF (pc1 := 65) rfl hc45 rfl ?_
      refine Wp.steps 3 (pc1 := 71) (lo1 := [some (.ref 113), some (.int x1)]) (st1 := [.int 5, .int 1, .ref 113]) (h1 := mk g) rfl ?_
      obtain ⟨g49, hvg49, e⟩ := zb_let e
      refine Wp.ca (m := 113) (d1 := d + 5) (as := [.ref 113, .int 1, .int 5]) (rest := []) (st1 := []) (pc1 := 74) rfl rfl rfl rfl rfl rfl rfl rfl (mk_rok rfl rfl rfl rfl) rfl rfl rfl (w_113 (sc := sc) (d := d + 5) 1 5 g hvg49) ?_
      refine Wp.steps 2 (pc1 := 76) (lo1 := [some (.ref 113), some (.int x1)]) (st1 := [.int x1, .ref 113]) (h1 := mk g49) rfl ?_
      rcases zb_if e with ⟨hc50, e⟩ | ⟨hc50, e⟩
      · skip
        refine Wp.iT (pc1 := 86) rfl hc50 rfl ?_
        refine Wp.steps 2 (pc1 := 91) (lo1 := [some (.ref 113), some (.int x1)]) (st1 := [.int 1, .ref 113]) (h1 := mk g49) rfl ?_
        exact w_128_91 (sc := sc) (d := d) x1 1 g49 _ e Q K
      · skip
        refine Wp.iF (pc1 := 79) rfl hc50 rfl ?_
        refine Wp.steps 1 (pc1 := 80) (lo1 := [some (.ref 113), some (.int x1)]) (st1 := [.ref 113, .ref 113]) (h1 := mk g49) rfl ?_
        refine Wp.gf (pc1 := 83) (v := .int (g49 113 7)) rfl rfl rfl rfl rfl ?_
        rcases zb_if e with ⟨hc51, e⟩ | ⟨hc51, e⟩
        · skip
          refine Wp.iT (pc1 := 90) rfl hc51 rfl ?_
          refine Wp.steps 1 (pc1 := 91) (lo1 := [some (.ref 113), some (.int x1)]) (st1 := [.int 0, .ref 113]) (h1 := mk g49) rfl ?_
          exact w_128_91 (sc := sc) (d := d) x1 0 g49 _ e Q K
        · skip
          refine Wp.iF (pc1 := 86) rfl hc51 rfl ?_
          refine Wp.steps 2 (pc1 := 91) (lo1 := [some (.ref 113), some (.int x1)]) (st1 := [.int 1, .ref 113]) (h1 := mk g49) rfl ?_
          exact w_128_91 (sc := sc) (d := d) x1 1 g49 _ e Q K
def d_128_17 (s0 : Int32) (g : G) : Option G :=
  bif zm_cmp .eq s0 (-4) then (
    zb_l (d_113 0 2 g) fun g3 =>
    bif zm_cmp .ne s0 1 then (
      d_128_48 s0 g3) else
    bif zm_cmp .ge (g3 113 6) 4 then (
      zb_l (d_113 0 5 g3) fun g53 =>
      bif zm_cmp .ne s0 0 then (
        d_128_91 s0 1 g53) else
      bif zm_cmp .ne (g53 113 7) 0 then (
        d_128_91 s0 0 g53) else
      d_128_91 s0 1 g53) else
    d_128_48 s0 g3) else
  zb_l (d_113 1 2 g) fun g56 =>
  bif zm_cmp .ne s0 1 then (
    d_128_48 s0 g56) else
  bif zm_cmp .ge (g56 113 6) 4 then (
    zb_l (d_113 0 5 g56) fun g59 =>
    bif zm_cmp .ne s0 0 then (
      d_128_91 s0 1 g59) else
    bif zm_cmp .ne (g59 113 7) 0 then (
      d_128_91 s0 0 g59) else
    d_128_91 s0 1 g59) else
  d_128_48 s0 g56
set_option maxRecDepth 100000 in
set_option maxHeartbeats 4000000 in
theorem w_128_17 {sc : Option (List Int32)} {d : Nat} (s0 : Int32) (g : G) (g' : G) (e : d_128_17 s0 g = some g') : zB sc (d + 6) 128 17 [some (.ref 113), none] [.int s0] (mk g) [] (mk g') := by
  unfold d_128_17 at e
  intro Q K
  refine Wp.steps 4 (pc1 := 22) (lo1 := [some (.ref 113), some (.int s0)]) (st1 := [.int (-4), .int s0, .ref 113]) (h1 := mk g) rfl ?_
  rcases zb_if e with ⟨hc2, e⟩ | ⟨hc2, e⟩
  · skip
    refine Wp.cT (pc1 := 29) rfl hc2 rfl ?_
    refine Wp.steps 2 (pc1 := 31) (lo1 := [some (.ref 113), some (.int s0)]) (st1 := [.int 2, .int 0, .ref 113]) (h1 := mk g) rfl ?_
    obtain ⟨g3, hvg3, e⟩ := zb_let e
    refine Wp.ca (m := 113) (d1 := d + 5) (as := [.ref 113, .int 0, .int 2]) (rest := []) (st1 := []) (pc1 := 34) rfl rfl rfl rfl rfl rfl rfl rfl (mk_rok rfl rfl rfl rfl) rfl rfl rfl (w_113 (sc := sc) (d := d + 5) 0 2 g hvg3) ?_
    refine Wp.steps 3 (pc1 := 37) (lo1 := [some (.ref 113), some (.int s0)]) (st1 := [.int 1, .int s0, .ref 113]) (h1 := mk g3) rfl ?_
    rcases zb_if e with ⟨hc4, e⟩ | ⟨hc4, e⟩
    · skip
      refine Wp.cT (pc1 := 48) rfl hc4 rfl ?_
      exact w_128_48 (sc := sc) (d := d) s0 g3 _ e Q K
    · skip
      refine Wp.cF (pc1 := 40) rfl hc4 rfl ?_
      refine Wp.steps 1 (pc1 := 41) (lo1 := [some (.ref 113), some (.int s0)]) (st1 := [.ref 113, .ref 113]) (h1 := mk g3) rfl ?_
      refine Wp.gf (pc1 := 44) (v := .int (g3 113 6)) rfl rfl rfl rfl rfl ?_
      refine Wp.steps 1 (pc1 := 45) (lo1 := [some (.ref 113), some (.int s0)]) (st1 := [.int 4, .int (g3 113 6), .ref 113]) (h1 := mk g3) rfl ?_
      rcases zb_if e with ⟨hc52, e⟩ | ⟨hc52, e⟩
      · skip
        refine Wp.cT (pc1 := 69) rfl hc52 rfl ?_
        refine Wp.steps 2 (pc1 := 71) (lo1 := [some (.ref 113), some (.int s0)]) (st1 := [.int 5, .int 0, .ref 113]) (h1 := mk g3) rfl ?_
        obtain ⟨g53, hvg53, e⟩ := zb_let e
        refine Wp.ca (m := 113) (d1 := d + 5) (as := [.ref 113, .int 0, .int 5]) (rest := []) (st1 := []) (pc1 := 74) rfl rfl rfl rfl rfl rfl rfl rfl (mk_rok rfl rfl rfl rfl) rfl rfl rfl (w_113 (sc := sc) (d := d + 5) 0 5 g3 hvg53) ?_
        refine Wp.steps 2 (pc1 := 76) (lo1 := [some (.ref 113), some (.int s0)]) (st1 := [.int s0, .ref 113]) (h1 := mk g53) rfl ?_
        rcases zb_if e with ⟨hc54, e⟩ | ⟨hc54, e⟩
        · skip
          refine Wp.iT (pc1 := 86) rfl hc54 rfl ?_
          refine Wp.steps 2 (pc1 := 91) (lo1 := [some (.ref 113), some (.int s0)]) (st1 := [.int 1, .ref 113]) (h1 := mk g53) rfl ?_
          exact w_128_91 (sc := sc) (d := d) s0 1 g53 _ e Q K
        · skip
          refine Wp.iF (pc1 := 79) rfl hc54 rfl ?_
          refine Wp.steps 1 (pc1 := 80) (lo1 := [some (.ref 113), some (.int s0)]) (st1 := [.ref 113, .ref 113]) (h1 := mk g53) rfl ?_
          refine Wp.gf (pc1 := 83) (v := .int (g53 113 7)) rfl rfl rfl rfl rfl ?_
          rcases zb_if e with ⟨hc55, e⟩ | ⟨hc55, e⟩
          · skip
            refine Wp.iT (pc1 := 90) rfl hc55 rfl ?_
            refine Wp.steps 1 (pc1 := 91) (lo1 := [some (.ref 113), some (.int s0)]) (st1 := [.int 0, .ref 113]) (h1 := mk g53) rfl ?_
            exact w_128_91 (sc := sc) (d := d) s0 0 g53 _ e Q K
          · skip
            refine Wp.iF (pc1 := 86) rfl hc55 rfl ?_
            refine Wp.steps 2 (pc1 := 91) (lo1 := [some (.ref 113), some (.int s0)]) (st1 := [.int 1, .ref 113]) (h1 := mk g53) rfl ?_
            exact w_128_91 (sc := sc) (d := d) s0 1 g53 _ e Q K
      · skip
        refine Wp.cF (pc1 := 48) rfl hc52 rfl ?_
        exact w_128_48 (sc := sc) (d := d) s0 g3 _ e Q K
  · skip
    refine Wp.cF (pc1 := 25) rfl hc2 rfl ?_
    refine Wp.steps 3 (pc1 := 31) (lo1 := [some (.ref 113), some (.int s0)]) (st1 := [.int 2, .int 1, .ref 113]) (h1 := mk g) rfl ?_
    obtain ⟨g56, hvg56, e⟩ := zb_let e
    refine Wp.ca (m := 113) (d1 := d + 5) (as := [.ref 113, .int 1, .int 2]) (rest := []) (st1 := []) (pc1 := 34) rfl rfl rfl rfl rfl rfl rfl rfl (mk_rok rfl rfl rfl rfl) rfl rfl rfl (w_113 (sc := sc) (d := d + 5) 1 2 g hvg56) ?_
    refine Wp.steps 3 (pc1 := 37) (lo1 := [some (.ref 113), some (.int s0)]) (st1 := [.int 1, .int s0, .ref 113]) (h1 := mk g56) rfl ?_
    rcases zb_if e with ⟨hc57, e⟩ | ⟨hc57, e⟩
    · skip
      refine Wp.cT (pc1 := 48) rfl hc57 rfl ?_
      exact w_128_48 (sc := sc) (d := d) s0 g56 _ e Q K
    · skip
      refine Wp.cF (pc1 := 40) rfl hc57 rfl ?_
      refine Wp.steps 1 (pc1 := 41) (lo1 := [some (.ref 113), some (.int s0)]) (st1 := [.ref 113, .ref 113]) (h1 := mk g56) rfl ?_
      refine Wp.gf (pc1 := 44) (v := .int (g56 113 6)) rfl rfl rfl rfl rfl ?_
      refine Wp.steps 1 (pc1 := 45) (lo1 := [some (.ref 113), some (.int s0)]) (st1 := [.int 4, .int (g56 113 6), .ref 113]) (h1 := mk g56) rfl ?_
      rcases zb_if e with ⟨hc58, e⟩ | ⟨hc58, e⟩
      · skip
        refine Wp.cT (pc1 := 69) rfl hc58 rfl ?_
        refine Wp.steps 2 (pc1 := 71) (lo1 := [some (.ref 113), some (.int s0)]) (st1 := [.int 5, .int 0, .ref 113]) (h1 := mk g56) rfl ?_
        obtain ⟨g59, hvg59, e⟩ := zb_let e
        refine Wp.ca (m := 113) (d1 := d + 5) (as := [.ref 113, .int 0, .int 5]) (rest := []) (st1 := []) (pc1 := 74) rfl rfl rfl rfl rfl rfl rfl rfl (mk_rok rfl rfl rfl rfl) rfl rfl rfl (w_113 (sc := sc) (d := d + 5) 0 5 g56 hvg59) ?_
        refine Wp.steps 2 (pc1 := 76) (lo1 := [some (.ref 113), some (.int s0)]) (st1 := [.int s0, .ref 113]) (h1 := mk g59) rfl ?_
        rcases zb_if e with ⟨hc60, e⟩ | ⟨hc60, e⟩
        · skip
          refine Wp.iT (pc1 := 86) rfl hc60 rfl ?_
          refine Wp.steps 2 (pc1 := 91) (lo1 := [some (.ref 113), some (.int s0)]) (st1 := [.int 1, .ref 113]) (h1 := mk g59) rfl ?_
          exact w_128_91 (sc := sc) (d := d) s0 1 g59 _ e Q K
        · skip
          refine Wp.iF (pc1 := 79) rfl hc60 rfl ?_
          refine Wp.steps 1 (pc1 := 80) (lo1 := [some (.ref 113), some (.int s0)]) (st1 := [.ref 113, .ref 113]) (h1 := mk g59) rfl ?_
          refine Wp.gf (pc1 := 83) (v := .int (g59 113 7)) rfl rfl rfl rfl rfl ?_
          rcases zb_if e with ⟨hc61, e⟩ | ⟨hc61, e⟩
          · skip
            refine Wp.iT (pc1 := 90) rfl hc61 rfl ?_
            refine Wp.steps 1 (pc1 := 91) (lo1 := [some (.ref 113), some (.int s0)]) (st1 := [.int 0, .ref 113]) (h1 := mk g59) rfl ?_
            exact w_128_91 (sc := sc) (d := d) s0 0 g59 _ e Q K
          · skip
            refine Wp.iF (pc1 := 86) rfl hc61 rfl ?_
            refine Wp.steps 2 (pc1 := 91) (lo1 := [some (.ref 113), some (.int s0)]) (st1 := [.int 1, .ref 113]) (h1 := mk g59) rfl ?_
            exact w_128_91 (sc := sc) (d := d) s0 1 g59 _ e Q K
      · skip
        refine Wp.cF (pc1 := 48) rfl hc58 rfl ?_
        exact w_128_48 (sc := sc) (d := d) s0 g56 _ e Q K
/-- EveningFirstModel.readLine()V -/
def d_128 (g : G) : Option G :=
  bif zm_cmp .ne (g 113 17) 1 then (
    d_128_17 (-4) g) else
  Option.bind (d_117 g) fun v62 =>
  d_128_17 v62 g
set_option maxRecDepth 100000 in
set_option maxHeartbeats 4000000 in
theorem w_128 {sc : Option (List Int32)} {d : Nat} (g : G) {g' : G} (e : d_128 g = some g') : zB sc (d + 6) 128 0 (zm_ent (z_L 128) [.ref 113]) [] (mk g) [] (mk g') := by
  unfold d_128 at e
  intro Q K
  show Wp sc (d + 6) 128 0 [some (.ref 113), none] [] (mk g) Q
  refine Wp.steps 1 (pc1 := 1) (lo1 := [some (.ref 113), none]) (st1 := [.ref 113]) (h1 := mk g) rfl ?_
  refine Wp.gf (pc1 := 4) (v := .int (g 113 17)) rfl rfl rfl rfl rfl ?_
  refine Wp.steps 1 (pc1 := 5) (lo1 := [some (.ref 113), none]) (st1 := [.int 1, .int (g 113 17)]) (h1 := mk g) rfl ?_
  rcases zb_if e with ⟨hc1, e⟩ | ⟨hc1, e⟩
  · skip
    refine Wp.cT (pc1 := 15) rfl hc1 rfl ?_
    refine Wp.steps 1 (pc1 := 17) (lo1 := [some (.ref 113), none]) (st1 := [.int (-4)]) (h1 := mk g) rfl ?_
    exact w_128_17 (sc := sc) (d := d) (-4) g _ e Q K
  · skip
    refine Wp.cF (pc1 := 8) rfl hc1 rfl ?_
    refine Wp.steps 1 (pc1 := 9) (lo1 := [some (.ref 113), none]) (st1 := [.ref 113]) (h1 := mk g) rfl ?_
    obtain ⟨v62, hvv62, e⟩ := zb_bind e
    refine Wp.ca (m := 117) (d1 := d + 5) (as := [.ref 113]) (rest := []) (st1 := [.int v62]) (pc1 := 12) rfl rfl rfl rfl rfl rfl rfl rfl (mk_rok rfl rfl rfl rfl) rfl rfl rfl (w_117 (sc := sc) (d := d + 3)  g hvv62) ?_
    refine Wp.steps 1 (pc1 := 17) (lo1 := [some (.ref 113), none]) (st1 := [.int v62]) (h1 := mk g) rfl ?_
    exact w_128_17 (sc := sc) (d := d) v62 g _ e Q K
def d_110_2 : Nat → Int32 → G → Option G
  | 0, _, _ => none
  | f + 1, x1, g =>
    bif zm_cmp .ge x1 98 then (
      zb_l (zg_up g 113 2 (g 113 5)) fun g2 =>
      zb_l (zg_up g2 113 3 (g2 113 6)) fun g3 =>
      zb_l (zg_up g3 115 0 (zm_nar 2 0)) fun g4 =>
      zb_l (zg_up g4 115 1 (zm_nar 2 0)) fun g5 =>
      some g5) else
    Option.bind (zm_ix x1 98) fun k6 =>
    Option.bind (zm_ix x1 294) fun k8 =>
    zb_l (zg_up g 114 k8 (g 116 k6)) fun g7 =>
    d_110_2 f (x1 + 1) g7
set_option maxRecDepth 100000 in
set_option maxHeartbeats 4000000 in
theorem w_110_2 {sc : Option (List Int32)} {d : Nat} : ∀ (f : Nat) (x1 : Int32) (g : G) (g' : G), d_110_2 f x1 g = some g' → zB sc (d) 110 2 [some (.ref 113), some (.int x1)] [] (mk g) [] (mk g') := by
  intro f
  induction f with
  | zero =>
    intro x1 g g' e
    rw [d_110_2.eq_1] at e
    cases e
  | succ f ih =>
    intro x1 g g' e
    rw [d_110_2.eq_2] at e
    intro Q K
    refine Wp.steps 2 (pc1 := 5) (lo1 := [some (.ref 113), some (.int x1)]) (st1 := [.int 98, .int x1]) (h1 := mk g) rfl ?_
    rcases zb_if e with ⟨hc1, e⟩ | ⟨hc1, e⟩
    · skip
      refine Wp.cT (pc1 := 26) rfl hc1 rfl ?_
      refine Wp.steps 2 (pc1 := 28) (lo1 := [some (.ref 113), some (.int x1)]) (st1 := [.ref 113, .ref 113]) (h1 := mk g) rfl ?_
      refine Wp.gf (pc1 := 31) (v := .int (g 113 5)) rfl rfl rfl rfl rfl ?_
      obtain ⟨g2, hg2, e⟩ := zb_let e
      refine Wp.pf (pc1 := 34) rfl rfl rfl rfl rfl rfl hg2 rfl ?_
      refine Wp.steps 2 (pc1 := 36) (lo1 := [some (.ref 113), some (.int x1)]) (st1 := [.ref 113, .ref 113]) (h1 := mk g2) rfl ?_
      refine Wp.gf (pc1 := 39) (v := .int (g2 113 6)) rfl rfl rfl rfl rfl ?_
      obtain ⟨g3, hg3, e⟩ := zb_let e
      refine Wp.pf (pc1 := 42) rfl rfl rfl rfl rfl rfl hg3 rfl ?_
      refine Wp.steps 1 (pc1 := 43) (lo1 := [some (.ref 113), some (.int x1)]) (st1 := [.ref 113]) (h1 := mk g3) rfl ?_
      refine Wp.gf (pc1 := 46) (v := .ref 115) rfl rfl rfl rfl rfl ?_
      refine Wp.steps 2 (pc1 := 48) (lo1 := [some (.ref 113), some (.int x1)]) (st1 := [.int 0, .int 0, .ref 115]) (h1 := mk g3) rfl ?_
      obtain ⟨g4, hg4, e⟩ := zb_let e
      refine Wp.bas (pc1 := 49) (k := 0) rfl rfl rfl rfl hg4 rfl ?_
      refine Wp.steps 1 (pc1 := 50) (lo1 := [some (.ref 113), some (.int x1)]) (st1 := [.ref 113]) (h1 := mk g4) rfl ?_
      refine Wp.gf (pc1 := 53) (v := .ref 115) rfl rfl rfl rfl rfl ?_
      refine Wp.steps 2 (pc1 := 55) (lo1 := [some (.ref 113), some (.int x1)]) (st1 := [.int 0, .int 1, .ref 115]) (h1 := mk g4) rfl ?_
      obtain ⟨g5, hg5, e⟩ := zb_let e
      refine Wp.bas (pc1 := 56) (k := 1) rfl rfl rfl rfl hg5 rfl ?_
      have e1 := zb_r1 e
      subst e1
      exact Wp.ret rfl rfl rfl (K _)
    · skip
      refine Wp.cF (pc1 := 8) rfl hc1 rfl ?_
      refine Wp.steps 1 (pc1 := 9) (lo1 := [some (.ref 113), some (.int x1)]) (st1 := [.ref 113]) (h1 := mk g) rfl ?_
      refine Wp.gf (pc1 := 12) (v := .ref 114) rfl rfl rfl rfl rfl ?_
      refine Wp.steps 2 (pc1 := 14) (lo1 := [some (.ref 113), some (.int x1)]) (st1 := [.ref 113, .int x1, .ref 114]) (h1 := mk g) rfl ?_
      refine Wp.gf (pc1 := 17) (v := .ref 116) rfl rfl rfl rfl rfl ?_
      refine Wp.steps 1 (pc1 := 18) (lo1 := [some (.ref 113), some (.int x1)]) (st1 := [.int x1, .ref 116, .int x1, .ref 114]) (h1 := mk g) rfl ?_
      obtain ⟨k6, hk6, e⟩ := zb_bind e
      refine Wp.ia (pc1 := 19) rfl rfl rfl hk6 rfl ?_
      obtain ⟨k8, hk8, e⟩ := zb_bind e
      obtain ⟨g7, hg7, e⟩ := zb_let e
      refine Wp.ias (pc1 := 20) rfl rfl rfl hk8 hg7 rfl ?_
      refine Wp.steps 2 (pc1 := 2) (lo1 := [some (.ref 113), some (.int (x1 + 1))]) (st1 := []) (h1 := mk g7) rfl ?_
      exact ih _ _ _ e Q K
/-- EveningFirstModel.keepDraft()V -/
def d_110 (g : G) : Option G :=
  d_110_2 300 0 g
set_option maxRecDepth 100000 in
set_option maxHeartbeats 4000000 in
theorem w_110 {sc : Option (List Int32)} {d : Nat} (g : G) {g' : G} (e : d_110 g = some g') : zB sc (d) 110 0 (zm_ent (z_L 110) [.ref 113]) [] (mk g) [] (mk g') := by
  unfold d_110 at e
  intro Q K
  show Wp sc (d) 110 0 [some (.ref 113), none] [] (mk g) Q
  refine Wp.steps 2 (pc1 := 2) (lo1 := [some (.ref 113), some (.int 0)]) (st1 := []) (h1 := mk g) rfl ?_
  exact w_110_2 (sc := sc) (d := d) 300 0 g _ e Q K
def d_129_44 (x1 : Int32) (g : G) : Option (Int32 × G) :=
  bif zm_cmp .ne (g 113 19) 0 then (
    zb_l (zg_up g 113 14 0) fun g7 =>
    bif zm_cmp .le (g7 113 19) 0 then (
      Option.bind (d_110 g7) fun g9 =>
      some (x1, g9)) else
    some (((-10) - (g7 113 20)), g7)) else
  bif zm_cmp .ge (g 113 10) (g 113 5) then (
    zb_l (d_113 0 6 g) fun g11 =>
    zb_l (zg_up g11 113 14 0) fun g12 =>
    bif zm_cmp .le (g12 113 19) 0 then (
      Option.bind (d_110 g12) fun g14 =>
      some (x1, g14)) else
    some (((-10) - (g12 113 20)), g12)) else
  bif zm_cmp .ge (g 113 11) (g 113 6) then (
    zb_l (d_113 0 6 g) fun g16 =>
    zb_l (zg_up g16 113 14 0) fun g17 =>
    bif zm_cmp .le (g17 113 19) 0 then (
      Option.bind (d_110 g17) fun g19 =>
      some (x1, g19)) else
    some (((-10) - (g17 113 20)), g17)) else
  bif zm_cmp .ge (g 113 12) (g 116 8) then (
    zb_l (d_113 0 6 g) fun g21 =>
    zb_l (zg_up g21 113 14 0) fun g22 =>
    bif zm_cmp .le (g22 113 19) 0 then (
      Option.bind (d_110 g22) fun g24 =>
      some (x1, g24)) else
    some (((-10) - (g22 113 20)), g22)) else
  zb_l (d_113 1 6 g) fun g25 =>
  zb_l (zg_up g25 113 14 0) fun g26 =>
  bif zm_cmp .le (g26 113 19) 0 then (
    Option.bind (d_110 g26) fun g28 =>
    some (x1, g28)) else
  some (((-10) - (g26 113 20)), g26)
set_option maxRecDepth 100000 in
set_option maxHeartbeats 4000000 in
theorem w_129_44 {sc : Option (List Int32)} {d : Nat} (x1 : Int32) (g : G) (r : Int32) (g' : G) (e : d_129_44 x1 g = some (r, g')) : zB sc (d + 7) 129 44 [some (.ref 113), some (.int x1)] [] (mk g) [.int r] (mk g') := by
  unfold d_129_44 at e
  intro Q K
  refine Wp.steps 1 (pc1 := 45) (lo1 := [some (.ref 113), some (.int x1)]) (st1 := [.ref 113]) (h1 := mk g) rfl ?_
  refine Wp.gf (pc1 := 48) (v := .int (g 113 19)) rfl rfl rfl rfl rfl ?_
  rcases zb_if e with ⟨hc6, e⟩ | ⟨hc6, e⟩
  · skip
    refine Wp.iT (pc1 := 98) rfl hc6 rfl ?_
    refine Wp.steps 2 (pc1 := 100) (lo1 := [some (.ref 113), some (.int x1)]) (st1 := [.int 0, .ref 113]) (h1 := mk g) rfl ?_
    obtain ⟨g7, hg7, e⟩ := zb_let e
    refine Wp.pf (pc1 := 103) rfl rfl rfl rfl rfl rfl hg7 rfl ?_
    refine Wp.steps 1 (pc1 := 104) (lo1 := [some (.ref 113), some (.int x1)]) (st1 := [.ref 113]) (h1 := mk g7) rfl ?_
    refine Wp.gf (pc1 := 107) (v := .int (g7 113 19)) rfl rfl rfl rfl rfl ?_
    rcases zb_if e with ⟨hc8, e⟩ | ⟨hc8, e⟩
    · skip
      refine Wp.iT (pc1 := 118) rfl hc8 rfl ?_
      refine Wp.steps 1 (pc1 := 119) (lo1 := [some (.ref 113), some (.int x1)]) (st1 := [.ref 113]) (h1 := mk g7) rfl ?_
      obtain ⟨g9, hvg9, e⟩ := zb_bind e
      refine Wp.ca (m := 110) (d1 := d + 6) (as := [.ref 113]) (rest := []) (st1 := []) (pc1 := 122) rfl rfl rfl rfl rfl rfl rfl rfl (mk_rok rfl rfl rfl rfl) rfl rfl rfl (w_110 (sc := sc) (d := d + 6)  g7 hvg9) ?_
      refine Wp.steps 1 (pc1 := 123) (lo1 := [some (.ref 113), some (.int x1)]) (st1 := [.int x1]) (h1 := mk g9) rfl ?_
      obtain ⟨e1, e2⟩ := zb_r2 e
      subst e1
      subst e2
      exact Wp.ret rfl rfl rfl (K _)
    · skip
      refine Wp.iF (pc1 := 110) rfl hc8 rfl ?_
      refine Wp.steps 2 (pc1 := 113) (lo1 := [some (.ref 113), some (.int x1)]) (st1 := [.ref 113, .int (-10)]) (h1 := mk g7) rfl ?_
      refine Wp.gf (pc1 := 116) (v := .int (g7 113 20)) rfl rfl rfl rfl rfl ?_
      refine Wp.steps 1 (pc1 := 117) (lo1 := [some (.ref 113), some (.int x1)]) (st1 := [.int ((-10) - (g7 113 20))]) (h1 := mk g7) rfl ?_
      obtain ⟨e1, e2⟩ := zb_r2 e
      subst e1
      subst e2
      exact Wp.ret rfl rfl rfl (K _)
  · skip
    refine Wp.iF (pc1 := 51) rfl hc6 rfl ?_
    refine Wp.steps 2 (pc1 := 53) (lo1 := [some (.ref 113), some (.int x1)]) (st1 := [.ref 113, .ref 113]) (h1 := mk g) rfl ?_
    refine Wp.gf (pc1 := 56) (v := .int (g 113 10)) rfl rfl rfl rfl rfl ?_
    refine Wp.steps 1 (pc1 := 57) (lo1 := [some (.ref 113), some (.int x1)]) (st1 := [.ref 113, .int (g 113 10), .ref 113]) (h1 := mk g) rfl ?_
    refine Wp.gf (pc1 := 60) (v := .int (g 113 5)) rfl rfl rfl rfl rfl ?_
    rcases zb_if e with ⟨hc10, e⟩ | ⟨hc10, e⟩
    · skip
      refine Wp.cT (pc1 := 92) rfl hc10 rfl ?_
      refine Wp.steps 2 (pc1 := 95) (lo1 := [some (.ref 113), some (.int x1)]) (st1 := [.int 6, .int 0, .ref 113]) (h1 := mk g) rfl ?_
      obtain ⟨g11, hvg11, e⟩ := zb_let e
      refine Wp.ca (m := 113) (d1 := d + 6) (as := [.ref 113, .int 0, .int 6]) (rest := []) (st1 := []) (pc1 := 98) rfl rfl rfl rfl rfl rfl rfl rfl (mk_rok rfl rfl rfl rfl) rfl rfl rfl (w_113 (sc := sc) (d := d + 6) 0 6 g hvg11) ?_
      refine Wp.steps 2 (pc1 := 100) (lo1 := [some (.ref 113), some (.int x1)]) (st1 := [.int 0, .ref 113]) (h1 := mk g11) rfl ?_
      obtain ⟨g12, hg12, e⟩ := zb_let e
      refine Wp.pf (pc1 := 103) rfl rfl rfl rfl rfl rfl hg12 rfl ?_
      refine Wp.steps 1 (pc1 := 104) (lo1 := [some (.ref 113), some (.int x1)]) (st1 := [.ref 113]) (h1 := mk g12) rfl ?_
      refine Wp.gf (pc1 := 107) (v := .int (g12 113 19)) rfl rfl rfl rfl rfl ?_
      rcases zb_if e with ⟨hc13, e⟩ | ⟨hc13, e⟩
      · skip
        refine Wp.iT (pc1 := 118) rfl hc13 rfl ?_
        refine Wp.steps 1 (pc1 := 119) (lo1 := [some (.ref 113), some (.int x1)]) (st1 := [.ref 113]) (h1 := mk g12) rfl ?_
        obtain ⟨g14, hvg14, e⟩ := zb_bind e
        refine Wp.ca (m := 110) (d1 := d + 6) (as := [.ref 113]) (rest := []) (st1 := []) (pc1 := 122) rfl rfl rfl rfl rfl rfl rfl rfl (mk_rok rfl rfl rfl rfl) rfl rfl rfl (w_110 (sc := sc) (d := d + 6)  g12 hvg14) ?_
        refine Wp.steps 1 (pc1 := 123) (lo1 := [some (.ref 113), some (.int x1)]) (st1 := [.int x1]) (h1 := mk g14) rfl ?_
        obtain ⟨e1, e2⟩ := zb_r2 e
        subst e1
        subst e2
        exact Wp.ret rfl rfl rfl (K _)
      · skip
        refine Wp.iF (pc1 := 110) rfl hc13 rfl ?_
        refine Wp.steps 2 (pc1 := 113) (lo1 := [some (.ref 113), some (.int x1)]) (st1 := [.ref 113, .int (-10)]) (h1 := mk g12) rfl ?_
        refine Wp.gf (pc1 := 116) (v := .int (g12 113 20)) rfl rfl rfl rfl rfl ?_
        refine Wp.steps 1 (pc1 := 117) (lo1 := [some (.ref 113), some (.int x1)]) (st1 := [.int ((-10) - (g12 113 20))]) (h1 := mk g12) rfl ?_
        obtain ⟨e1, e2⟩ := zb_r2 e
        subst e1
        subst e2
        exact Wp.ret rfl rfl rfl (K _)
    · skip
      refine Wp.cF (pc1 := 63) rfl hc10 rfl ?_
      refine Wp.steps 1 (pc1 := 64) (lo1 := [some (.ref 113), some (.int x1)]) (st1 := [.ref 113, .ref 113]) (h1 := mk g) rfl ?_
      refine Wp.gf (pc1 := 67) (v := .int (g 113 11)) rfl rfl rfl rfl rfl ?_
      refine Wp.steps 1 (pc1 := 68) (lo1 := [some (.ref 113), some (.int x1)]) (st1 := [.ref 113, .int (g 113 11), .ref 113]) (h1 := mk g) rfl ?_
      refine Wp.gf (pc1 := 71) (v := .int (g 113 6)) rfl rfl rfl rfl rfl ?_
      rcases zb_if e with ⟨hc15, e⟩ | ⟨hc15, e⟩
      · skip
        refine Wp.cT (pc1 := 92) rfl hc15 rfl ?_
        refine Wp.steps 2 (pc1 := 95) (lo1 := [some (.ref 113), some (.int x1)]) (st1 := [.int 6, .int 0, .ref 113]) (h1 := mk g) rfl ?_
        obtain ⟨g16, hvg16, e⟩ := zb_let e
        refine Wp.ca (m := 113) (d1 := d + 6) (as := [.ref 113, .int 0, .int 6]) (rest := []) (st1 := []) (pc1 := 98) rfl rfl rfl rfl rfl rfl rfl rfl (mk_rok rfl rfl rfl rfl) rfl rfl rfl (w_113 (sc := sc) (d := d + 6) 0 6 g hvg16) ?_
        refine Wp.steps 2 (pc1 := 100) (lo1 := [some (.ref 113), some (.int x1)]) (st1 := [.int 0, .ref 113]) (h1 := mk g16) rfl ?_
        obtain ⟨g17, hg17, e⟩ := zb_let e
        refine Wp.pf (pc1 := 103) rfl rfl rfl rfl rfl rfl hg17 rfl ?_
        refine Wp.steps 1 (pc1 := 104) (lo1 := [some (.ref 113), some (.int x1)]) (st1 := [.ref 113]) (h1 := mk g17) rfl ?_
        refine Wp.gf (pc1 := 107) (v := .int (g17 113 19)) rfl rfl rfl rfl rfl ?_
        rcases zb_if e with ⟨hc18, e⟩ | ⟨hc18, e⟩
        · skip
          refine Wp.iT (pc1 := 118) rfl hc18 rfl ?_
          refine Wp.steps 1 (pc1 := 119) (lo1 := [some (.ref 113), some (.int x1)]) (st1 := [.ref 113]) (h1 := mk g17) rfl ?_
          obtain ⟨g19, hvg19, e⟩ := zb_bind e
          refine Wp.ca (m := 110) (d1 := d + 6) (as := [.ref 113]) (rest := []) (st1 := []) (pc1 := 122) rfl rfl rfl rfl rfl rfl rfl rfl (mk_rok rfl rfl rfl rfl) rfl rfl rfl (w_110 (sc := sc) (d := d + 6)  g17 hvg19) ?_
          refine Wp.steps 1 (pc1 := 123) (lo1 := [some (.ref 113), some (.int x1)]) (st1 := [.int x1]) (h1 := mk g19) rfl ?_
          obtain ⟨e1, e2⟩ := zb_r2 e
          subst e1
          subst e2
          exact Wp.ret rfl rfl rfl (K _)
        · skip
          refine Wp.iF (pc1 := 110) rfl hc18 rfl ?_
          refine Wp.steps 2 (pc1 := 113) (lo1 := [some (.ref 113), some (.int x1)]) (st1 := [.ref 113, .int (-10)]) (h1 := mk g17) rfl ?_
          refine Wp.gf (pc1 := 116) (v := .int (g17 113 20)) rfl rfl rfl rfl rfl ?_
          refine Wp.steps 1 (pc1 := 117) (lo1 := [some (.ref 113), some (.int x1)]) (st1 := [.int ((-10) - (g17 113 20))]) (h1 := mk g17) rfl ?_
          obtain ⟨e1, e2⟩ := zb_r2 e
          subst e1
          subst e2
          exact Wp.ret rfl rfl rfl (K _)
      · skip
        refine Wp.cF (pc1 := 74) rfl hc15 rfl ?_
        refine Wp.steps 1 (pc1 := 75) (lo1 := [some (.ref 113), some (.int x1)]) (st1 := [.ref 113, .ref 113]) (h1 := mk g) rfl ?_
        refine Wp.gf (pc1 := 78) (v := .int (g 113 12)) rfl rfl rfl rfl rfl ?_
        refine Wp.steps 1 (pc1 := 79) (lo1 := [some (.ref 113), some (.int x1)]) (st1 := [.ref 113, .int (g 113 12), .ref 113]) (h1 := mk g) rfl ?_
        refine Wp.gf (pc1 := 82) (v := .ref 116) rfl rfl rfl rfl rfl ?_
        refine Wp.steps 1 (pc1 := 84) (lo1 := [some (.ref 113), some (.int x1)]) (st1 := [.int 8, .ref 116, .int (g 113 12), .ref 113]) (h1 := mk g) rfl ?_
        refine Wp.ia (pc1 := 85) (k := 8) rfl rfl rfl rfl rfl ?_
        rcases zb_if e with ⟨hc20, e⟩ | ⟨hc20, e⟩
        · skip
          refine Wp.cT (pc1 := 92) rfl hc20 rfl ?_
          refine Wp.steps 2 (pc1 := 95) (lo1 := [some (.ref 113), some (.int x1)]) (st1 := [.int 6, .int 0, .ref 113]) (h1 := mk g) rfl ?_
          obtain ⟨g21, hvg21, e⟩ := zb_let e
          refine Wp.ca (m := 113) (d1 := d + 6) (as := [.ref 113, .int 0, .int 6]) (rest := []) (st1 := []) (pc1 := 98) rfl rfl rfl rfl rfl rfl rfl rfl (mk_rok rfl rfl rfl rfl) rfl rfl rfl (w_113 (sc := sc) (d := d + 6) 0 6 g hvg21) ?_
          refine Wp.steps 2 (pc1 := 100) (lo1 := [some (.ref 113), some (.int x1)]) (st1 := [.int 0, .ref 113]) (h1 := mk g21) rfl ?_
          obtain ⟨g22, hg22, e⟩ := zb_let e
          refine Wp.pf (pc1 := 103) rfl rfl rfl rfl rfl rfl hg22 rfl ?_
          refine Wp.steps 1 (pc1 := 104) (lo1 := [some (.ref 113), some (.int x1)]) (st1 := [.ref 113]) (h1 := mk g22) rfl ?_
          refine Wp.gf (pc1 := 107) (v := .int (g22 113 19)) rfl rfl rfl rfl rfl ?_
          rcases zb_if e with ⟨hc23, e⟩ | ⟨hc23, e⟩
          · skip
            refine Wp.iT (pc1 := 118) rfl hc23 rfl ?_
            refine Wp.steps 1 (pc1 := 119) (lo1 := [some (.ref 113), some (.int x1)]) (st1 := [.ref 113]) (h1 := mk g22) rfl ?_
            obtain ⟨g24, hvg24, e⟩ := zb_bind e
            refine Wp.ca (m := 110) (d1 := d + 6) (as := [.ref 113]) (rest := []) (st1 := []) (pc1 := 122) rfl rfl rfl rfl rfl rfl rfl rfl (mk_rok rfl rfl rfl rfl) rfl rfl rfl (w_110 (sc := sc) (d := d + 6)  g22 hvg24) ?_
            refine Wp.steps 1 (pc1 := 123) (lo1 := [some (.ref 113), some (.int x1)]) (st1 := [.int x1]) (h1 := mk g24) rfl ?_
            obtain ⟨e1, e2⟩ := zb_r2 e
            subst e1
            subst e2
            exact Wp.ret rfl rfl rfl (K _)
          · skip
            refine Wp.iF (pc1 := 110) rfl hc23 rfl ?_
            refine Wp.steps 2 (pc1 := 113) (lo1 := [some (.ref 113), some (.int x1)]) (st1 := [.ref 113, .int (-10)]) (h1 := mk g22) rfl ?_
            refine Wp.gf (pc1 := 116) (v := .int (g22 113 20)) rfl rfl rfl rfl rfl ?_
            refine Wp.steps 1 (pc1 := 117) (lo1 := [some (.ref 113), some (.int x1)]) (st1 := [.int ((-10) - (g22 113 20))]) (h1 := mk g22) rfl ?_
            obtain ⟨e1, e2⟩ := zb_r2 e
            subst e1
            subst e2
            exact Wp.ret rfl rfl rfl (K _)
        · skip
          refine Wp.cF (pc1 := 88) rfl hc20 rfl ?_
          refine Wp.steps 3 (pc1 := 95) (lo1 := [some (.ref 113), some (.int x1)]) (st1 := [.int 6, .int 1, .ref 113]) (h1 := mk g) rfl ?_
          obtain ⟨g25, hvg25, e⟩ := zb_let e
          refine Wp.ca (m := 113) (d1 := d + 6) (as := [.ref 113, .int 1, .int 6]) (rest := []) (st1 := []) (pc1 := 98) rfl rfl rfl rfl rfl rfl rfl rfl (mk_rok rfl rfl rfl rfl) rfl rfl rfl (w_113 (sc := sc) (d := d + 6) 1 6 g hvg25) ?_
          refine Wp.steps 2 (pc1 := 100) (lo1 := [some (.ref 113), some (.int x1)]) (st1 := [.int 0, .ref 113]) (h1 := mk g25) rfl ?_
          obtain ⟨g26, hg26, e⟩ := zb_let e
          refine Wp.pf (pc1 := 103) rfl rfl rfl rfl rfl rfl hg26 rfl ?_
          refine Wp.steps 1 (pc1 := 104) (lo1 := [some (.ref 113), some (.int x1)]) (st1 := [.ref 113]) (h1 := mk g26) rfl ?_
          refine Wp.gf (pc1 := 107) (v := .int (g26 113 19)) rfl rfl rfl rfl rfl ?_
          rcases zb_if e with ⟨hc27, e⟩ | ⟨hc27, e⟩
          · skip
            refine Wp.iT (pc1 := 118) rfl hc27 rfl ?_
            refine Wp.steps 1 (pc1 := 119) (lo1 := [some (.ref 113), some (.int x1)]) (st1 := [.ref 113]) (h1 := mk g26) rfl ?_
            obtain ⟨g28, hvg28, e⟩ := zb_bind e
            refine Wp.ca (m := 110) (d1 := d + 6) (as := [.ref 113]) (rest := []) (st1 := []) (pc1 := 122) rfl rfl rfl rfl rfl rfl rfl rfl (mk_rok rfl rfl rfl rfl) rfl rfl rfl (w_110 (sc := sc) (d := d + 6)  g26 hvg28) ?_
            refine Wp.steps 1 (pc1 := 123) (lo1 := [some (.ref 113), some (.int x1)]) (st1 := [.int x1]) (h1 := mk g28) rfl ?_
            obtain ⟨e1, e2⟩ := zb_r2 e
            subst e1
            subst e2
            exact Wp.ret rfl rfl rfl (K _)
          · skip
            refine Wp.iF (pc1 := 110) rfl hc27 rfl ?_
            refine Wp.steps 2 (pc1 := 113) (lo1 := [some (.ref 113), some (.int x1)]) (st1 := [.ref 113, .int (-10)]) (h1 := mk g26) rfl ?_
            refine Wp.gf (pc1 := 116) (v := .int (g26 113 20)) rfl rfl rfl rfl rfl ?_
            refine Wp.steps 1 (pc1 := 117) (lo1 := [some (.ref 113), some (.int x1)]) (st1 := [.int ((-10) - (g26 113 20))]) (h1 := mk g26) rfl ?_
            obtain ⟨e1, e2⟩ := zb_r2 e
            subst e1
            subst e2
            exact Wp.ret rfl rfl rfl (K _)
def d_129_20 : Nat → Int32 → G → Option (Int32 × G)
  | 0, _, _ => none
  | f + 1, x1, g =>
    bif zm_cmp .ne (g 113 19) 0 then (
      d_129_44 x1 g) else
    bif zm_cmp .eq (g 113 17) 0 then (
      d_129_44 x1 g) else
    Option.bind (d_128 g) fun g30 =>
    d_129_20 f (x1 + 1) g30
set_option maxRecDepth 100000 in
set_option maxHeartbeats 4000000 in
theorem w_129_20 {sc : Option (List Int32)} {d : Nat} : ∀ (f : Nat) (x1 : Int32) (g : G) (r : Int32) (g' : G), d_129_20 f x1 g = some (r, g') → zB sc (d + 7) 129 20 [some (.ref 113), some (.int x1)] [] (mk g) [.int r] (mk g') := by
  intro f
  induction f with
  | zero =>
    intro x1 g r g' e
    rw [d_129_20.eq_1] at e
    cases e
  | succ f ih =>
    intro x1 g r g' e
    rw [d_129_20.eq_2] at e
    intro Q K
    refine Wp.steps 1 (pc1 := 21) (lo1 := [some (.ref 113), some (.int x1)]) (st1 := [.ref 113]) (h1 := mk g) rfl ?_
    refine Wp.gf (pc1 := 24) (v := .int (g 113 19)) rfl rfl rfl rfl rfl ?_
    rcases zb_if e with ⟨hc5, e⟩ | ⟨hc5, e⟩
    · skip
      refine Wp.iT (pc1 := 44) rfl hc5 rfl ?_
      exact w_129_44 (sc := sc) (d := d) x1 g _ _ e Q K
    · skip
      refine Wp.iF (pc1 := 27) rfl hc5 rfl ?_
      refine Wp.steps 1 (pc1 := 28) (lo1 := [some (.ref 113), some (.int x1)]) (st1 := [.ref 113]) (h1 := mk g) rfl ?_
      refine Wp.gf (pc1 := 31) (v := .int (g 113 17)) rfl rfl rfl rfl rfl ?_
      rcases zb_if e with ⟨hc29, e⟩ | ⟨hc29, e⟩
      · skip
        refine Wp.iT (pc1 := 44) rfl hc29 rfl ?_
        exact w_129_44 (sc := sc) (d := d) x1 g _ _ e Q K
      · skip
        refine Wp.iF (pc1 := 34) rfl hc29 rfl ?_
        refine Wp.steps 1 (pc1 := 35) (lo1 := [some (.ref 113), some (.int x1)]) (st1 := [.ref 113]) (h1 := mk g) rfl ?_
        obtain ⟨g30, hvg30, e⟩ := zb_bind e
        refine Wp.ca (m := 128) (d1 := d + 6) (as := [.ref 113]) (rest := []) (st1 := []) (pc1 := 38) rfl rfl rfl rfl rfl rfl rfl rfl (mk_rok rfl rfl rfl rfl) rfl rfl rfl (w_128 (sc := sc) (d := d)  g hvg30) ?_
        refine Wp.steps 2 (pc1 := 20) (lo1 := [some (.ref 113), some (.int (x1 + 1))]) (st1 := []) (h1 := mk g30) rfl ?_
        exact ih _ _ _ _ e Q K
/-- EveningFirstModel.text()I -/
def d_129 (g : G) : Option (Int32 × G) :=
  zb_l (zg_up g 113 19 0) fun g1 =>
  zb_l (zg_up g1 113 15 0) fun g2 =>
  Option.bind (d_109 g2) fun g3 =>
  Option.bind (d_119 g3) fun g4 =>
  d_129_20 300 0 g4
set_option maxRecDepth 100000 in
set_option maxHeartbeats 4000000 in
theorem w_129 {sc : Option (List Int32)} {d : Nat} (g : G) {r : Int32} {g' : G} (e : d_129 g = some (r, g')) : zB sc (d + 7) 129 0 (zm_ent (z_L 129) [.ref 113]) [] (mk g) [.int r] (mk g') := by
  unfold d_129 at e
  intro Q K
  show Wp sc (d + 7) 129 0 [some (.ref 113), none] [] (mk g) Q
  refine Wp.steps 4 (pc1 := 4) (lo1 := [some (.ref 113), some (.int 0)]) (st1 := [.int 0, .ref 113]) (h1 := mk g) rfl ?_
  obtain ⟨g1, hg1, e⟩ := zb_let e
  refine Wp.pf (pc1 := 7) rfl rfl rfl rfl rfl rfl hg1 rfl ?_
  refine Wp.steps 2 (pc1 := 9) (lo1 := [some (.ref 113), some (.int 0)]) (st1 := [.int 0, .ref 113]) (h1 := mk g1) rfl ?_
  obtain ⟨g2, hg2, e⟩ := zb_let e
  refine Wp.pf (pc1 := 12) rfl rfl rfl rfl rfl rfl hg2 rfl ?_
  refine Wp.steps 1 (pc1 := 13) (lo1 := [some (.ref 113), some (.int 0)]) (st1 := [.ref 113]) (h1 := mk g2) rfl ?_
  obtain ⟨g3, hvg3, e⟩ := zb_bind e
  refine Wp.ca (m := 109) (d1 := d + 6) (as := [.ref 113]) (rest := []) (st1 := []) (pc1 := 16) rfl rfl rfl rfl rfl rfl rfl rfl (mk_rok rfl rfl rfl rfl) rfl rfl rfl (w_109 (sc := sc) (d := d + 6)  g2 hvg3) ?_
  refine Wp.steps 1 (pc1 := 17) (lo1 := [some (.ref 113), some (.int 0)]) (st1 := [.ref 113]) (h1 := mk g3) rfl ?_
  obtain ⟨g4, hvg4, e⟩ := zb_bind e
  refine Wp.ca (m := 119) (d1 := d + 6) (as := [.ref 113]) (rest := []) (st1 := []) (pc1 := 20) rfl rfl rfl rfl rfl rfl rfl rfl (mk_rok rfl rfl rfl rfl) rfl rfl rfl (w_119 (sc := sc) (d := d + 5)  g3 hvg4) ?_
  exact w_129_20 (sc := sc) (d := d) 300 0 g4 _ _ e Q K
