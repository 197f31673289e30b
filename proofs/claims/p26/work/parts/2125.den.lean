/-! printed by wip/tools/den.py -/
/-- EveningFirstModel.count(I)I -/
def d_188 (x1 : Int32) (g : G) : Option Int32 :=
  bif x1 == 0 then (
    Option.bind (d_157 1 g) fun v2 =>
    Option.bind (d_164 v2 g) fun v3 =>
    some v3) else
  bif x1 == 1 then (
    Option.bind (d_157 2 g) fun v5 =>
    Option.bind (d_164 v5 g) fun v6 =>
    some v6) else
  bif x1 == 2 then (
    some (g 114 65)) else
  bif x1 == 3 then (
    zb_l (d_108 (g 115 0)) fun v9 =>
    zb_l (d_108 (g 115 1)) fun v10 =>
    some (v9 + v10)) else
  bif x1 == 4 then (
    some (g 113 14)) else
  bif x1 == 5 then (
    bif zm_cmp .ne (g 119 0) (-4) then (
      some (g 120 0)) else
    some (-4)) else
  bif x1 == 6 then (
    Option.bind (d_161 g) fun v15 =>
    Option.bind (d_164 v15 g) fun v16 =>
    some v16) else
  some (-1)
set_option maxRecDepth 100000 in
set_option maxHeartbeats 4000000 in
theorem w_188 {sc : Option (List Int32)} {d : Nat} (x1 : Int32) (g : G) {r : Int32} (e : d_188 x1 g = some r) : zB sc (d + 4) 188 0 (zm_ent (z_L 188) [.ref 113, .int x1]) [] (mk g) [.int r] (mk g) := by
  unfold d_188 at e
  intro Q K
  show Wp sc (d + 4) 188 0 [some (.ref 113), some (.int x1)] [] (mk g) Q
  refine Wp.steps 1 (pc1 := 1) (lo1 := [some (.ref 113), some (.int x1)]) (st1 := [.int x1]) (h1 := mk g) rfl ?_
  rcases zb_if e with ⟨hc1, e⟩ | ⟨hc1, e⟩
  · skip
    refine Wp.swT (pc1 := 44) (w := 0) rfl hc1 rfl ?_
    refine Wp.steps 2 (pc1 := 46) (lo1 := [some (.ref 113), some (.int x1)]) (st1 := [.int 1, .ref 113]) (h1 := mk g) rfl ?_
    obtain ⟨v2, hvv2, e⟩ := zb_bind e
    refine Wp.ca (m := 157) (d1 := d + 3) (as := [.ref 113, .int 1]) (rest := []) (st1 := [.int v2]) (pc1 := 49) rfl rfl rfl rfl rfl rfl rfl rfl (mk_rok rfl rfl rfl rfl) rfl rfl rfl (w_157 (sc := sc) (d := d + 2) 1 g hvv2) ?_
    obtain ⟨v3, hvv3, e⟩ := zb_bind e
    refine Wp.ca (m := 164) (d1 := d + 3) (as := [.int v2]) (rest := []) (st1 := [.int v3]) (pc1 := 52) rfl rfl rfl rfl rfl rfl rfl rfl rfl rfl rfl rfl (w_164 (sc := sc) (d := d + 3) v2 g hvv3) ?_
    have e1 := zb_r1 e
    subst e1
    exact Wp.ret rfl rfl rfl (K _)
  · skip
    rcases zb_if e with ⟨hc4, e⟩ | ⟨hc4, e⟩
    · skip
      refine Wp.swT (pc1 := 53) (w := 1) rfl hc4 rfl ?_
      refine Wp.steps 2 (pc1 := 55) (lo1 := [some (.ref 113), some (.int x1)]) (st1 := [.int 2, .ref 113]) (h1 := mk g) rfl ?_
      obtain ⟨v5, hvv5, e⟩ := zb_bind e
      refine Wp.ca (m := 157) (d1 := d + 3) (as := [.ref 113, .int 2]) (rest := []) (st1 := [.int v5]) (pc1 := 58) rfl rfl rfl rfl rfl rfl rfl rfl (mk_rok rfl rfl rfl rfl) rfl rfl rfl (w_157 (sc := sc) (d := d + 2) 2 g hvv5) ?_
      obtain ⟨v6, hvv6, e⟩ := zb_bind e
      refine Wp.ca (m := 164) (d1 := d + 3) (as := [.int v5]) (rest := []) (st1 := [.int v6]) (pc1 := 61) rfl rfl rfl rfl rfl rfl rfl rfl rfl rfl rfl rfl (w_164 (sc := sc) (d := d + 3) v5 g hvv6) ?_
      have e1 := zb_r1 e
      subst e1
      exact Wp.ret rfl rfl rfl (K _)
    · skip
      rcases zb_if e with ⟨hc7, e⟩ | ⟨hc7, e⟩
      · skip
        refine Wp.swT (pc1 := 62) (w := 2) rfl hc7 rfl ?_
        refine Wp.steps 1 (pc1 := 63) (lo1 := [some (.ref 113), some (.int x1)]) (st1 := [.ref 113]) (h1 := mk g) rfl ?_
        refine Wp.gf (pc1 := 66) (v := .ref 114) rfl rfl rfl rfl rfl ?_
        refine Wp.steps 1 (pc1 := 68) (lo1 := [some (.ref 113), some (.int x1)]) (st1 := [.int 65, .ref 114]) (h1 := mk g) rfl ?_
        refine Wp.ia (pc1 := 69) (k := 65) rfl rfl rfl rfl rfl ?_
        have e1 := zb_r1 e
        subst e1
        exact Wp.ret rfl rfl rfl (K _)
      · skip
        rcases zb_if e with ⟨hc8, e⟩ | ⟨hc8, e⟩
        · skip
          refine Wp.swT (pc1 := 70) (w := 3) rfl hc8 rfl ?_
          refine Wp.steps 1 (pc1 := 71) (lo1 := [some (.ref 113), some (.int x1)]) (st1 := [.ref 113]) (h1 := mk g) rfl ?_
          refine Wp.gf (pc1 := 74) (v := .ref 115) rfl rfl rfl rfl rfl ?_
          refine Wp.steps 1 (pc1 := 75) (lo1 := [some (.ref 113), some (.int x1)]) (st1 := [.int 0, .ref 115]) (h1 := mk g) rfl ?_
          refine Wp.ba (pc1 := 76) (k := 0) rfl rfl rfl rfl rfl ?_
          obtain ⟨v9, hvv9, e⟩ := zb_let e
          refine Wp.ca (m := 108) (d1 := d + 3) (as := [.int (g 115 0)]) (rest := []) (st1 := [.int v9]) (pc1 := 79) rfl rfl rfl rfl rfl rfl rfl rfl rfl rfl rfl rfl (w_108 (sc := sc) (d := d + 3) (g 115 0) g hvv9) ?_
          refine Wp.steps 1 (pc1 := 80) (lo1 := [some (.ref 113), some (.int x1)]) (st1 := [.ref 113, .int v9]) (h1 := mk g) rfl ?_
          refine Wp.gf (pc1 := 83) (v := .ref 115) rfl rfl rfl rfl rfl ?_
          refine Wp.steps 1 (pc1 := 84) (lo1 := [some (.ref 113), some (.int x1)]) (st1 := [.int 1, .ref 115, .int v9]) (h1 := mk g) rfl ?_
          refine Wp.ba (pc1 := 85) (k := 1) rfl rfl rfl rfl rfl ?_
          obtain ⟨v10, hvv10, e⟩ := zb_let e
          refine Wp.ca (m := 108) (d1 := d + 3) (as := [.int (g 115 1)]) (rest := [.int v9]) (st1 := [.int v10, .int v9]) (pc1 := 88) rfl rfl rfl rfl rfl rfl rfl rfl rfl rfl rfl rfl (w_108 (sc := sc) (d := d + 3) (g 115 1) g hvv10) ?_
          refine Wp.steps 1 (pc1 := 89) (lo1 := [some (.ref 113), some (.int x1)]) (st1 := [.int (v9 + v10)]) (h1 := mk g) rfl ?_
          have e1 := zb_r1 e
          subst e1
          exact Wp.ret rfl rfl rfl (K _)
        · skip
          rcases zb_if e with ⟨hc11, e⟩ | ⟨hc11, e⟩
          · skip
            refine Wp.swT (pc1 := 90) (w := 4) rfl hc11 rfl ?_
            refine Wp.steps 1 (pc1 := 91) (lo1 := [some (.ref 113), some (.int x1)]) (st1 := [.ref 113]) (h1 := mk g) rfl ?_
            refine Wp.gf (pc1 := 94) (v := .int (g 113 14)) rfl rfl rfl rfl rfl ?_
            have e1 := zb_r1 e
            subst e1
            exact Wp.ret rfl rfl rfl (K _)
          · skip
            rcases zb_if e with ⟨hc12, e⟩ | ⟨hc12, e⟩
            · skip
              refine Wp.swT (pc1 := 95) (w := 5) rfl hc12 rfl ?_
              refine Wp.steps 1 (pc1 := 96) (lo1 := [some (.ref 113), some (.int x1)]) (st1 := [.ref 113]) (h1 := mk g) rfl ?_
              refine Wp.gf (pc1 := 99) (v := .ref 119) rfl rfl rfl rfl rfl ?_
              refine Wp.steps 1 (pc1 := 100) (lo1 := [some (.ref 113), some (.int x1)]) (st1 := [.int 0, .ref 119]) (h1 := mk g) rfl ?_
              refine Wp.ia (pc1 := 101) (k := 0) rfl rfl rfl rfl rfl ?_
              refine Wp.steps 1 (pc1 := 103) (lo1 := [some (.ref 113), some (.int x1)]) (st1 := [.int (-4), .int (g 119 0)]) (h1 := mk g) rfl ?_
              rcases zb_if e with ⟨hc13, e⟩ | ⟨hc13, e⟩
              · skip
                refine Wp.cT (pc1 := 111) rfl hc13 rfl ?_
                refine Wp.steps 1 (pc1 := 112) (lo1 := [some (.ref 113), some (.int x1)]) (st1 := [.ref 113]) (h1 := mk g) rfl ?_
                refine Wp.gf (pc1 := 115) (v := .ref 120) rfl rfl rfl rfl rfl ?_
                refine Wp.steps 1 (pc1 := 116) (lo1 := [some (.ref 113), some (.int x1)]) (st1 := [.int 0, .ref 120]) (h1 := mk g) rfl ?_
                refine Wp.ia (pc1 := 117) (k := 0) rfl rfl rfl rfl rfl ?_
                have e1 := zb_r1 e
                subst e1
                exact Wp.ret rfl rfl rfl (K _)
              · skip
                refine Wp.cF (pc1 := 106) rfl hc13 rfl ?_
                refine Wp.steps 2 (pc1 := 117) (lo1 := [some (.ref 113), some (.int x1)]) (st1 := [.int (-4)]) (h1 := mk g) rfl ?_
                have e1 := zb_r1 e
                subst e1
                exact Wp.ret rfl rfl rfl (K _)
            · skip
              rcases zb_if e with ⟨hc14, e⟩ | ⟨hc14, e⟩
              · skip
                refine Wp.swT (pc1 := 118) (w := 6) rfl hc14 rfl ?_
                refine Wp.steps 1 (pc1 := 119) (lo1 := [some (.ref 113), some (.int x1)]) (st1 := [.ref 113]) (h1 := mk g) rfl ?_
                obtain ⟨v15, hvv15, e⟩ := zb_bind e
                refine Wp.ca (m := 161) (d1 := d + 3) (as := [.ref 113]) (rest := []) (st1 := [.int v15]) (pc1 := 122) rfl rfl rfl rfl rfl rfl rfl rfl (mk_rok rfl rfl rfl rfl) rfl rfl rfl (w_161 (sc := sc) (d := d)  g hvv15) ?_
                obtain ⟨v16, hvv16, e⟩ := zb_bind e
                refine Wp.ca (m := 164) (d1 := d + 3) (as := [.int v15]) (rest := []) (st1 := [.int v16]) (pc1 := 125) rfl rfl rfl rfl rfl rfl rfl rfl rfl rfl rfl rfl (w_164 (sc := sc) (d := d + 3) v15 g hvv16) ?_
                have e1 := zb_r1 e
                subst e1
                exact Wp.ret rfl rfl rfl (K _)
              · skip
                refine Wp.swD (pc1 := 126) [0, 1, 2, 3, 4, 5, 6] rfl (by simp only [List.all_cons, List.all_nil, hc1, hc4, hc7, hc8, hc11, hc12, hc14, Bool.not_false, Bool.and_true]) (by decide) rfl ?_
                refine Wp.steps 1 (pc1 := 127) (lo1 := [some (.ref 113), some (.int x1)]) (st1 := [.int (-1)]) (h1 := mk g) rfl ?_
                have e1 := zb_r1 e
                subst e1
                exact Wp.ret rfl rfl rfl (K _)
