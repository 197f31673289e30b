/-! printed by wip/tools/den.py -/
/-- EveningFirstModel.look(I)I -/
def d_114 (x1 : Int32) (g : G) : Option Int32 :=
  bif zm_cmp .ge x1 (g 113 14) then (
    some (-1)) else
  Option.bind (zm_ix x1 160) fun k2 =>
  some (g 117 k2)
set_option maxRecDepth 100000 in
set_option maxHeartbeats 4000000 in
theorem w_114 {sc : Option (List Int32)} {d : Nat} (x1 : Int32) (g : G) {r : Int32} (e : d_114 x1 g = some r) : zB sc (d) 114 0 (zm_ent (z_L 114) [.ref 113, .int x1]) [] (mk g) [.int r] (mk g) := by
  unfold d_114 at e
  intro Q K
  show Wp sc (d) 114 0 [some (.ref 113), some (.int x1)] [] (mk g) Q
  refine Wp.steps 2 (pc1 := 2) (lo1 := [some (.ref 113), some (.int x1)]) (st1 := [.ref 113, .int x1]) (h1 := mk g) rfl ?_
  refine Wp.gf (pc1 := 5) (v := .int (g 113 14)) rfl rfl rfl rfl rfl ?_
  rcases zb_if e with ⟨hc1, e⟩ | ⟨hc1, e⟩
  · skip
    refine Wp.cT (pc1 := 17) rfl hc1 rfl ?_
    refine Wp.steps 1 (pc1 := 18) (lo1 := [some (.ref 113), some (.int x1)]) (st1 := [.int (-1)]) (h1 := mk g) rfl ?_
    have e1 := zb_r1 e
    subst e1
    exact Wp.ret rfl rfl rfl (K _)
  · skip
    refine Wp.cF (pc1 := 8) rfl hc1 rfl ?_
    refine Wp.steps 1 (pc1 := 9) (lo1 := [some (.ref 113), some (.int x1)]) (st1 := [.ref 113]) (h1 := mk g) rfl ?_
    refine Wp.gf (pc1 := 12) (v := .ref 117) rfl rfl rfl rfl rfl ?_
    refine Wp.steps 1 (pc1 := 13) (lo1 := [some (.ref 113), some (.int x1)]) (st1 := [.int x1, .ref 117]) (h1 := mk g) rfl ?_
    obtain ⟨k2, hk2, e⟩ := zb_bind e
    refine Wp.ia (pc1 := 14) rfl rfl rfl hk2 rfl ?_
    refine Wp.steps 1 (pc1 := 18) (lo1 := [some (.ref 113), some (.int x1)]) (st1 := [.int (g 117 k2)]) (h1 := mk g) rfl ?_
    have e1 := zb_r1 e
    subst e1
    exact Wp.ret rfl rfl rfl (K _)
/-- EveningFirstModel.needs(ZI)V -/
def d_113 (x1 : Int32) (x2 : Int32) (g : G) : G :=
  bif zm_cmp .ne x1 0 then (
    g) else
  bif zm_cmp .ne (g 113 19) 0 then (
    g) else
  zb_l (zg_up g 113 19 x2) fun g3 =>
  zb_l (zg_up g3 113 20 (g3 113 16)) fun g4 =>
  g4
set_option maxRecDepth 100000 in
set_option maxHeartbeats 4000000 in
theorem w_113 {sc : Option (List Int32)} {d : Nat} (x1 : Int32) (x2 : Int32) (g : G) {g' : G} (e : d_113 x1 x2 g = g') : zB sc (d) 113 0 (zm_ent (z_L 113) [.ref 113, .int x1, .int x2]) [] (mk g) [] (mk g') := by
  unfold d_113 at e
  intro Q K
  show Wp sc (d) 113 0 [some (.ref 113), some (.int x1), some (.int x2)] [] (mk g) Q
  refine Wp.steps 1 (pc1 := 1) (lo1 := [some (.ref 113), some (.int x1), some (.int x2)]) (st1 := [.int x1]) (h1 := mk g) rfl ?_
  rcases zb_if e with ⟨hc1, e⟩ | ⟨hc1, e⟩
  · skip
    refine Wp.iT (pc1 := 24) rfl hc1 rfl ?_
    have e1 := e
    subst e1
    exact Wp.ret rfl rfl rfl (K _)
  · skip
    refine Wp.iF (pc1 := 4) rfl hc1 rfl ?_
    refine Wp.steps 1 (pc1 := 5) (lo1 := [some (.ref 113), some (.int x1), some (.int x2)]) (st1 := [.ref 113]) (h1 := mk g) rfl ?_
    refine Wp.gf (pc1 := 8) (v := .int (g 113 19)) rfl rfl rfl rfl rfl ?_
    rcases zb_if e with ⟨hc2, e⟩ | ⟨hc2, e⟩
    · skip
      refine Wp.iT (pc1 := 24) rfl hc2 rfl ?_
      have e1 := e
      subst e1
      exact Wp.ret rfl rfl rfl (K _)
    · skip
      refine Wp.iF (pc1 := 11) rfl hc2 rfl ?_
      refine Wp.steps 2 (pc1 := 13) (lo1 := [some (.ref 113), some (.int x1), some (.int x2)]) (st1 := [.int x2, .ref 113]) (h1 := mk g) rfl ?_
      obtain ⟨g3, hg3, e⟩ := zb_let e
      refine Wp.pf (pc1 := 16) rfl rfl rfl rfl rfl rfl hg3 rfl ?_
      refine Wp.steps 2 (pc1 := 18) (lo1 := [some (.ref 113), some (.int x1), some (.int x2)]) (st1 := [.ref 113, .ref 113]) (h1 := mk g3) rfl ?_
      refine Wp.gf (pc1 := 21) (v := .int (g3 113 16)) rfl rfl rfl rfl rfl ?_
      obtain ⟨g4, hg4, e⟩ := zb_let e
      refine Wp.pf (pc1 := 24) rfl rfl rfl rfl rfl rfl hg4 rfl ?_
      have e1 := e
      subst e1
      exact Wp.ret rfl rfl rfl (K _)
def d_119_140 : Nat → G → Option G
  | 0, _ => none
  | f + 1, g =>
    Option.bind (d_114 (g 113 15) g) fun v19 =>
    zb_l (d_107 (Int32.toInt64 v19) 48 57) fun v20 =>
    bif v20 then (
      bif zm_cmp .ge ((g 113 15) - (g 113 16)) 2 then (
        zb_l (zg_up g 113 18 (g 113 18)) fun g26 =>
        zb_l (zg_up g26 113 15 ((g26 113 15) + 1)) fun g27 =>
        d_119_140 f g27) else
      Option.bind (d_114 (g 113 15) g) fun v28 =>
      zb_l (zg_up g 113 18 (((10 * (g 113 18)) + v28) - 48)) fun g29 =>
      zb_l (zg_up g29 113 15 ((g29 113 15) + 1)) fun g30 =>
      d_119_140 f g30) else
    bif zm_cmp .gt ((g 113 15) - (g 113 16)) 2 then (
      zb_l (d_113 0 1 g) fun g23 =>
      some g23) else
    zb_l (d_113 1 1 g) fun g24 =>
    some g24
set_option maxRecDepth 100000 in
set_option maxHeartbeats 4000000 in
theorem w_119_140 {sc : Option (List Int32)} {d : Nat} : ∀ (f : Nat) (g : G) (g' : G), d_119_140 f g = some g' → zB sc (d + 1) 119 140 [some (.ref 113), none] [] (mk g) [] (mk g') := by
  intro f
  induction f with
  | zero =>
    intro g g' e
    rw [d_119_140.eq_1] at e
    cases e
  | succ f ih =>
    intro g g' e
    rw [d_119_140.eq_2] at e
    intro Q K
    refine Wp.steps 2 (pc1 := 142) (lo1 := [some (.ref 113), none]) (st1 := [.ref 113, .ref 113]) (h1 := mk g) rfl ?_
    refine Wp.gf (pc1 := 145) (v := .int (g 113 15)) rfl rfl rfl rfl rfl ?_
    obtain ⟨v19, hvv19, e⟩ := zb_bind e
    refine Wp.ca (m := 114) (d1 := d) (as := [.ref 113, .int (g 113 15)]) (rest := []) (st1 := [.int v19]) (pc1 := 148) rfl rfl rfl rfl rfl rfl rfl rfl (mk_rok rfl rfl rfl rfl) rfl rfl rfl (w_114 (sc := sc) (d := d) (g 113 15) g hvv19) ?_
    refine Wp.steps 3 (pc1 := 155) (lo1 := [some (.ref 113), none]) (st1 := [.long 57, .long 48, .long (Int32.toInt64 v19)]) (h1 := mk g) rfl ?_
    obtain ⟨v20, hvv20, e⟩ := zb_let e
    refine Wp.ca (m := 107) (d1 := d) (as := [.long (Int32.toInt64 v19), .long 48, .long 57]) (rest := []) (st1 := [.int (zb_i v20)]) (pc1 := 158) rfl rfl rfl rfl rfl rfl rfl rfl rfl rfl rfl rfl (w_107 (sc := sc) (d := d) (Int32.toInt64 v19) 48 57 g hvv20) ?_
    rcases zb_if e with ⟨hc21, e⟩ | ⟨hc21, e⟩
    · skip
      refine Wp.iF (pc1 := 161) rfl (zb_eqF hc21) rfl ?_
      refine Wp.steps 2 (pc1 := 163) (lo1 := [some (.ref 113), none]) (st1 := [.ref 113, .ref 113]) (h1 := mk g) rfl ?_
      refine Wp.gf (pc1 := 166) (v := .int (g 113 15)) rfl rfl rfl rfl rfl ?_
      refine Wp.steps 1 (pc1 := 167) (lo1 := [some (.ref 113), none]) (st1 := [.ref 113, .int (g 113 15), .ref 113]) (h1 := mk g) rfl ?_
      refine Wp.gf (pc1 := 170) (v := .int (g 113 16)) rfl rfl rfl rfl rfl ?_
      refine Wp.steps 2 (pc1 := 172) (lo1 := [some (.ref 113), none]) (st1 := [.int 2, .int ((g 113 15) - (g 113 16)), .ref 113]) (h1 := mk g) rfl ?_
      rcases zb_if e with ⟨hc25, e⟩ | ⟨hc25, e⟩
      · skip
        refine Wp.cT (pc1 := 197) rfl hc25 rfl ?_
        refine Wp.steps 1 (pc1 := 198) (lo1 := [some (.ref 113), none]) (st1 := [.ref 113, .ref 113]) (h1 := mk g) rfl ?_
        refine Wp.gf (pc1 := 201) (v := .int (g 113 18)) rfl rfl rfl rfl rfl ?_
        obtain ⟨g26, hg26, e⟩ := zb_let e
        refine Wp.pf (pc1 := 204) rfl rfl rfl rfl rfl rfl hg26 rfl ?_
        refine Wp.steps 2 (pc1 := 206) (lo1 := [some (.ref 113), none]) (st1 := [.ref 113, .ref 113]) (h1 := mk g26) rfl ?_
        refine Wp.gf (pc1 := 209) (v := .int (g26 113 15)) rfl rfl rfl rfl rfl ?_
        refine Wp.steps 2 (pc1 := 211) (lo1 := [some (.ref 113), none]) (st1 := [.int ((g26 113 15) + 1), .ref 113]) (h1 := mk g26) rfl ?_
        obtain ⟨g27, hg27, e⟩ := zb_let e
        refine Wp.pf (pc1 := 214) rfl rfl rfl rfl rfl rfl hg27 rfl ?_
        refine Wp.steps 1 (pc1 := 140) (lo1 := [some (.ref 113), none]) (st1 := []) (h1 := mk g27) rfl ?_
        exact ih _ _ e Q K
      · skip
        refine Wp.cF (pc1 := 175) rfl hc25 rfl ?_
        refine Wp.steps 2 (pc1 := 178) (lo1 := [some (.ref 113), none]) (st1 := [.ref 113, .int 10, .ref 113]) (h1 := mk g) rfl ?_
        refine Wp.gf (pc1 := 181) (v := .int (g 113 18)) rfl rfl rfl rfl rfl ?_
        refine Wp.steps 3 (pc1 := 184) (lo1 := [some (.ref 113), none]) (st1 := [.ref 113, .ref 113, .int (10 * (g 113 18)), .ref 113]) (h1 := mk g) rfl ?_
        refine Wp.gf (pc1 := 187) (v := .int (g 113 15)) rfl rfl rfl rfl rfl ?_
        obtain ⟨v28, hvv28, e⟩ := zb_bind e
        refine Wp.ca (m := 114) (d1 := d) (as := [.ref 113, .int (g 113 15)]) (rest := [.int (10 * (g 113 18)), .ref 113]) (st1 := [.int v28, .int (10 * (g 113 18)), .ref 113]) (pc1 := 190) rfl rfl rfl rfl rfl rfl rfl rfl (mk_rok rfl rfl rfl rfl) rfl rfl rfl (w_114 (sc := sc) (d := d) (g 113 15) g hvv28) ?_
        refine Wp.steps 4 (pc1 := 201) (lo1 := [some (.ref 113), none]) (st1 := [.int (((10 * (g 113 18)) + v28) - 48), .ref 113]) (h1 := mk g) rfl ?_
        obtain ⟨g29, hg29, e⟩ := zb_let e
        refine Wp.pf (pc1 := 204) rfl rfl rfl rfl rfl rfl hg29 rfl ?_
        refine Wp.steps 2 (pc1 := 206) (lo1 := [some (.ref 113), none]) (st1 := [.ref 113, .ref 113]) (h1 := mk g29) rfl ?_
        refine Wp.gf (pc1 := 209) (v := .int (g29 113 15)) rfl rfl rfl rfl rfl ?_
        refine Wp.steps 2 (pc1 := 211) (lo1 := [some (.ref 113), none]) (st1 := [.int ((g29 113 15) + 1), .ref 113]) (h1 := mk g29) rfl ?_
        obtain ⟨g30, hg30, e⟩ := zb_let e
        refine Wp.pf (pc1 := 214) rfl rfl rfl rfl rfl rfl hg30 rfl ?_
        refine Wp.steps 1 (pc1 := 140) (lo1 := [some (.ref 113), none]) (st1 := []) (h1 := mk g30) rfl ?_
        exact ih _ _ e Q K
    · skip
      refine Wp.iT (pc1 := 217) rfl (zb_eqT hc21) rfl ?_
      refine Wp.steps 2 (pc1 := 219) (lo1 := [some (.ref 113), none]) (st1 := [.ref 113, .ref 113]) (h1 := mk g) rfl ?_
      refine Wp.gf (pc1 := 222) (v := .int (g 113 15)) rfl rfl rfl rfl rfl ?_
      refine Wp.steps 1 (pc1 := 223) (lo1 := [some (.ref 113), none]) (st1 := [.ref 113, .int (g 113 15), .ref 113]) (h1 := mk g) rfl ?_
      refine Wp.gf (pc1 := 226) (v := .int (g 113 16)) rfl rfl rfl rfl rfl ?_
      refine Wp.steps 2 (pc1 := 228) (lo1 := [some (.ref 113), none]) (st1 := [.int 2, .int ((g 113 15) - (g 113 16)), .ref 113]) (h1 := mk g) rfl ?_
      rcases zb_if e with ⟨hc22, e⟩ | ⟨hc22, e⟩
      · skip
        refine Wp.cT (pc1 := 235) rfl hc22 rfl ?_
        refine Wp.steps 2 (pc1 := 237) (lo1 := [some (.ref 113), none]) (st1 := [.int 1, .int 0, .ref 113]) (h1 := mk g) rfl ?_
        obtain ⟨g23, hvg23, e⟩ := zb_let e
        refine Wp.ca (m := 113) (d1 := d) (as := [.ref 113, .int 0, .int 1]) (rest := []) (st1 := []) (pc1 := 240) rfl rfl rfl rfl rfl rfl rfl rfl (mk_rok rfl rfl rfl rfl) rfl rfl rfl (w_113 (sc := sc) (d := d) 0 1 g hvg23) ?_
        refine Wp.steps 1 (pc1 := 274) (lo1 := [some (.ref 113), none]) (st1 := []) (h1 := mk g23) rfl ?_
        have e1 := zb_r1 e
        subst e1
        exact Wp.ret rfl rfl rfl (K _)
      · skip
        refine Wp.cF (pc1 := 231) rfl hc22 rfl ?_
        refine Wp.steps 3 (pc1 := 237) (lo1 := [some (.ref 113), none]) (st1 := [.int 1, .int 1, .ref 113]) (h1 := mk g) rfl ?_
        obtain ⟨g24, hvg24, e⟩ := zb_let e
        refine Wp.ca (m := 113) (d1 := d) (as := [.ref 113, .int 1, .int 1]) (rest := []) (st1 := []) (pc1 := 240) rfl rfl rfl rfl rfl rfl rfl rfl (mk_rok rfl rfl rfl rfl) rfl rfl rfl (w_113 (sc := sc) (d := d) 1 1 g hvg24) ?_
        refine Wp.steps 1 (pc1 := 274) (lo1 := [some (.ref 113), none]) (st1 := []) (h1 := mk g24) rfl ?_
        have e1 := zb_r1 e
        subst e1
        exact Wp.ret rfl rfl rfl (K _)
def d_119_82 : Nat → G → Option G
  | 0, _ => none
  | f + 1, g =>
    Option.bind (d_114 (g 113 15) g) fun v32 =>
    zb_l (d_107 (Int32.toInt64 v32) 97 122) fun v33 =>
    bif v33 then (
      zb_l (zg_up g 113 15 ((g 113 15) + 1)) fun g35 =>
      d_119_82 f g35) else
    some g
set_option maxRecDepth 100000 in
set_option maxHeartbeats 4000000 in
theorem w_119_82 {sc : Option (List Int32)} {d : Nat} : ∀ (f : Nat) (g : G) (g' : G), d_119_82 f g = some g' → zB sc (d + 1) 119 82 [some (.ref 113), none] [] (mk g) [] (mk g') := by
  intro f
  induction f with
  | zero =>
    intro g g' e
    rw [d_119_82.eq_1] at e
    cases e
  | succ f ih =>
    intro g g' e
    rw [d_119_82.eq_2] at e
    intro Q K
    refine Wp.steps 2 (pc1 := 84) (lo1 := [some (.ref 113), none]) (st1 := [.ref 113, .ref 113]) (h1 := mk g) rfl ?_
    refine Wp.gf (pc1 := 87) (v := .int (g 113 15)) rfl rfl rfl rfl rfl ?_
    obtain ⟨v32, hvv32, e⟩ := zb_bind e
    refine Wp.ca (m := 114) (d1 := d) (as := [.ref 113, .int (g 113 15)]) (rest := []) (st1 := [.int v32]) (pc1 := 90) rfl rfl rfl rfl rfl rfl rfl rfl (mk_rok rfl rfl rfl rfl) rfl rfl rfl (w_114 (sc := sc) (d := d) (g 113 15) g hvv32) ?_
    refine Wp.steps 3 (pc1 := 97) (lo1 := [some (.ref 113), none]) (st1 := [.long 122, .long 97, .long (Int32.toInt64 v32)]) (h1 := mk g) rfl ?_
    obtain ⟨v33, hvv33, e⟩ := zb_let e
    refine Wp.ca (m := 107) (d1 := d) (as := [.long (Int32.toInt64 v32), .long 97, .long 122]) (rest := []) (st1 := [.int (zb_i v33)]) (pc1 := 100) rfl rfl rfl rfl rfl rfl rfl rfl rfl rfl rfl rfl (w_107 (sc := sc) (d := d) (Int32.toInt64 v32) 97 122 g hvv33) ?_
    rcases zb_if e with ⟨hc34, e⟩ | ⟨hc34, e⟩
    · skip
      refine Wp.iF (pc1 := 103) rfl (zb_eqF hc34) rfl ?_
      refine Wp.steps 2 (pc1 := 105) (lo1 := [some (.ref 113), none]) (st1 := [.ref 113, .ref 113]) (h1 := mk g) rfl ?_
      refine Wp.gf (pc1 := 108) (v := .int (g 113 15)) rfl rfl rfl rfl rfl ?_
      refine Wp.steps 2 (pc1 := 110) (lo1 := [some (.ref 113), none]) (st1 := [.int ((g 113 15) + 1), .ref 113]) (h1 := mk g) rfl ?_
      obtain ⟨g35, hg35, e⟩ := zb_let e
      refine Wp.pf (pc1 := 113) rfl rfl rfl rfl rfl rfl hg35 rfl ?_
      refine Wp.steps 1 (pc1 := 82) (lo1 := [some (.ref 113), none]) (st1 := []) (h1 := mk g35) rfl ?_
      exact ih _ _ e Q K
    · skip
      refine Wp.iT (pc1 := 274) rfl (zb_eqT hc34) rfl ?_
      have e1 := zb_r1 e
      subst e1
      exact Wp.ret rfl rfl rfl (K _)
def d_119_8 : Nat → G → Option G
  | 0, _ => none
  | f + 1, g =>
    Option.bind (d_114 (g 113 15) g) fun v2 =>
    bif zm_cmp .ne v2 32 then (
      zb_l (zg_up g 113 16 (g 113 15)) fun g4 =>
      Option.bind (d_114 (g4 113 15) g4) fun v5 =>
      bif zm_cmp .ge v5 0 then (
        zb_l (d_107 (Int32.toInt64 v5) 97 122) fun v7 =>
        bif v7 then (
          zb_l (zg_up g4 113 17 1) fun g31 =>
          d_119_82 300 g31) else
        zb_l (d_107 (Int32.toInt64 v5) 48 57) fun v9 =>
        bif v9 then (
          zb_l (zg_up g4 113 17 2) fun g17 =>
          zb_l (zg_up g17 113 18 0) fun g18 =>
          d_119_140 300 g18) else
        zb_l (zg_up g4 113 17 3) fun g11 =>
        bif zm_cmp .ne v5 59 then (
          zb_l (d_113 0 1 g11) fun g13 =>
          zb_l (zg_up g13 113 15 ((g13 113 15) + 1)) fun g14 =>
          some g14) else
        zb_l (d_113 1 1 g11) fun g15 =>
        zb_l (zg_up g15 113 15 ((g15 113 15) + 1)) fun g16 =>
        some g16) else
      zb_l (zg_up g4 113 17 0) fun g36 =>
      some g36) else
    zb_l (zg_up g 113 15 ((g 113 15) + 1)) fun g37 =>
    d_119_8 f g37
set_option maxRecDepth 100000 in
set_option maxHeartbeats 4000000 in
theorem w_119_8 {sc : Option (List Int32)} {d : Nat} : ∀ (f : Nat) (g : G) (g' : G), d_119_8 f g = some g' → zB sc (d + 1) 119 8 [some (.ref 113), none] [] (mk g) [] (mk g') := by
  intro f
  induction f with
  | zero =>
    intro g g' e
    rw [d_119_8.eq_1] at e
    cases e
  | succ f ih =>
    intro g g' e
    rw [d_119_8.eq_2] at e
    intro Q K
    refine Wp.steps 2 (pc1 := 10) (lo1 := [some (.ref 113), none]) (st1 := [.ref 113, .ref 113]) (h1 := mk g) rfl ?_
    refine Wp.gf (pc1 := 13) (v := .int (g 113 15)) rfl rfl rfl rfl rfl ?_
    obtain ⟨v2, hvv2, e⟩ := zb_bind e
    refine Wp.ca (m := 114) (d1 := d) (as := [.ref 113, .int (g 113 15)]) (rest := []) (st1 := [.int v2]) (pc1 := 16) rfl rfl rfl rfl rfl rfl rfl rfl (mk_rok rfl rfl rfl rfl) rfl rfl rfl (w_114 (sc := sc) (d := d) (g 113 15) g hvv2) ?_
    refine Wp.steps 1 (pc1 := 18) (lo1 := [some (.ref 113), none]) (st1 := [.int 32, .int v2]) (h1 := mk g) rfl ?_
    rcases zb_if e with ⟨hc3, e⟩ | ⟨hc3, e⟩
    · skip
      refine Wp.cT (pc1 := 34) rfl hc3 rfl ?_
      refine Wp.steps 2 (pc1 := 36) (lo1 := [some (.ref 113), none]) (st1 := [.ref 113, .ref 113]) (h1 := mk g) rfl ?_
      refine Wp.gf (pc1 := 39) (v := .int (g 113 15)) rfl rfl rfl rfl rfl ?_
      obtain ⟨g4, hg4, e⟩ := zb_let e
      refine Wp.pf (pc1 := 42) rfl rfl rfl rfl rfl rfl hg4 rfl ?_
      refine Wp.steps 2 (pc1 := 44) (lo1 := [some (.ref 113), none]) (st1 := [.ref 113, .ref 113]) (h1 := mk g4) rfl ?_
      refine Wp.gf (pc1 := 47) (v := .int (g4 113 15)) rfl rfl rfl rfl rfl ?_
      obtain ⟨v5, hvv5, e⟩ := zb_bind e
      refine Wp.ca (m := 114) (d1 := d) (as := [.ref 113, .int (g4 113 15)]) (rest := []) (st1 := [.int v5]) (pc1 := 50) rfl rfl rfl rfl rfl rfl rfl rfl (mk_rok rfl rfl rfl rfl) rfl rfl rfl (w_114 (sc := sc) (d := d) (g4 113 15) g4 hvv5) ?_
      refine Wp.steps 2 (pc1 := 52) (lo1 := [some (.ref 113), some (.int v5)]) (st1 := [.int v5]) (h1 := mk g4) rfl ?_
      rcases zb_if e with ⟨hc6, e⟩ | ⟨hc6, e⟩
      · skip
        refine Wp.iT (pc1 := 63) rfl hc6 rfl ?_
        refine Wp.steps 4 (pc1 := 71) (lo1 := [some (.ref 113), some (.int v5)]) (st1 := [.long 122, .long 97, .long (Int32.toInt64 v5)]) (h1 := mk g4) rfl ?_
        obtain ⟨v7, hvv7, e⟩ := zb_let e
        refine Wp.ca (m := 107) (d1 := d) (as := [.long (Int32.toInt64 v5), .long 97, .long 122]) (rest := []) (st1 := [.int (zb_i v7)]) (pc1 := 74) rfl rfl rfl rfl rfl rfl rfl rfl rfl rfl rfl rfl (w_107 (sc := sc) (d := d) (Int32.toInt64 v5) 97 122 g4 hvv7) ?_
        rcases zb_if e with ⟨hc8, e⟩ | ⟨hc8, e⟩
        · skip
          refine Wp.iF (pc1 := 77) rfl (zb_eqF hc8) rfl ?_
          refine Wp.steps 2 (pc1 := 79) (lo1 := [some (.ref 113), some (.int v5)]) (st1 := [.int 1, .ref 113]) (h1 := mk g4) rfl ?_
          obtain ⟨g31, hg31, e⟩ := zb_let e
          refine Wp.pf (pc1 := 82) rfl rfl rfl rfl rfl rfl hg31 rfl ?_
          refine Wp.fg [some (.ref 113), none] (zm_lle_s (zm_lle_n zm_lle_0)) ?_
          exact w_119_82 (sc := sc) (d := d) 300 g31 _ e Q K
        · skip
          refine Wp.iT (pc1 := 116) rfl (zb_eqT hc8) rfl ?_
          refine Wp.steps 4 (pc1 := 124) (lo1 := [some (.ref 113), some (.int v5)]) (st1 := [.long 57, .long 48, .long (Int32.toInt64 v5)]) (h1 := mk g4) rfl ?_
          obtain ⟨v9, hvv9, e⟩ := zb_let e
          refine Wp.ca (m := 107) (d1 := d) (as := [.long (Int32.toInt64 v5), .long 48, .long 57]) (rest := []) (st1 := [.int (zb_i v9)]) (pc1 := 127) rfl rfl rfl rfl rfl rfl rfl rfl rfl rfl rfl rfl (w_107 (sc := sc) (d := d) (Int32.toInt64 v5) 48 57 g4 hvv9) ?_
          rcases zb_if e with ⟨hc10, e⟩ | ⟨hc10, e⟩
          · skip
            refine Wp.iF (pc1 := 130) rfl (zb_eqF hc10) rfl ?_
            refine Wp.steps 2 (pc1 := 132) (lo1 := [some (.ref 113), some (.int v5)]) (st1 := [.int 2, .ref 113]) (h1 := mk g4) rfl ?_
            obtain ⟨g17, hg17, e⟩ := zb_let e
            refine Wp.pf (pc1 := 135) rfl rfl rfl rfl rfl rfl hg17 rfl ?_
            refine Wp.steps 2 (pc1 := 137) (lo1 := [some (.ref 113), some (.int v5)]) (st1 := [.int 0, .ref 113]) (h1 := mk g17) rfl ?_
            obtain ⟨g18, hg18, e⟩ := zb_let e
            refine Wp.pf (pc1 := 140) rfl rfl rfl rfl rfl rfl hg18 rfl ?_
            refine Wp.fg [some (.ref 113), none] (zm_lle_s (zm_lle_n zm_lle_0)) ?_
            exact w_119_140 (sc := sc) (d := d) 300 g18 _ e Q K
          · skip
            refine Wp.iT (pc1 := 243) rfl (zb_eqT hc10) rfl ?_
            refine Wp.steps 2 (pc1 := 245) (lo1 := [some (.ref 113), some (.int v5)]) (st1 := [.int 3, .ref 113]) (h1 := mk g4) rfl ?_
            obtain ⟨g11, hg11, e⟩ := zb_let e
            refine Wp.pf (pc1 := 248) rfl rfl rfl rfl rfl rfl hg11 rfl ?_
            refine Wp.steps 3 (pc1 := 252) (lo1 := [some (.ref 113), some (.int v5)]) (st1 := [.int 59, .int v5, .ref 113]) (h1 := mk g11) rfl ?_
            rcases zb_if e with ⟨hc12, e⟩ | ⟨hc12, e⟩
            · skip
              refine Wp.cT (pc1 := 259) rfl hc12 rfl ?_
              refine Wp.steps 2 (pc1 := 261) (lo1 := [some (.ref 113), some (.int v5)]) (st1 := [.int 1, .int 0, .ref 113]) (h1 := mk g11) rfl ?_
              obtain ⟨g13, hvg13, e⟩ := zb_let e
              refine Wp.ca (m := 113) (d1 := d) (as := [.ref 113, .int 0, .int 1]) (rest := []) (st1 := []) (pc1 := 264) rfl rfl rfl rfl rfl rfl rfl rfl (mk_rok rfl rfl rfl rfl) rfl rfl rfl (w_113 (sc := sc) (d := d) 0 1 g11 hvg13) ?_
              refine Wp.steps 2 (pc1 := 266) (lo1 := [some (.ref 113), some (.int v5)]) (st1 := [.ref 113, .ref 113]) (h1 := mk g13) rfl ?_
              refine Wp.gf (pc1 := 269) (v := .int (g13 113 15)) rfl rfl rfl rfl rfl ?_
              refine Wp.steps 2 (pc1 := 271) (lo1 := [some (.ref 113), some (.int v5)]) (st1 := [.int ((g13 113 15) + 1), .ref 113]) (h1 := mk g13) rfl ?_
              obtain ⟨g14, hg14, e⟩ := zb_let e
              refine Wp.pf (pc1 := 274) rfl rfl rfl rfl rfl rfl hg14 rfl ?_
              have e1 := zb_r1 e
              subst e1
              exact Wp.ret rfl rfl rfl (K _)
            · skip
              refine Wp.cF (pc1 := 255) rfl hc12 rfl ?_
              refine Wp.steps 3 (pc1 := 261) (lo1 := [some (.ref 113), some (.int v5)]) (st1 := [.int 1, .int 1, .ref 113]) (h1 := mk g11) rfl ?_
              obtain ⟨g15, hvg15, e⟩ := zb_let e
              refine Wp.ca (m := 113) (d1 := d) (as := [.ref 113, .int 1, .int 1]) (rest := []) (st1 := []) (pc1 := 264) rfl rfl rfl rfl rfl rfl rfl rfl (mk_rok rfl rfl rfl rfl) rfl rfl rfl (w_113 (sc := sc) (d := d) 1 1 g11 hvg15) ?_
              refine Wp.steps 2 (pc1 := 266) (lo1 := [some (.ref 113), some (.int v5)]) (st1 := [.ref 113, .ref 113]) (h1 := mk g15) rfl ?_
              refine Wp.gf (pc1 := 269) (v := .int (g15 113 15)) rfl rfl rfl rfl rfl ?_
              refine Wp.steps 2 (pc1 := 271) (lo1 := [some (.ref 113), some (.int v5)]) (st1 := [.int ((g15 113 15) + 1), .ref 113]) (h1 := mk g15) rfl ?_
              obtain ⟨g16, hg16, e⟩ := zb_let e
              refine Wp.pf (pc1 := 274) rfl rfl rfl rfl rfl rfl hg16 rfl ?_
              have e1 := zb_r1 e
              subst e1
              exact Wp.ret rfl rfl rfl (K _)
      · skip
        refine Wp.iF (pc1 := 55) rfl hc6 rfl ?_
        refine Wp.steps 2 (pc1 := 57) (lo1 := [some (.ref 113), some (.int v5)]) (st1 := [.int 0, .ref 113]) (h1 := mk g4) rfl ?_
        obtain ⟨g36, hg36, e⟩ := zb_let e
        refine Wp.pf (pc1 := 60) rfl rfl rfl rfl rfl rfl hg36 rfl ?_
        refine Wp.steps 1 (pc1 := 274) (lo1 := [some (.ref 113), some (.int v5)]) (st1 := []) (h1 := mk g36) rfl ?_
        have e1 := zb_r1 e
        subst e1
        exact Wp.ret rfl rfl rfl (K _)
    · skip
      refine Wp.cF (pc1 := 21) rfl hc3 rfl ?_
      refine Wp.steps 2 (pc1 := 23) (lo1 := [some (.ref 113), none]) (st1 := [.ref 113, .ref 113]) (h1 := mk g) rfl ?_
      refine Wp.gf (pc1 := 26) (v := .int (g 113 15)) rfl rfl rfl rfl rfl ?_
      refine Wp.steps 2 (pc1 := 28) (lo1 := [some (.ref 113), none]) (st1 := [.int ((g 113 15) + 1), .ref 113]) (h1 := mk g) rfl ?_
      obtain ⟨g37, hg37, e⟩ := zb_let e
      refine Wp.pf (pc1 := 31) rfl rfl rfl rfl rfl rfl hg37 rfl ?_
      refine Wp.steps 1 (pc1 := 8) (lo1 := [some (.ref 113), none]) (st1 := []) (h1 := mk g37) rfl ?_
      exact ih _ _ e Q K
/-- EveningFirstModel.next()V -/
def d_119 (g : G) : Option G :=
  bif zm_cmp .le (g 113 19) 0 then (
    d_119_8 300 g) else
  some g
set_option maxRecDepth 100000 in
set_option maxHeartbeats 4000000 in
theorem w_119 {sc : Option (List Int32)} {d : Nat} (g : G) {g' : G} (e : d_119 g = some g') : zB sc (d + 1) 119 0 (zm_ent (z_L 119) [.ref 113]) [] (mk g) [] (mk g') := by
  unfold d_119 at e
  intro Q K
  show Wp sc (d + 1) 119 0 [some (.ref 113), none] [] (mk g) Q
  refine Wp.steps 1 (pc1 := 1) (lo1 := [some (.ref 113), none]) (st1 := [.ref 113]) (h1 := mk g) rfl ?_
  refine Wp.gf (pc1 := 4) (v := .int (g 113 19)) rfl rfl rfl rfl rfl ?_
  rcases zb_if e with ⟨hc1, e⟩ | ⟨hc1, e⟩
  · skip
    refine Wp.iT (pc1 := 8) rfl hc1 rfl ?_
    exact w_119_8 (sc := sc) (d := d) 300 g _ e Q K
  · skip
    refine Wp.iF (pc1 := 7) rfl hc1 rfl ?_
    have e1 := zb_r1 e
    subst e1
    exact Wp.ret rfl rfl rfl (K _)
/-- EveningFirstModel.is(IIII)Z -/
def d_115 (x1 : Int32) (x2 : Int32) (x3 : Int32) (x4 : Int32) (g : G) : Option Bool :=
  bif zm_cmp .ne ((g 113 15) - (g 113 16)) x1 then (
    some false) else
  Option.bind (d_114 (g 113 16) g) fun v2 =>
  bif zm_cmp .ne v2 x2 then (
    some false) else
  Option.bind (d_114 ((g 113 16) + 1) g) fun v4 =>
  bif zm_cmp .ne v4 x3 then (
    some false) else
  Option.bind (d_114 ((g 113 16) + 2) g) fun v6 =>
  bif zm_cmp .ne v6 x4 then (
    some false) else
  some true
set_option maxRecDepth 100000 in
set_option maxHeartbeats 4000000 in
theorem w_115 {sc : Option (List Int32)} {d : Nat} (x1 : Int32) (x2 : Int32) (x3 : Int32) (x4 : Int32) (g : G) {r : Bool} (e : d_115 x1 x2 x3 x4 g = some r) : zB sc (d + 1) 115 0 (zm_ent (z_L 115) [.ref 113, .int x1, .int x2, .int x3, .int x4]) [] (mk g) [.int (zb_i r)] (mk g) := by
  unfold d_115 at e
  intro Q K
  show Wp sc (d + 1) 115 0 [some (.ref 113), some (.int x1), some (.int x2), some (.int x3), some (.int x4)] [] (mk g) Q
  refine Wp.steps 1 (pc1 := 1) (lo1 := [some (.ref 113), some (.int x1), some (.int x2), some (.int x3), some (.int x4)]) (st1 := [.ref 113]) (h1 := mk g) rfl ?_
  refine Wp.gf (pc1 := 4) (v := .int (g 113 15)) rfl rfl rfl rfl rfl ?_
  refine Wp.steps 1 (pc1 := 5) (lo1 := [some (.ref 113), some (.int x1), some (.int x2), some (.int x3), some (.int x4)]) (st1 := [.ref 113, .int (g 113 15)]) (h1 := mk g) rfl ?_
  refine Wp.gf (pc1 := 8) (v := .int (g 113 16)) rfl rfl rfl rfl rfl ?_
  refine Wp.steps 2 (pc1 := 10) (lo1 := [some (.ref 113), some (.int x1), some (.int x2), some (.int x3), some (.int x4)]) (st1 := [.int x1, .int ((g 113 15) - (g 113 16))]) (h1 := mk g) rfl ?_
  rcases zb_if e with ⟨hc1, e⟩ | ⟨hc1, e⟩
  · skip
    refine Wp.cT (pc1 := 58) rfl hc1 rfl ?_
    refine Wp.steps 1 (pc1 := 59) (lo1 := [some (.ref 113), some (.int x1), some (.int x2), some (.int x3), some (.int x4)]) (st1 := [.int 0]) (h1 := mk g) rfl ?_
    have e1 := zb_r1 e
    subst e1
    exact Wp.ret rfl rfl rfl (K _)
  · skip
    refine Wp.cF (pc1 := 13) rfl hc1 rfl ?_
    refine Wp.steps 2 (pc1 := 15) (lo1 := [some (.ref 113), some (.int x1), some (.int x2), some (.int x3), some (.int x4)]) (st1 := [.ref 113, .ref 113]) (h1 := mk g) rfl ?_
    refine Wp.gf (pc1 := 18) (v := .int (g 113 16)) rfl rfl rfl rfl rfl ?_
    obtain ⟨v2, hvv2, e⟩ := zb_bind e
    refine Wp.ca (m := 114) (d1 := d) (as := [.ref 113, .int (g 113 16)]) (rest := []) (st1 := [.int v2]) (pc1 := 21) rfl rfl rfl rfl rfl rfl rfl rfl (mk_rok rfl rfl rfl rfl) rfl rfl rfl (w_114 (sc := sc) (d := d) (g 113 16) g hvv2) ?_
    refine Wp.steps 1 (pc1 := 22) (lo1 := [some (.ref 113), some (.int x1), some (.int x2), some (.int x3), some (.int x4)]) (st1 := [.int x2, .int v2]) (h1 := mk g) rfl ?_
    rcases zb_if e with ⟨hc3, e⟩ | ⟨hc3, e⟩
    · skip
      refine Wp.cT (pc1 := 58) rfl hc3 rfl ?_
      refine Wp.steps 1 (pc1 := 59) (lo1 := [some (.ref 113), some (.int x1), some (.int x2), some (.int x3), some (.int x4)]) (st1 := [.int 0]) (h1 := mk g) rfl ?_
      have e1 := zb_r1 e
      subst e1
      exact Wp.ret rfl rfl rfl (K _)
    · skip
      refine Wp.cF (pc1 := 25) rfl hc3 rfl ?_
      refine Wp.steps 2 (pc1 := 27) (lo1 := [some (.ref 113), some (.int x1), some (.int x2), some (.int x3), some (.int x4)]) (st1 := [.ref 113, .ref 113]) (h1 := mk g) rfl ?_
      refine Wp.gf (pc1 := 30) (v := .int (g 113 16)) rfl rfl rfl rfl rfl ?_
      refine Wp.steps 2 (pc1 := 32) (lo1 := [some (.ref 113), some (.int x1), some (.int x2), some (.int x3), some (.int x4)]) (st1 := [.int ((g 113 16) + 1), .ref 113]) (h1 := mk g) rfl ?_
      obtain ⟨v4, hvv4, e⟩ := zb_bind e
      refine Wp.ca (m := 114) (d1 := d) (as := [.ref 113, .int ((g 113 16) + 1)]) (rest := []) (st1 := [.int v4]) (pc1 := 35) rfl rfl rfl rfl rfl rfl rfl rfl (mk_rok rfl rfl rfl rfl) rfl rfl rfl (w_114 (sc := sc) (d := d) ((g 113 16) + 1) g hvv4) ?_
      refine Wp.steps 1 (pc1 := 36) (lo1 := [some (.ref 113), some (.int x1), some (.int x2), some (.int x3), some (.int x4)]) (st1 := [.int x3, .int v4]) (h1 := mk g) rfl ?_
      rcases zb_if e with ⟨hc5, e⟩ | ⟨hc5, e⟩
      · skip
        refine Wp.cT (pc1 := 58) rfl hc5 rfl ?_
        refine Wp.steps 1 (pc1 := 59) (lo1 := [some (.ref 113), some (.int x1), some (.int x2), some (.int x3), some (.int x4)]) (st1 := [.int 0]) (h1 := mk g) rfl ?_
        have e1 := zb_r1 e
        subst e1
        exact Wp.ret rfl rfl rfl (K _)
      · skip
        refine Wp.cF (pc1 := 39) rfl hc5 rfl ?_
        refine Wp.steps 2 (pc1 := 41) (lo1 := [some (.ref 113), some (.int x1), some (.int x2), some (.int x3), some (.int x4)]) (st1 := [.ref 113, .ref 113]) (h1 := mk g) rfl ?_
        refine Wp.gf (pc1 := 44) (v := .int (g 113 16)) rfl rfl rfl rfl rfl ?_
        refine Wp.steps 2 (pc1 := 46) (lo1 := [some (.ref 113), some (.int x1), some (.int x2), some (.int x3), some (.int x4)]) (st1 := [.int ((g 113 16) + 2), .ref 113]) (h1 := mk g) rfl ?_
        obtain ⟨v6, hvv6, e⟩ := zb_bind e
        refine Wp.ca (m := 114) (d1 := d) (as := [.ref 113, .int ((g 113 16) + 2)]) (rest := []) (st1 := [.int v6]) (pc1 := 49) rfl rfl rfl rfl rfl rfl rfl rfl (mk_rok rfl rfl rfl rfl) rfl rfl rfl (w_114 (sc := sc) (d := d) ((g 113 16) + 2) g hvv6) ?_
        refine Wp.steps 1 (pc1 := 51) (lo1 := [some (.ref 113), some (.int x1), some (.int x2), some (.int x3), some (.int x4)]) (st1 := [.int x4, .int v6]) (h1 := mk g) rfl ?_
        rcases zb_if e with ⟨hc7, e⟩ | ⟨hc7, e⟩
        · skip
          refine Wp.cT (pc1 := 58) rfl hc7 rfl ?_
          refine Wp.steps 1 (pc1 := 59) (lo1 := [some (.ref 113), some (.int x1), some (.int x2), some (.int x3), some (.int x4)]) (st1 := [.int 0]) (h1 := mk g) rfl ?_
          have e1 := zb_r1 e
          subst e1
          exact Wp.ret rfl rfl rfl (K _)
        · skip
          refine Wp.cF (pc1 := 54) rfl hc7 rfl ?_
          refine Wp.steps 2 (pc1 := 59) (lo1 := [some (.ref 113), some (.int x1), some (.int x2), some (.int x3), some (.int x4)]) (st1 := [.int 1]) (h1 := mk g) rfl ?_
          have e1 := zb_r1 e
          subst e1
          exact Wp.ret rfl rfl rfl (K _)
/-- EveningFirstModel.ends(II)Z -/
def d_116 (x1 : Int32) (x2 : Int32) (g : G) : Option Bool :=
  Option.bind (d_114 ((g 113 16) + 3) g) fun v1 =>
  bif zm_cmp .ne v1 x1 then (
    some false) else
  bif zm_cmp .eq x2 0 then (
    some true) else
  Option.bind (d_114 ((g 113 16) + 4) g) fun v4 =>
  bif zm_cmp .ne v4 x2 then (
    some false) else
  some true
set_option maxRecDepth 100000 in
set_option maxHeartbeats 4000000 in
theorem w_116 {sc : Option (List Int32)} {d : Nat} (x1 : Int32) (x2 : Int32) (g : G) {r : Bool} (e : d_116 x1 x2 g = some r) : zB sc (d + 1) 116 0 (zm_ent (z_L 116) [.ref 113, .int x1, .int x2]) [] (mk g) [.int (zb_i r)] (mk g) := by
  unfold d_116 at e
  intro Q K
  show Wp sc (d + 1) 116 0 [some (.ref 113), some (.int x1), some (.int x2)] [] (mk g) Q
  refine Wp.steps 2 (pc1 := 2) (lo1 := [some (.ref 113), some (.int x1), some (.int x2)]) (st1 := [.ref 113, .ref 113]) (h1 := mk g) rfl ?_
  refine Wp.gf (pc1 := 5) (v := .int (g 113 16)) rfl rfl rfl rfl rfl ?_
  refine Wp.steps 2 (pc1 := 7) (lo1 := [some (.ref 113), some (.int x1), some (.int x2)]) (st1 := [.int ((g 113 16) + 3), .ref 113]) (h1 := mk g) rfl ?_
  obtain ⟨v1, hvv1, e⟩ := zb_bind e
  refine Wp.ca (m := 114) (d1 := d) (as := [.ref 113, .int ((g 113 16) + 3)]) (rest := []) (st1 := [.int v1]) (pc1 := 10) rfl rfl rfl rfl rfl rfl rfl rfl (mk_rok rfl rfl rfl rfl) rfl rfl rfl (w_114 (sc := sc) (d := d) ((g 113 16) + 3) g hvv1) ?_
  refine Wp.steps 1 (pc1 := 11) (lo1 := [some (.ref 113), some (.int x1), some (.int x2)]) (st1 := [.int x1, .int v1]) (h1 := mk g) rfl ?_
  rcases zb_if e with ⟨hc2, e⟩ | ⟨hc2, e⟩
  · skip
    refine Wp.cT (pc1 := 36) rfl hc2 rfl ?_
    refine Wp.steps 1 (pc1 := 37) (lo1 := [some (.ref 113), some (.int x1), some (.int x2)]) (st1 := [.int 0]) (h1 := mk g) rfl ?_
    have e1 := zb_r1 e
    subst e1
    exact Wp.ret rfl rfl rfl (K _)
  · skip
    refine Wp.cF (pc1 := 14) rfl hc2 rfl ?_
    refine Wp.steps 1 (pc1 := 15) (lo1 := [some (.ref 113), some (.int x1), some (.int x2)]) (st1 := [.int x2]) (h1 := mk g) rfl ?_
    rcases zb_if e with ⟨hc3, e⟩ | ⟨hc3, e⟩
    · skip
      refine Wp.iT (pc1 := 32) rfl hc3 rfl ?_
      refine Wp.steps 2 (pc1 := 37) (lo1 := [some (.ref 113), some (.int x1), some (.int x2)]) (st1 := [.int 1]) (h1 := mk g) rfl ?_
      have e1 := zb_r1 e
      subst e1
      exact Wp.ret rfl rfl rfl (K _)
    · skip
      refine Wp.iF (pc1 := 18) rfl hc3 rfl ?_
      refine Wp.steps 2 (pc1 := 20) (lo1 := [some (.ref 113), some (.int x1), some (.int x2)]) (st1 := [.ref 113, .ref 113]) (h1 := mk g) rfl ?_
      refine Wp.gf (pc1 := 23) (v := .int (g 113 16)) rfl rfl rfl rfl rfl ?_
      refine Wp.steps 2 (pc1 := 25) (lo1 := [some (.ref 113), some (.int x1), some (.int x2)]) (st1 := [.int ((g 113 16) + 4), .ref 113]) (h1 := mk g) rfl ?_
      obtain ⟨v4, hvv4, e⟩ := zb_bind e
      refine Wp.ca (m := 114) (d1 := d) (as := [.ref 113, .int ((g 113 16) + 4)]) (rest := []) (st1 := [.int v4]) (pc1 := 28) rfl rfl rfl rfl rfl rfl rfl rfl (mk_rok rfl rfl rfl rfl) rfl rfl rfl (w_114 (sc := sc) (d := d) ((g 113 16) + 4) g hvv4) ?_
      refine Wp.steps 1 (pc1 := 29) (lo1 := [some (.ref 113), some (.int x1), some (.int x2)]) (st1 := [.int x2, .int v4]) (h1 := mk g) rfl ?_
      rcases zb_if e with ⟨hc5, e⟩ | ⟨hc5, e⟩
      · skip
        refine Wp.cT (pc1 := 36) rfl hc5 rfl ?_
        refine Wp.steps 1 (pc1 := 37) (lo1 := [some (.ref 113), some (.int x1), some (.int x2)]) (st1 := [.int 0]) (h1 := mk g) rfl ?_
        have e1 := zb_r1 e
        subst e1
        exact Wp.ret rfl rfl rfl (K _)
      · skip
        refine Wp.cF (pc1 := 32) rfl hc5 rfl ?_
        refine Wp.steps 2 (pc1 := 37) (lo1 := [some (.ref 113), some (.int x1), some (.int x2)]) (st1 := [.int 1]) (h1 := mk g) rfl ?_
        have e1 := zb_r1 e
        subst e1
        exact Wp.ret rfl rfl rfl (K _)
def d_117_95 (g : G) : Option Int32 :=
  Option.bind (d_115 5 110 101 118 g) fun v9 =>
  bif v9 then (
    Option.bind (d_116 101 114 g) fun v15 =>
    bif v15 then (
      some 4) else
    Option.bind (d_115 4 111 100 100 g) fun v17 =>
    bif v17 then (
      Option.bind (d_116 115 0 g) fun v19 =>
      bif v19 then (
        some 5) else
      some (-4)) else
    some (-4)) else
  Option.bind (d_115 4 111 100 100 g) fun v11 =>
  bif v11 then (
    Option.bind (d_116 115 0 g) fun v13 =>
    bif v13 then (
      some 5) else
    some (-4)) else
  some (-4)
set_option maxRecDepth 100000 in
set_option maxHeartbeats 4000000 in
theorem w_117_95 {sc : Option (List Int32)} {d : Nat} (g : G) (r : Int32) (e : d_117_95 g = some r) : zB sc (d + 2) 117 95 [some (.ref 113)] [] (mk g) [.int r] (mk g) := by
  unfold d_117_95 at e
  intro Q K
  refine Wp.steps 5 (pc1 := 103) (lo1 := [some (.ref 113)]) (st1 := [.int 118, .int 101, .int 110, .int 5, .ref 113]) (h1 := mk g) rfl ?_
  obtain ⟨v9, hvv9, e⟩ := zb_bind e
  refine Wp.ca (m := 115) (d1 := d + 1) (as := [.ref 113, .int 5, .int 110, .int 101, .int 118]) (rest := []) (st1 := [.int (zb_i v9)]) (pc1 := 106) rfl rfl rfl rfl rfl rfl rfl rfl (mk_rok rfl rfl rfl rfl) rfl rfl rfl (w_115 (sc := sc) (d := d) 5 110 101 118 g hvv9) ?_
  rcases zb_if e with ⟨hc10, e⟩ | ⟨hc10, e⟩
  · skip
    refine Wp.iF (pc1 := 109) rfl (zb_eqF hc10) rfl ?_
    refine Wp.steps 3 (pc1 := 114) (lo1 := [some (.ref 113)]) (st1 := [.int 114, .int 101, .ref 113]) (h1 := mk g) rfl ?_
    obtain ⟨v15, hvv15, e⟩ := zb_bind e
    refine Wp.ca (m := 116) (d1 := d + 1) (as := [.ref 113, .int 101, .int 114]) (rest := []) (st1 := [.int (zb_i v15)]) (pc1 := 117) rfl rfl rfl rfl rfl rfl rfl rfl (mk_rok rfl rfl rfl rfl) rfl rfl rfl (w_116 (sc := sc) (d := d) 101 114 g hvv15) ?_
    rcases zb_if e with ⟨hc16, e⟩ | ⟨hc16, e⟩
    · skip
      refine Wp.iF (pc1 := 120) rfl (zb_eqF hc16) rfl ?_
      refine Wp.steps 2 (pc1 := 154) (lo1 := [some (.ref 113)]) (st1 := [.int 4]) (h1 := mk g) rfl ?_
      have e1 := zb_r1 e
      subst e1
      exact Wp.ret rfl rfl rfl (K _)
    · skip
      refine Wp.iT (pc1 := 124) rfl (zb_eqT hc16) rfl ?_
      refine Wp.steps 5 (pc1 := 132) (lo1 := [some (.ref 113)]) (st1 := [.int 100, .int 100, .int 111, .int 4, .ref 113]) (h1 := mk g) rfl ?_
      obtain ⟨v17, hvv17, e⟩ := zb_bind e
      refine Wp.ca (m := 115) (d1 := d + 1) (as := [.ref 113, .int 4, .int 111, .int 100, .int 100]) (rest := []) (st1 := [.int (zb_i v17)]) (pc1 := 135) rfl rfl rfl rfl rfl rfl rfl rfl (mk_rok rfl rfl rfl rfl) rfl rfl rfl (w_115 (sc := sc) (d := d) 4 111 100 100 g hvv17) ?_
      rcases zb_if e with ⟨hc18, e⟩ | ⟨hc18, e⟩
      · skip
        refine Wp.iF (pc1 := 138) rfl (zb_eqF hc18) rfl ?_
        refine Wp.steps 3 (pc1 := 142) (lo1 := [some (.ref 113)]) (st1 := [.int 0, .int 115, .ref 113]) (h1 := mk g) rfl ?_
        obtain ⟨v19, hvv19, e⟩ := zb_bind e
        refine Wp.ca (m := 116) (d1 := d + 1) (as := [.ref 113, .int 115, .int 0]) (rest := []) (st1 := [.int (zb_i v19)]) (pc1 := 145) rfl rfl rfl rfl rfl rfl rfl rfl (mk_rok rfl rfl rfl rfl) rfl rfl rfl (w_116 (sc := sc) (d := d) 115 0 g hvv19) ?_
        rcases zb_if e with ⟨hc20, e⟩ | ⟨hc20, e⟩
        · skip
          refine Wp.iF (pc1 := 148) rfl (zb_eqF hc20) rfl ?_
          refine Wp.steps 2 (pc1 := 154) (lo1 := [some (.ref 113)]) (st1 := [.int 5]) (h1 := mk g) rfl ?_
          have e1 := zb_r1 e
          subst e1
          exact Wp.ret rfl rfl rfl (K _)
        · skip
          refine Wp.iT (pc1 := 152) rfl (zb_eqT hc20) rfl ?_
          refine Wp.steps 1 (pc1 := 154) (lo1 := [some (.ref 113)]) (st1 := [.int (-4)]) (h1 := mk g) rfl ?_
          have e1 := zb_r1 e
          subst e1
          exact Wp.ret rfl rfl rfl (K _)
      · skip
        refine Wp.iT (pc1 := 152) rfl (zb_eqT hc18) rfl ?_
        refine Wp.steps 1 (pc1 := 154) (lo1 := [some (.ref 113)]) (st1 := [.int (-4)]) (h1 := mk g) rfl ?_
        have e1 := zb_r1 e
        subst e1
        exact Wp.ret rfl rfl rfl (K _)
  · skip
    refine Wp.iT (pc1 := 124) rfl (zb_eqT hc10) rfl ?_
    refine Wp.steps 5 (pc1 := 132) (lo1 := [some (.ref 113)]) (st1 := [.int 100, .int 100, .int 111, .int 4, .ref 113]) (h1 := mk g) rfl ?_
    obtain ⟨v11, hvv11, e⟩ := zb_bind e
    refine Wp.ca (m := 115) (d1 := d + 1) (as := [.ref 113, .int 4, .int 111, .int 100, .int 100]) (rest := []) (st1 := [.int (zb_i v11)]) (pc1 := 135) rfl rfl rfl rfl rfl rfl rfl rfl (mk_rok rfl rfl rfl rfl) rfl rfl rfl (w_115 (sc := sc) (d := d) 4 111 100 100 g hvv11) ?_
    rcases zb_if e with ⟨hc12, e⟩ | ⟨hc12, e⟩
    · skip
      refine Wp.iF (pc1 := 138) rfl (zb_eqF hc12) rfl ?_
      refine Wp.steps 3 (pc1 := 142) (lo1 := [some (.ref 113)]) (st1 := [.int 0, .int 115, .ref 113]) (h1 := mk g) rfl ?_
      obtain ⟨v13, hvv13, e⟩ := zb_bind e
      refine Wp.ca (m := 116) (d1 := d + 1) (as := [.ref 113, .int 115, .int 0]) (rest := []) (st1 := [.int (zb_i v13)]) (pc1 := 145) rfl rfl rfl rfl rfl rfl rfl rfl (mk_rok rfl rfl rfl rfl) rfl rfl rfl (w_116 (sc := sc) (d := d) 115 0 g hvv13) ?_
      rcases zb_if e with ⟨hc14, e⟩ | ⟨hc14, e⟩
      · skip
        refine Wp.iF (pc1 := 148) rfl (zb_eqF hc14) rfl ?_
        refine Wp.steps 2 (pc1 := 154) (lo1 := [some (.ref 113)]) (st1 := [.int 5]) (h1 := mk g) rfl ?_
        have e1 := zb_r1 e
        subst e1
        exact Wp.ret rfl rfl rfl (K _)
      · skip
        refine Wp.iT (pc1 := 152) rfl (zb_eqT hc14) rfl ?_
        refine Wp.steps 1 (pc1 := 154) (lo1 := [some (.ref 113)]) (st1 := [.int (-4)]) (h1 := mk g) rfl ?_
        have e1 := zb_r1 e
        subst e1
        exact Wp.ret rfl rfl rfl (K _)
    · skip
      refine Wp.iT (pc1 := 152) rfl (zb_eqT hc12) rfl ?_
      refine Wp.steps 1 (pc1 := 154) (lo1 := [some (.ref 113)]) (st1 := [.int (-4)]) (h1 := mk g) rfl ?_
      have e1 := zb_r1 e
      subst e1
      exact Wp.ret rfl rfl rfl (K _)
def d_117_27 (g : G) : Option Int32 :=
  Option.bind (d_115 3 111 110 101 g) fun v3 =>
  bif v3 then (
    some 1) else
  Option.bind (d_115 4 100 101 101 g) fun v5 =>
  bif v5 then (
    Option.bind (d_116 100 0 g) fun v23 =>
    bif v23 then (
      some 2) else
    Option.bind (d_115 4 109 117 115 g) fun v25 =>
    bif v25 then (
      Option.bind (d_116 116 0 g) fun v27 =>
      bif v27 then (
        some 3) else
      d_117_95 g) else
    d_117_95 g) else
  Option.bind (d_115 4 109 117 115 g) fun v7 =>
  bif v7 then (
    Option.bind (d_116 116 0 g) fun v21 =>
    bif v21 then (
      some 3) else
    d_117_95 g) else
  d_117_95 g
set_option maxRecDepth 100000 in
set_option maxHeartbeats 4000000 in
theorem w_117_27 {sc : Option (List Int32)} {d : Nat} (g : G) (r : Int32) (e : d_117_27 g = some r) : zB sc (d + 2) 117 27 [some (.ref 113)] [] (mk g) [.int r] (mk g) := by
  unfold d_117_27 at e
  intro Q K
  refine Wp.steps 5 (pc1 := 35) (lo1 := [some (.ref 113)]) (st1 := [.int 101, .int 110, .int 111, .int 3, .ref 113]) (h1 := mk g) rfl ?_
  obtain ⟨v3, hvv3, e⟩ := zb_bind e
  refine Wp.ca (m := 115) (d1 := d + 1) (as := [.ref 113, .int 3, .int 111, .int 110, .int 101]) (rest := []) (st1 := [.int (zb_i v3)]) (pc1 := 38) rfl rfl rfl rfl rfl rfl rfl rfl (mk_rok rfl rfl rfl rfl) rfl rfl rfl (w_115 (sc := sc) (d := d) 3 111 110 101 g hvv3) ?_
  rcases zb_if e with ⟨hc4, e⟩ | ⟨hc4, e⟩
  · skip
    refine Wp.iF (pc1 := 41) rfl (zb_eqF hc4) rfl ?_
    refine Wp.steps 1 (pc1 := 42) (lo1 := [some (.ref 113)]) (st1 := [.int 1]) (h1 := mk g) rfl ?_
    have e1 := zb_r1 e
    subst e1
    exact Wp.ret rfl rfl rfl (K _)
  · skip
    refine Wp.iT (pc1 := 43) rfl (zb_eqT hc4) rfl ?_
    refine Wp.steps 5 (pc1 := 51) (lo1 := [some (.ref 113)]) (st1 := [.int 101, .int 101, .int 100, .int 4, .ref 113]) (h1 := mk g) rfl ?_
    obtain ⟨v5, hvv5, e⟩ := zb_bind e
    refine Wp.ca (m := 115) (d1 := d + 1) (as := [.ref 113, .int 4, .int 100, .int 101, .int 101]) (rest := []) (st1 := [.int (zb_i v5)]) (pc1 := 54) rfl rfl rfl rfl rfl rfl rfl rfl (mk_rok rfl rfl rfl rfl) rfl rfl rfl (w_115 (sc := sc) (d := d) 4 100 101 101 g hvv5) ?_
    rcases zb_if e with ⟨hc6, e⟩ | ⟨hc6, e⟩
    · skip
      refine Wp.iF (pc1 := 57) rfl (zb_eqF hc6) rfl ?_
      refine Wp.steps 3 (pc1 := 61) (lo1 := [some (.ref 113)]) (st1 := [.int 0, .int 100, .ref 113]) (h1 := mk g) rfl ?_
      obtain ⟨v23, hvv23, e⟩ := zb_bind e
      refine Wp.ca (m := 116) (d1 := d + 1) (as := [.ref 113, .int 100, .int 0]) (rest := []) (st1 := [.int (zb_i v23)]) (pc1 := 64) rfl rfl rfl rfl rfl rfl rfl rfl (mk_rok rfl rfl rfl rfl) rfl rfl rfl (w_116 (sc := sc) (d := d) 100 0 g hvv23) ?_
      rcases zb_if e with ⟨hc24, e⟩ | ⟨hc24, e⟩
      · skip
        refine Wp.iF (pc1 := 67) rfl (zb_eqF hc24) rfl ?_
        refine Wp.steps 1 (pc1 := 68) (lo1 := [some (.ref 113)]) (st1 := [.int 2]) (h1 := mk g) rfl ?_
        have e1 := zb_r1 e
        subst e1
        exact Wp.ret rfl rfl rfl (K _)
      · skip
        refine Wp.iT (pc1 := 69) rfl (zb_eqT hc24) rfl ?_
        refine Wp.steps 5 (pc1 := 77) (lo1 := [some (.ref 113)]) (st1 := [.int 115, .int 117, .int 109, .int 4, .ref 113]) (h1 := mk g) rfl ?_
        obtain ⟨v25, hvv25, e⟩ := zb_bind e
        refine Wp.ca (m := 115) (d1 := d + 1) (as := [.ref 113, .int 4, .int 109, .int 117, .int 115]) (rest := []) (st1 := [.int (zb_i v25)]) (pc1 := 80) rfl rfl rfl rfl rfl rfl rfl rfl (mk_rok rfl rfl rfl rfl) rfl rfl rfl (w_115 (sc := sc) (d := d) 4 109 117 115 g hvv25) ?_
        rcases zb_if e with ⟨hc26, e⟩ | ⟨hc26, e⟩
        · skip
          refine Wp.iF (pc1 := 83) rfl (zb_eqF hc26) rfl ?_
          refine Wp.steps 3 (pc1 := 87) (lo1 := [some (.ref 113)]) (st1 := [.int 0, .int 116, .ref 113]) (h1 := mk g) rfl ?_
          obtain ⟨v27, hvv27, e⟩ := zb_bind e
          refine Wp.ca (m := 116) (d1 := d + 1) (as := [.ref 113, .int 116, .int 0]) (rest := []) (st1 := [.int (zb_i v27)]) (pc1 := 90) rfl rfl rfl rfl rfl rfl rfl rfl (mk_rok rfl rfl rfl rfl) rfl rfl rfl (w_116 (sc := sc) (d := d) 116 0 g hvv27) ?_
          rcases zb_if e with ⟨hc28, e⟩ | ⟨hc28, e⟩
          · skip
            refine Wp.iF (pc1 := 93) rfl (zb_eqF hc28) rfl ?_
            refine Wp.steps 1 (pc1 := 94) (lo1 := [some (.ref 113)]) (st1 := [.int 3]) (h1 := mk g) rfl ?_
            have e1 := zb_r1 e
            subst e1
            exact Wp.ret rfl rfl rfl (K _)
          · skip
            refine Wp.iT (pc1 := 95) rfl (zb_eqT hc28) rfl ?_
            exact w_117_95 (sc := sc) (d := d) g _ e Q K
        · skip
          refine Wp.iT (pc1 := 95) rfl (zb_eqT hc26) rfl ?_
          exact w_117_95 (sc := sc) (d := d) g _ e Q K
    · skip
      refine Wp.iT (pc1 := 69) rfl (zb_eqT hc6) rfl ?_
      refine Wp.steps 5 (pc1 := 77) (lo1 := [some (.ref 113)]) (st1 := [.int 115, .int 117, .int 109, .int 4, .ref 113]) (h1 := mk g) rfl ?_
      obtain ⟨v7, hvv7, e⟩ := zb_bind e
      refine Wp.ca (m := 115) (d1 := d + 1) (as := [.ref 113, .int 4, .int 109, .int 117, .int 115]) (rest := []) (st1 := [.int (zb_i v7)]) (pc1 := 80) rfl rfl rfl rfl rfl rfl rfl rfl (mk_rok rfl rfl rfl rfl) rfl rfl rfl (w_115 (sc := sc) (d := d) 4 109 117 115 g hvv7) ?_
      rcases zb_if e with ⟨hc8, e⟩ | ⟨hc8, e⟩
      · skip
        refine Wp.iF (pc1 := 83) rfl (zb_eqF hc8) rfl ?_
        refine Wp.steps 3 (pc1 := 87) (lo1 := [some (.ref 113)]) (st1 := [.int 0, .int 116, .ref 113]) (h1 := mk g) rfl ?_
        obtain ⟨v21, hvv21, e⟩ := zb_bind e
        refine Wp.ca (m := 116) (d1 := d + 1) (as := [.ref 113, .int 116, .int 0]) (rest := []) (st1 := [.int (zb_i v21)]) (pc1 := 90) rfl rfl rfl rfl rfl rfl rfl rfl (mk_rok rfl rfl rfl rfl) rfl rfl rfl (w_116 (sc := sc) (d := d) 116 0 g hvv21) ?_
        rcases zb_if e with ⟨hc22, e⟩ | ⟨hc22, e⟩
        · skip
          refine Wp.iF (pc1 := 93) rfl (zb_eqF hc22) rfl ?_
          refine Wp.steps 1 (pc1 := 94) (lo1 := [some (.ref 113)]) (st1 := [.int 3]) (h1 := mk g) rfl ?_
          have e1 := zb_r1 e
          subst e1
          exact Wp.ret rfl rfl rfl (K _)
        · skip
          refine Wp.iT (pc1 := 95) rfl (zb_eqT hc22) rfl ?_
          exact w_117_95 (sc := sc) (d := d) g _ e Q K
      · skip
        refine Wp.iT (pc1 := 95) rfl (zb_eqT hc8) rfl ?_
        exact w_117_95 (sc := sc) (d := d) g _ e Q K
/-- EveningFirstModel.lineNow()I -/
def d_117 (g : G) : Option Int32 :=
  Option.bind (d_115 5 104 111 117 g) fun v1 =>
  bif v1 then (
    Option.bind (d_116 114 115 g) fun v29 =>
    bif v29 then (
      some 0) else
    d_117_27 g) else
  d_117_27 g
set_option maxRecDepth 100000 in
set_option maxHeartbeats 4000000 in
theorem w_117 {sc : Option (List Int32)} {d : Nat} (g : G) {r : Int32} (e : d_117 g = some r) : zB sc (d + 2) 117 0 (zm_ent (z_L 117) [.ref 113]) [] (mk g) [.int r] (mk g) := by
  unfold d_117 at e
  intro Q K
  show Wp sc (d + 2) 117 0 [some (.ref 113)] [] (mk g) Q
  refine Wp.steps 5 (pc1 := 8) (lo1 := [some (.ref 113)]) (st1 := [.int 117, .int 111, .int 104, .int 5, .ref 113]) (h1 := mk g) rfl ?_
  obtain ⟨v1, hvv1, e⟩ := zb_bind e
  refine Wp.ca (m := 115) (d1 := d + 1) (as := [.ref 113, .int 5, .int 104, .int 111, .int 117]) (rest := []) (st1 := [.int (zb_i v1)]) (pc1 := 11) rfl rfl rfl rfl rfl rfl rfl rfl (mk_rok rfl rfl rfl rfl) rfl rfl rfl (w_115 (sc := sc) (d := d) 5 104 111 117 g hvv1) ?_
  rcases zb_if e with ⟨hc2, e⟩ | ⟨hc2, e⟩
  · skip
    refine Wp.iF (pc1 := 14) rfl (zb_eqF hc2) rfl ?_
    refine Wp.steps 3 (pc1 := 19) (lo1 := [some (.ref 113)]) (st1 := [.int 115, .int 114, .ref 113]) (h1 := mk g) rfl ?_
    obtain ⟨v29, hvv29, e⟩ := zb_bind e
    refine Wp.ca (m := 116) (d1 := d + 1) (as := [.ref 113, .int 114, .int 115]) (rest := []) (st1 := [.int (zb_i v29)]) (pc1 := 22) rfl rfl rfl rfl rfl rfl rfl rfl (mk_rok rfl rfl rfl rfl) rfl rfl rfl (w_116 (sc := sc) (d := d) 114 115 g hvv29) ?_
    rcases zb_if e with ⟨hc30, e⟩ | ⟨hc30, e⟩
    · skip
      refine Wp.iF (pc1 := 25) rfl (zb_eqF hc30) rfl ?_
      refine Wp.steps 1 (pc1 := 26) (lo1 := [some (.ref 113)]) (st1 := [.int 0]) (h1 := mk g) rfl ?_
      have e1 := zb_r1 e
      subst e1
      exact Wp.ret rfl rfl rfl (K _)
    · skip
      refine Wp.iT (pc1 := 27) rfl (zb_eqT hc30) rfl ?_
      exact w_117_27 (sc := sc) (d := d) g _ e Q K
  · skip
    refine Wp.iT (pc1 := 27) rfl (zb_eqT hc2) rfl ?_
    exact w_117_27 (sc := sc) (d := d) g _ e Q K
