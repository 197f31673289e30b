/-! printed by wip/tools/den.py -/
def d_168_102 (x1 : Int32) (x2 : Int32) (x3 : Int32) (x4 : Int32) (x5 : Int32) (x6 : Int32) (x7 : Int32) (g : G) (k47 : Int32 → Int32 → Int32 → Option Int32) : Option Int32 :=
  k47 x5 x6 (x7 + 1)
set_option maxRecDepth 100000 in
set_option maxHeartbeats 4000000 in
theorem w_168_102 {sc : Option (List Int32)} {d : Nat} (x1 : Int32) (x2 : Int32) (x3 : Int32) (x4 : Int32) (x5 : Int32) (x6 : Int32) (x7 : Int32) (g : G) (k47 : Int32 → Int32 → Int32 → Option Int32) (hk47 : ∀ (x5 : Int32) (x6 : Int32) (x7 : Int32) (r : Int32), k47 x5 x6 x7 = some r → zB sc (d + 5) 168 47 [some (.ref 113), some (.int x1), some (.int x2), some (.int x3), some (.int x4), some (.int x5), some (.int x6), some (.int x7), none] [] (mk g) [.int r] (mk g)) (r : Int32) (e : d_168_102 x1 x2 x3 x4 x5 x6 x7 g k47 = some r) : zB sc (d + 5) 168 102 [some (.ref 113), some (.int x1), some (.int x2), some (.int x3), some (.int x4), some (.int x5), some (.int x6), some (.int x7), none] [] (mk g) [.int r] (mk g) := by
  unfold d_168_102 at e
  intro Q K
  refine Wp.steps 8 (pc1 := 132) (lo1 := [some (.ref 113), some (.int x1), some (.int x2), some (.int x3), some (.int x4), some (.int x5), some (.int x6), some (.int x7), some (.int 0)]) (st1 := []) (h1 := mk g) rfl ?_
  refine Wp.steps 4 (pc1 := 47) (lo1 := [some (.ref 113), some (.int x1), some (.int x2), some (.int x3), some (.int x4), some (.int x5), some (.int x6), some (.int (x7 + 1)), some (.int 0)]) (st1 := []) (h1 := mk g) rfl ?_
  refine Wp.fg [some (.ref 113), some (.int x1), some (.int x2), some (.int x3), some (.int x4), some (.int x5), some (.int x6), some (.int (x7 + 1)), none] (zm_lle_s (zm_lle_s (zm_lle_s (zm_lle_s (zm_lle_s (zm_lle_s (zm_lle_s (zm_lle_s (zm_lle_n zm_lle_0))))))))) ?_
  exact hk47 _ _ _ _ e Q K
def d_168_47 (x1 : Int32) (x2 : Int32) (x3 : Int32) (x4 : Int32) (g : G) : Nat → Int32 → Int32 → Int32 → Option Int32
  | 0, _, _, _ => none
  | f + 1, x5, x6, x7 =>
    zb_l (d_158 g) fun v9 =>
    bif zm_cmp .gt x7 v9 then (
      bif zm_cmp .ne x4 0 then (
        some x6) else
      some x5) else
    Option.bind (d_159 x7 g) fun v12 =>
    bif v12 then (
      Option.bind (d_150 x1 x3 x7 g) fun v14 =>
      bif zm_cmp .ne ((v14 >>> (x2 &&& 31)) &&& 1) 1 then (
        d_168_102 x1 x2 x3 x4 x5 x6 x7 g (d_168_47 x1 x2 x3 x4 g f)) else
      bif zm_cmp .eq x5 (-4) then (
        Option.bind (d_164 x7 g) fun v17 =>
        d_168_47 x1 x2 x3 x4 g f v17 x7 (x7 + 1)) else
      Option.bind (d_164 x7 g) fun v18 =>
      bif zm_cmp .ge v18 x5 then (
        d_168_102 x1 x2 x3 x4 x5 x6 x7 g (d_168_47 x1 x2 x3 x4 g f)) else
      Option.bind (d_164 x7 g) fun v20 =>
      d_168_47 x1 x2 x3 x4 g f v20 x7 (x7 + 1)) else
    d_168_102 x1 x2 x3 x4 x5 x6 x7 g (d_168_47 x1 x2 x3 x4 g f)
set_option maxRecDepth 100000 in
set_option maxHeartbeats 4000000 in
theorem w_168_47 {sc : Option (List Int32)} {d : Nat} (x1 : Int32) (x2 : Int32) (x3 : Int32) (x4 : Int32) (g : G) : ∀ (f : Nat) (x5 : Int32) (x6 : Int32) (x7 : Int32) (r : Int32), d_168_47 x1 x2 x3 x4 g f x5 x6 x7 = some r → zB sc (d + 5) 168 47 [some (.ref 113), some (.int x1), some (.int x2), some (.int x3), some (.int x4), some (.int x5), some (.int x6), some (.int x7), none] [] (mk g) [.int r] (mk g) := by
  intro f
  induction f with
  | zero =>
    intro x5 x6 x7 r e
    rw [d_168_47.eq_1] at e
    cases e
  | succ f ih =>
    intro x5 x6 x7 r e
    rw [d_168_47.eq_2] at e
    intro Q K
    refine Wp.steps 2 (pc1 := 50) (lo1 := [some (.ref 113), some (.int x1), some (.int x2), some (.int x3), some (.int x4), some (.int x5), some (.int x6), some (.int x7), none]) (st1 := [.ref 113, .int x7]) (h1 := mk g) rfl ?_
    obtain ⟨v9, hvv9, e⟩ := zb_let e
    refine Wp.ca (m := 158) (d1 := d + 4) (as := [.ref 113]) (rest := [.int x7]) (st1 := [.int v9, .int x7]) (pc1 := 53) rfl rfl rfl rfl rfl rfl rfl rfl (mk_rok rfl rfl rfl rfl) rfl rfl rfl (w_158 (sc := sc) (d := d + 4)  g hvv9) ?_
    rcases zb_if e with ⟨hc10, e⟩ | ⟨hc10, e⟩
    · skip
      refine Wp.cT (pc1 := 142) rfl hc10 rfl ?_
      refine Wp.steps 1 (pc1 := 144) (lo1 := [some (.ref 113), some (.int x1), some (.int x2), some (.int x3), some (.int x4), some (.int x5), some (.int x6), some (.int x7), none]) (st1 := [.int x4]) (h1 := mk g) rfl ?_
      rcases zb_if e with ⟨hc11, e⟩ | ⟨hc11, e⟩
      · skip
        refine Wp.iT (pc1 := 152) rfl hc11 rfl ?_
        refine Wp.steps 1 (pc1 := 154) (lo1 := [some (.ref 113), some (.int x1), some (.int x2), some (.int x3), some (.int x4), some (.int x5), some (.int x6), some (.int x7), none]) (st1 := [.int x6]) (h1 := mk g) rfl ?_
        have e1 := zb_r1 e
        subst e1
        exact Wp.ret rfl rfl rfl (K _)
      · skip
        refine Wp.iF (pc1 := 147) rfl hc11 rfl ?_
        refine Wp.steps 2 (pc1 := 154) (lo1 := [some (.ref 113), some (.int x1), some (.int x2), some (.int x3), some (.int x4), some (.int x5), some (.int x6), some (.int x7), none]) (st1 := [.int x5]) (h1 := mk g) rfl ?_
        have e1 := zb_r1 e
        subst e1
        exact Wp.ret rfl rfl rfl (K _)
    · skip
      refine Wp.cF (pc1 := 56) rfl hc10 rfl ?_
      refine Wp.steps 2 (pc1 := 59) (lo1 := [some (.ref 113), some (.int x1), some (.int x2), some (.int x3), some (.int x4), some (.int x5), some (.int x6), some (.int x7), none]) (st1 := [.int x7, .ref 113]) (h1 := mk g) rfl ?_
      obtain ⟨v12, hvv12, e⟩ := zb_bind e
      refine Wp.ca (m := 159) (d1 := d + 4) (as := [.ref 113, .int x7]) (rest := []) (st1 := [.int (zb_i v12)]) (pc1 := 62) rfl rfl rfl rfl rfl rfl rfl rfl (mk_rok rfl rfl rfl rfl) rfl rfl rfl (w_159 (sc := sc) (d := d) x7 g hvv12) ?_
      rcases zb_if e with ⟨hc13, e⟩ | ⟨hc13, e⟩
      · skip
        refine Wp.iF (pc1 := 65) rfl (zb_eqF hc13) rfl ?_
        refine Wp.steps 4 (pc1 := 70) (lo1 := [some (.ref 113), some (.int x1), some (.int x2), some (.int x3), some (.int x4), some (.int x5), some (.int x6), some (.int x7), none]) (st1 := [.int x7, .int x3, .int x1, .ref 113]) (h1 := mk g) rfl ?_
        obtain ⟨v14, hvv14, e⟩ := zb_bind e
        refine Wp.ca (m := 150) (d1 := d + 4) (as := [.ref 113, .int x1, .int x3, .int x7]) (rest := []) (st1 := [.int v14]) (pc1 := 73) rfl rfl rfl rfl rfl rfl rfl rfl (mk_rok rfl rfl rfl rfl) rfl rfl rfl (w_150 (sc := sc) (d := d + 3) x1 x3 x7 g hvv14) ?_
        refine Wp.steps 5 (pc1 := 78) (lo1 := [some (.ref 113), some (.int x1), some (.int x2), some (.int x3), some (.int x4), some (.int x5), some (.int x6), some (.int x7), none]) (st1 := [.int 1, .int ((v14 >>> (x2 &&& 31)) &&& 1)]) (h1 := mk g) rfl ?_
        rcases zb_if e with ⟨hc15, e⟩ | ⟨hc15, e⟩
        · skip
          refine Wp.cT (pc1 := 102) rfl hc15 rfl ?_
          exact w_168_102 (sc := sc) (d := d) x1 x2 x3 x4 x5 x6 x7 g (d_168_47 x1 x2 x3 x4 g f) ih _ e Q K
        · skip
          refine Wp.cF (pc1 := 81) rfl hc15 rfl ?_
          refine Wp.steps 2 (pc1 := 85) (lo1 := [some (.ref 113), some (.int x1), some (.int x2), some (.int x3), some (.int x4), some (.int x5), some (.int x6), some (.int x7), none]) (st1 := [.int (-4), .int x5]) (h1 := mk g) rfl ?_
          rcases zb_if e with ⟨hc16, e⟩ | ⟨hc16, e⟩
          · skip
            refine Wp.cT (pc1 := 98) rfl hc16 rfl ?_
            refine Wp.steps 8 (pc1 := 119) (lo1 := [some (.ref 113), some (.int x1), some (.int x2), some (.int x3), some (.int x4), some (.int x5), some (.int x7), some (.int x7), some (.int 1)]) (st1 := []) (h1 := mk g) rfl ?_
            refine Wp.steps 3 (pc1 := 126) (lo1 := [some (.ref 113), some (.int x1), some (.int x2), some (.int x3), some (.int x4), some (.int x5), some (.int x7), some (.int x7), some (.int 1)]) (st1 := [.int x7]) (h1 := mk g) rfl ?_
            obtain ⟨v17, hvv17, e⟩ := zb_bind e
            refine Wp.ca (m := 164) (d1 := d + 4) (as := [.int x7]) (rest := []) (st1 := [.int v17]) (pc1 := 129) rfl rfl rfl rfl rfl rfl rfl rfl rfl rfl rfl rfl (w_164 (sc := sc) (d := d + 4) x7 g hvv17) ?_
            refine Wp.steps 4 (pc1 := 47) (lo1 := [some (.ref 113), some (.int x1), some (.int x2), some (.int x3), some (.int x4), some (.int v17), some (.int x7), some (.int (x7 + 1)), some (.int 1)]) (st1 := []) (h1 := mk g) rfl ?_
            refine Wp.fg [some (.ref 113), some (.int x1), some (.int x2), some (.int x3), some (.int x4), some (.int v17), some (.int x7), some (.int (x7 + 1)), none] (zm_lle_s (zm_lle_s (zm_lle_s (zm_lle_s (zm_lle_s (zm_lle_s (zm_lle_s (zm_lle_s (zm_lle_n zm_lle_0))))))))) ?_
            exact ih _ _ _ _ e Q K
          · skip
            refine Wp.cF (pc1 := 88) rfl hc16 rfl ?_
            refine Wp.steps 1 (pc1 := 90) (lo1 := [some (.ref 113), some (.int x1), some (.int x2), some (.int x3), some (.int x4), some (.int x5), some (.int x6), some (.int x7), none]) (st1 := [.int x7]) (h1 := mk g) rfl ?_
            obtain ⟨v18, hvv18, e⟩ := zb_bind e
            refine Wp.ca (m := 164) (d1 := d + 4) (as := [.int x7]) (rest := []) (st1 := [.int v18]) (pc1 := 93) rfl rfl rfl rfl rfl rfl rfl rfl rfl rfl rfl rfl (w_164 (sc := sc) (d := d + 4) x7 g hvv18) ?_
            refine Wp.steps 1 (pc1 := 95) (lo1 := [some (.ref 113), some (.int x1), some (.int x2), some (.int x3), some (.int x4), some (.int x5), some (.int x6), some (.int x7), none]) (st1 := [.int x5, .int v18]) (h1 := mk g) rfl ?_
            rcases zb_if e with ⟨hc19, e⟩ | ⟨hc19, e⟩
            · skip
              refine Wp.cT (pc1 := 102) rfl hc19 rfl ?_
              exact w_168_102 (sc := sc) (d := d) x1 x2 x3 x4 x5 x6 x7 g (d_168_47 x1 x2 x3 x4 g f) ih _ e Q K
            · skip
              refine Wp.cF (pc1 := 98) rfl hc19 rfl ?_
              refine Wp.steps 8 (pc1 := 119) (lo1 := [some (.ref 113), some (.int x1), some (.int x2), some (.int x3), some (.int x4), some (.int x5), some (.int x7), some (.int x7), some (.int 1)]) (st1 := []) (h1 := mk g) rfl ?_
              refine Wp.steps 3 (pc1 := 126) (lo1 := [some (.ref 113), some (.int x1), some (.int x2), some (.int x3), some (.int x4), some (.int x5), some (.int x7), some (.int x7), some (.int 1)]) (st1 := [.int x7]) (h1 := mk g) rfl ?_
              obtain ⟨v20, hvv20, e⟩ := zb_bind e
              refine Wp.ca (m := 164) (d1 := d + 4) (as := [.int x7]) (rest := []) (st1 := [.int v20]) (pc1 := 129) rfl rfl rfl rfl rfl rfl rfl rfl rfl rfl rfl rfl (w_164 (sc := sc) (d := d + 4) x7 g hvv20) ?_
              refine Wp.steps 4 (pc1 := 47) (lo1 := [some (.ref 113), some (.int x1), some (.int x2), some (.int x3), some (.int x4), some (.int v20), some (.int x7), some (.int (x7 + 1)), some (.int 1)]) (st1 := []) (h1 := mk g) rfl ?_
              refine Wp.fg [some (.ref 113), some (.int x1), some (.int x2), some (.int x3), some (.int x4), some (.int v20), some (.int x7), some (.int (x7 + 1)), none] (zm_lle_s (zm_lle_s (zm_lle_s (zm_lle_s (zm_lle_s (zm_lle_s (zm_lle_s (zm_lle_s (zm_lle_n zm_lle_0))))))))) ?_
              exact ih _ _ _ _ e Q K
      · skip
        refine Wp.iT (pc1 := 102) rfl (zb_eqT hc13) rfl ?_
        exact w_168_102 (sc := sc) (d := d) x1 x2 x3 x4 x5 x6 x7 g (d_168_47 x1 x2 x3 x4 g f) ih _ e Q K
/-- EveningFirstModel.reach(IIII)I -/
def d_168 (x1 : Int32) (x2 : Int32) (x3 : Int32) (x4 : Int32) (g : G) : Option Int32 :=
  zb_l (d_131 x1 g) fun v1 =>
  bif v1 then (
    zb_l (d_134 x2) fun v3 =>
    bif v3 then (
      zb_l (d_133 x3 g) fun v5 =>
      bif v5 then (
        zb_l (d_107 (Int32.toInt64 x4) 0 1) fun v7 =>
        bif v7 then (
          d_168_47 x1 x2 x3 x4 g 300 (-4) (-4) 0) else
        some (-1)) else
      some (-1)) else
    some (-1)) else
  some (-1)
set_option maxRecDepth 100000 in
set_option maxHeartbeats 4000000 in
theorem w_168 {sc : Option (List Int32)} {d : Nat} (x1 : Int32) (x2 : Int32) (x3 : Int32) (x4 : Int32) (g : G) {r : Int32} (e : d_168 x1 x2 x3 x4 g = some r) : zB sc (d + 5) 168 0 (zm_ent (z_L 168) [.ref 113, .int x1, .int x2, .int x3, .int x4]) [] (mk g) [.int r] (mk g) := by
  unfold d_168 at e
  intro Q K
  show Wp sc (d + 5) 168 0 [some (.ref 113), some (.int x1), some (.int x2), some (.int x3), some (.int x4), none, none, none, none] [] (mk g) Q
  refine Wp.steps 2 (pc1 := 2) (lo1 := [some (.ref 113), some (.int x1), some (.int x2), some (.int x3), some (.int x4), none, none, none, none]) (st1 := [.int x1, .ref 113]) (h1 := mk g) rfl ?_
  obtain ⟨v1, hvv1, e⟩ := zb_let e
  refine Wp.ca (m := 131) (d1 := d + 4) (as := [.ref 113, .int x1]) (rest := []) (st1 := [.int (zb_i v1)]) (pc1 := 5) rfl rfl rfl rfl rfl rfl rfl rfl (mk_rok rfl rfl rfl rfl) rfl rfl rfl (w_131 (sc := sc) (d := d + 3) x1 g hvv1) ?_
  rcases zb_if e with ⟨hc2, e⟩ | ⟨hc2, e⟩
  · skip
    refine Wp.iF (pc1 := 8) rfl (zb_eqF hc2) rfl ?_
    refine Wp.steps 1 (pc1 := 9) (lo1 := [some (.ref 113), some (.int x1), some (.int x2), some (.int x3), some (.int x4), none, none, none, none]) (st1 := [.int x2]) (h1 := mk g) rfl ?_
    obtain ⟨v3, hvv3, e⟩ := zb_let e
    refine Wp.ca (m := 134) (d1 := d + 4) (as := [.int x2]) (rest := []) (st1 := [.int (zb_i v3)]) (pc1 := 12) rfl rfl rfl rfl rfl rfl rfl rfl rfl rfl rfl rfl (w_134 (sc := sc) (d := d + 3) x2 g hvv3) ?_
    rcases zb_if e with ⟨hc4, e⟩ | ⟨hc4, e⟩
    · skip
      refine Wp.iF (pc1 := 15) rfl (zb_eqF hc4) rfl ?_
      refine Wp.steps 2 (pc1 := 17) (lo1 := [some (.ref 113), some (.int x1), some (.int x2), some (.int x3), some (.int x4), none, none, none, none]) (st1 := [.int x3, .ref 113]) (h1 := mk g) rfl ?_
      obtain ⟨v5, hvv5, e⟩ := zb_let e
      refine Wp.ca (m := 133) (d1 := d + 4) (as := [.ref 113, .int x3]) (rest := []) (st1 := [.int (zb_i v5)]) (pc1 := 20) rfl rfl rfl rfl rfl rfl rfl rfl (mk_rok rfl rfl rfl rfl) rfl rfl rfl (w_133 (sc := sc) (d := d + 3) x3 g hvv5) ?_
      rcases zb_if e with ⟨hc6, e⟩ | ⟨hc6, e⟩
      · skip
        refine Wp.iF (pc1 := 23) rfl (zb_eqF hc6) rfl ?_
        refine Wp.steps 4 (pc1 := 28) (lo1 := [some (.ref 113), some (.int x1), some (.int x2), some (.int x3), some (.int x4), none, none, none, none]) (st1 := [.long 1, .long 0, .long (Int32.toInt64 x4)]) (h1 := mk g) rfl ?_
        obtain ⟨v7, hvv7, e⟩ := zb_let e
        refine Wp.ca (m := 107) (d1 := d + 4) (as := [.long (Int32.toInt64 x4), .long 0, .long 1]) (rest := []) (st1 := [.int (zb_i v7)]) (pc1 := 31) rfl rfl rfl rfl rfl rfl rfl rfl rfl rfl rfl rfl (w_107 (sc := sc) (d := d + 4) (Int32.toInt64 x4) 0 1 g hvv7) ?_
        rcases zb_if e with ⟨hc8, e⟩ | ⟨hc8, e⟩
        · skip
          refine Wp.iT (pc1 := 36) rfl (zb_neT hc8) rfl ?_
          refine Wp.steps 6 (pc1 := 47) (lo1 := [some (.ref 113), some (.int x1), some (.int x2), some (.int x3), some (.int x4), some (.int (-4)), some (.int (-4)), some (.int 0), none]) (st1 := []) (h1 := mk g) rfl ?_
          exact w_168_47 (sc := sc) (d := d) x1 x2 x3 x4 g 300 (-4) (-4) 0 _ e Q K
        · skip
          refine Wp.iF (pc1 := 34) rfl (zb_neF hc8) rfl ?_
          refine Wp.steps 1 (pc1 := 35) (lo1 := [some (.ref 113), some (.int x1), some (.int x2), some (.int x3), some (.int x4), none, none, none, none]) (st1 := [.int (-1)]) (h1 := mk g) rfl ?_
          have e1 := zb_r1 e
          subst e1
          exact Wp.ret rfl rfl rfl (K _)
      · skip
        refine Wp.iT (pc1 := 34) rfl (zb_eqT hc6) rfl ?_
        refine Wp.steps 1 (pc1 := 35) (lo1 := [some (.ref 113), some (.int x1), some (.int x2), some (.int x3), some (.int x4), none, none, none, none]) (st1 := [.int (-1)]) (h1 := mk g) rfl ?_
        have e1 := zb_r1 e
        subst e1
        exact Wp.ret rfl rfl rfl (K _)
    · skip
      refine Wp.iT (pc1 := 34) rfl (zb_eqT hc4) rfl ?_
      refine Wp.steps 1 (pc1 := 35) (lo1 := [some (.ref 113), some (.int x1), some (.int x2), some (.int x3), some (.int x4), none, none, none, none]) (st1 := [.int (-1)]) (h1 := mk g) rfl ?_
      have e1 := zb_r1 e
      subst e1
      exact Wp.ret rfl rfl rfl (K _)
  · skip
    refine Wp.iT (pc1 := 34) rfl (zb_eqT hc2) rfl ?_
    refine Wp.steps 1 (pc1 := 35) (lo1 := [some (.ref 113), some (.int x1), some (.int x2), some (.int x3), some (.int x4), none, none, none, none]) (st1 := [.int (-1)]) (h1 := mk g) rfl ?_
    have e1 := zb_r1 e
    subst e1
    exact Wp.ret rfl rfl rfl (K _)
/-- EveningFirst.sizeOfGreatest(LEveningFirst$Family;)I -/
def d_100 (r1 : Nat) (g : G) : Option (Int32 × G) :=
  Option.bind (d_2 r1 g) fun g1 =>
  Option.bind (d_8 (g1 25 2) g1) fun v2 =>
  zb_l (d_190 v2) fun v3 =>
  some (v3, g1)
set_option maxRecDepth 100000 in
set_option maxHeartbeats 4000000 in
theorem w_100 {sc : Option (List Int32)} {d : Nat} (r1 : Nat) (h1 : zg_cl r1 = 2) (g : G) {r : Int32} {g' : G} (e : d_100 r1 g = some (r, g')) : zB sc (d + 4) 100 0 (zm_ent (z_L 100) [.ref 0, .ref r1]) [] (mk g) [.int r] (mk g') := by
  unfold d_100 at e
  intro Q K
  show Wp sc (d + 4) 100 0 [some (.ref 0), some (.ref r1)] [] (mk g) Q
  refine Wp.steps 1 (pc1 := 1) (lo1 := [some (.ref 0), some (.ref r1)]) (st1 := [.ref 0]) (h1 := mk g) rfl ?_
  refine Wp.gf (pc1 := 4) (v := .ref 25) rfl rfl rfl rfl rfl ?_
  refine Wp.steps 1 (pc1 := 5) (lo1 := [some (.ref 0), some (.ref r1)]) (st1 := [.ref r1, .ref 25]) (h1 := mk g) rfl ?_
  obtain ⟨g1, hvg1, e⟩ := zb_bind e
  refine Wp.ca (m := 2) (d1 := d + 3) (as := [.ref 25, .ref r1]) (rest := []) (st1 := []) (pc1 := 8) rfl rfl rfl rfl rfl rfl rfl rfl (mk_rok rfl rfl rfl rfl) rfl rfl rfl (w_2 (sc := sc) (d := d) r1 h1 g hvg1) ?_
  refine Wp.steps 1 (pc1 := 9) (lo1 := [some (.ref 0), some (.ref r1)]) (st1 := [.ref 0]) (h1 := mk g1) rfl ?_
  refine Wp.gf (pc1 := 12) (v := .ref 25) rfl rfl rfl rfl rfl ?_
  refine Wp.steps 1 (pc1 := 13) (lo1 := [some (.ref 0), some (.ref r1)]) (st1 := [.ref 0, .ref 25]) (h1 := mk g1) rfl ?_
  refine Wp.gf (pc1 := 16) (v := .ref 25) rfl rfl rfl rfl rfl ?_
  refine Wp.gf (pc1 := 19) (v := .int (g1 25 2)) rfl rfl rfl rfl rfl ?_
  obtain ⟨v2, hvv2, e⟩ := zb_bind e
  refine Wp.ca (m := 8) (d1 := d + 3) (as := [.ref 25, .int (g1 25 2)]) (rest := []) (st1 := [.int v2]) (pc1 := 22) rfl rfl rfl rfl rfl rfl rfl rfl (mk_rok rfl rfl rfl rfl) rfl rfl rfl (w_8 (sc := sc) (d := d + 1) (g1 25 2) g1 hvv2) ?_
  obtain ⟨v3, hvv3, e⟩ := zb_let e
  refine Wp.ca (m := 190) (d1 := d + 3) (as := [.int v2]) (rest := []) (st1 := [.int v3]) (pc1 := 25) rfl rfl rfl rfl rfl rfl rfl rfl rfl rfl rfl rfl (w_190 (sc := sc) (d := d + 3) v2 g1 hvv3) ?_
  obtain ⟨e1, e2⟩ := zb_r2 e
  subst e1
  subst e2
  exact Wp.ret rfl rfl rfl (K _)
def d_75_47 (x1 : Int32) (x2 : Int32) : Nat → Int32 → Int32 → Int32 → G → Option (Int32 × G)
  | 0, _, _, _, _ => none
  | f + 1, x3, x4, x5, g =>
    bif zm_cmp .ge x5 (g 1 0) then (
      bif zm_cmp .ne x4 (-4) then (
        bif zm_cmp .ne x2 0 then (
          some (x3, g)) else
        some (x4, g)) else
      some ((-4), g)) else
    Option.bind (zm_ix x1 8) fun k11 =>
    zb_l (zg_up g (38 + k11) 0 x5) fun g12 =>
    zb_bp (d_100 30 g12) fun v13 g14 =>
    bif zm_cmp .le v13 x3 then (
      d_75_47 x1 x2 f x3 x4 (x5 + 1) g14) else
    d_75_47 x1 x2 f v13 x5 (x5 + 1) g14
set_option maxRecDepth 100000 in
set_option maxHeartbeats 4000000 in
theorem w_75_47 {sc : Option (List Int32)} {d : Nat} (x1 : Int32) (x2 : Int32) : ∀ (f : Nat) (x3 : Int32) (x4 : Int32) (x5 : Int32) (g : G) (r : Int32) (g' : G), d_75_47 x1 x2 f x3 x4 x5 g = some (r, g') → zB sc (d + 5) 75 47 [some (.ref 0), some (.int x1), some (.int x2), some (.int x3), some (.int x4), some (.int x5), none] [] (mk g) [.int r] (mk g') := by
  intro f
  induction f with
  | zero =>
    intro x3 x4 x5 g r g' e
    rw [d_75_47.eq_1] at e
    cases e
  | succ f ih =>
    intro x3 x4 x5 g r g' e
    rw [d_75_47.eq_2] at e
    intro Q K
    refine Wp.steps 2 (pc1 := 50) (lo1 := [some (.ref 0), some (.int x1), some (.int x2), some (.int x3), some (.int x4), some (.int x5), none]) (st1 := [.ref 0, .int x5]) (h1 := mk g) rfl ?_
    refine Wp.gf (pc1 := 53) (v := .ref 1) rfl rfl rfl rfl rfl ?_
    refine Wp.gf (pc1 := 56) (v := .int (g 1 0)) rfl rfl rfl rfl rfl ?_
    rcases zb_if e with ⟨hc8, e⟩ | ⟨hc8, e⟩
    · skip
      refine Wp.cT (pc1 := 102) rfl hc8 rfl ?_
      refine Wp.steps 2 (pc1 := 106) (lo1 := [some (.ref 0), some (.int x1), some (.int x2), some (.int x3), some (.int x4), some (.int x5), none]) (st1 := [.int (-4), .int x4]) (h1 := mk g) rfl ?_
      rcases zb_if e with ⟨hc9, e⟩ | ⟨hc9, e⟩
      · skip
        refine Wp.cT (pc1 := 112) rfl hc9 rfl ?_
        refine Wp.steps 1 (pc1 := 113) (lo1 := [some (.ref 0), some (.int x1), some (.int x2), some (.int x3), some (.int x4), some (.int x5), none]) (st1 := [.int x2]) (h1 := mk g) rfl ?_
        rcases zb_if e with ⟨hc10, e⟩ | ⟨hc10, e⟩
        · skip
          refine Wp.iT (pc1 := 121) rfl hc10 rfl ?_
          refine Wp.steps 1 (pc1 := 122) (lo1 := [some (.ref 0), some (.int x1), some (.int x2), some (.int x3), some (.int x4), some (.int x5), none]) (st1 := [.int x3]) (h1 := mk g) rfl ?_
          obtain ⟨e1, e2⟩ := zb_r2 e
          subst e1
          subst e2
          exact Wp.ret rfl rfl rfl (K _)
        · skip
          refine Wp.iF (pc1 := 116) rfl hc10 rfl ?_
          refine Wp.steps 2 (pc1 := 122) (lo1 := [some (.ref 0), some (.int x1), some (.int x2), some (.int x3), some (.int x4), some (.int x5), none]) (st1 := [.int x4]) (h1 := mk g) rfl ?_
          obtain ⟨e1, e2⟩ := zb_r2 e
          subst e1
          subst e2
          exact Wp.ret rfl rfl rfl (K _)
      · skip
        refine Wp.cF (pc1 := 109) rfl hc9 rfl ?_
        refine Wp.steps 1 (pc1 := 111) (lo1 := [some (.ref 0), some (.int x1), some (.int x2), some (.int x3), some (.int x4), some (.int x5), none]) (st1 := [.int (-4)]) (h1 := mk g) rfl ?_
        obtain ⟨e1, e2⟩ := zb_r2 e
        subst e1
        subst e2
        exact Wp.ret rfl rfl rfl (K _)
    · skip
      refine Wp.cF (pc1 := 59) rfl hc8 rfl ?_
      refine Wp.steps 1 (pc1 := 60) (lo1 := [some (.ref 0), some (.int x1), some (.int x2), some (.int x3), some (.int x4), some (.int x5), none]) (st1 := [.ref 0]) (h1 := mk g) rfl ?_
      refine Wp.gf (pc1 := 63) (v := .ref 30) rfl rfl rfl rfl rfl ?_
      refine Wp.gf (pc1 := 66) (v := .ref 32) rfl rfl rfl rfl rfl ?_
      refine Wp.steps 1 (pc1 := 67) (lo1 := [some (.ref 0), some (.int x1), some (.int x2), some (.int x3), some (.int x4), some (.int x5), none]) (st1 := [.int x1, .ref 32]) (h1 := mk g) rfl ?_
      obtain ⟨k11, hk11, e⟩ := zb_bind e
      refine Wp.aa (pc1 := 68) (v := (38 + k11)) rfl (zg_rdeeds (b := 30) rfl) rfl hk11 (by omega) rfl ?_
      refine Wp.steps 1 (pc1 := 70) (lo1 := [some (.ref 0), some (.int x1), some (.int x2), some (.int x3), some (.int x4), some (.int x5), none]) (st1 := [.int x5, .ref (38 + k11)]) (h1 := mk g) rfl ?_
      obtain ⟨g12, hg12, e⟩ := zb_let e
      refine Wp.pf (pc1 := 73) rfl (zg_deed (b := 30) rfl hk11) rfl rfl rfl rfl hg12 rfl ?_
      refine Wp.steps 2 (pc1 := 75) (lo1 := [some (.ref 0), some (.int x1), some (.int x2), some (.int x3), some (.int x4), some (.int x5), none]) (st1 := [.ref 0, .ref 0]) (h1 := mk g12) rfl ?_
      refine Wp.gf (pc1 := 78) (v := .ref 30) rfl rfl rfl rfl rfl ?_
      obtain ⟨v13, g14, hvv13, e⟩ := zb_bpair e
      refine Wp.ca (m := 100) (d1 := d + 4) (as := [.ref 0, .ref 30]) (rest := []) (st1 := [.int v13]) (pc1 := 81) rfl rfl rfl rfl rfl rfl rfl rfl (mk_rok rfl rfl rfl rfl) rfl rfl rfl (w_100 (sc := sc) (d := d) 30 rfl g12 hvv13) ?_
      refine Wp.steps 3 (pc1 := 86) (lo1 := [some (.ref 0), some (.int x1), some (.int x2), some (.int x3), some (.int x4), some (.int x5), some (.int v13)]) (st1 := [.int x3, .int v13]) (h1 := mk g14) rfl ?_
      rcases zb_if e with ⟨hc15, e⟩ | ⟨hc15, e⟩
      · skip
        refine Wp.cT (pc1 := 96) rfl hc15 rfl ?_
        refine Wp.steps 2 (pc1 := 47) (lo1 := [some (.ref 0), some (.int x1), some (.int x2), some (.int x3), some (.int x4), some (.int (x5 + 1)), some (.int v13)]) (st1 := []) (h1 := mk g14) rfl ?_
        refine Wp.fg [some (.ref 0), some (.int x1), some (.int x2), some (.int x3), some (.int x4), some (.int (x5 + 1)), none] (zm_lle_s (zm_lle_s (zm_lle_s (zm_lle_s (zm_lle_s (zm_lle_s (zm_lle_n zm_lle_0))))))) ?_
        exact ih _ _ _ _ _ _ e Q K
      · skip
        refine Wp.cF (pc1 := 89) rfl hc15 rfl ?_
        refine Wp.steps 6 (pc1 := 47) (lo1 := [some (.ref 0), some (.int x1), some (.int x2), some (.int v13), some (.int x5), some (.int (x5 + 1)), some (.int v13)]) (st1 := []) (h1 := mk g14) rfl ?_
        refine Wp.fg [some (.ref 0), some (.int x1), some (.int x2), some (.int v13), some (.int x5), some (.int (x5 + 1)), none] (zm_lle_s (zm_lle_s (zm_lle_s (zm_lle_s (zm_lle_s (zm_lle_s (zm_lle_n zm_lle_0))))))) ?_
        exact ih _ _ _ _ _ _ e Q K
/-- EveningFirst.better(II)I -/
def d_75 (x1 : Int32) (x2 : Int32) (g : G) : Option (Int32 × G) :=
  zb_l (d_20 1 x1 g) fun v1 =>
  bif v1 then (
    zb_l (d_95 x2) fun v3 =>
    bif v3 then (
      some ((-1), g)) else
    zb_bp (d_100 1 g) fun v5 g6 =>
    Option.bind (d_17 30 1 g6) fun g7 =>
    d_75_47 x1 x2 300 v5 (-4) 0 g7) else
  some ((-1), g)
set_option maxRecDepth 100000 in
set_option maxHeartbeats 4000000 in
theorem w_75 {sc : Option (List Int32)} {d : Nat} (x1 : Int32) (x2 : Int32) (g : G) {r : Int32} {g' : G} (e : d_75 x1 x2 g = some (r, g')) : zB sc (d + 5) 75 0 (zm_ent (z_L 75) [.ref 0, .int x1, .int x2]) [] (mk g) [.int r] (mk g') := by
  unfold d_75 at e
  intro Q K
  show Wp sc (d + 5) 75 0 [some (.ref 0), some (.int x1), some (.int x2), none, none, none, none] [] (mk g) Q
  refine Wp.steps 1 (pc1 := 1) (lo1 := [some (.ref 0), some (.int x1), some (.int x2), none, none, none, none]) (st1 := [.ref 0]) (h1 := mk g) rfl ?_
  refine Wp.gf (pc1 := 4) (v := .ref 1) rfl rfl rfl rfl rfl ?_
  refine Wp.steps 1 (pc1 := 5) (lo1 := [some (.ref 0), some (.int x1), some (.int x2), none, none, none, none]) (st1 := [.int x1, .ref 1]) (h1 := mk g) rfl ?_
  obtain ⟨v1, hvv1, e⟩ := zb_let e
  refine Wp.ca (m := 20) (d1 := d + 4) (as := [.ref 1, .int x1]) (rest := []) (st1 := [.int (zb_i v1)]) (pc1 := 8) rfl rfl rfl rfl rfl rfl rfl rfl (mk_rok rfl rfl rfl rfl) rfl rfl rfl (w_20 (sc := sc) (d := d + 4) 1 x1 rfl g hvv1) ?_
  rcases zb_if e with ⟨hc2, e⟩ | ⟨hc2, e⟩
  · skip
    refine Wp.iF (pc1 := 11) rfl (zb_eqF hc2) rfl ?_
    refine Wp.steps 1 (pc1 := 12) (lo1 := [some (.ref 0), some (.int x1), some (.int x2), none, none, none, none]) (st1 := [.int x2]) (h1 := mk g) rfl ?_
    obtain ⟨v3, hvv3, e⟩ := zb_let e
    refine Wp.ca (m := 95) (d1 := d + 4) (as := [.int x2]) (rest := []) (st1 := [.int (zb_i v3)]) (pc1 := 15) rfl rfl rfl rfl rfl rfl rfl rfl rfl rfl rfl rfl (w_95 (sc := sc) (d := d + 4) x2 g hvv3) ?_
    rcases zb_if e with ⟨hc4, e⟩ | ⟨hc4, e⟩
    · skip
      refine Wp.iF (pc1 := 18) rfl (zb_eqF hc4) rfl ?_
      refine Wp.steps 1 (pc1 := 19) (lo1 := [some (.ref 0), some (.int x1), some (.int x2), none, none, none, none]) (st1 := [.int (-1)]) (h1 := mk g) rfl ?_
      obtain ⟨e1, e2⟩ := zb_r2 e
      subst e1
      subst e2
      exact Wp.ret rfl rfl rfl (K _)
    · skip
      refine Wp.iT (pc1 := 20) rfl (zb_eqT hc4) rfl ?_
      refine Wp.steps 2 (pc1 := 22) (lo1 := [some (.ref 0), some (.int x1), some (.int x2), none, none, none, none]) (st1 := [.ref 0, .ref 0]) (h1 := mk g) rfl ?_
      refine Wp.gf (pc1 := 25) (v := .ref 1) rfl rfl rfl rfl rfl ?_
      obtain ⟨v5, g6, hvv5, e⟩ := zb_bpair e
      refine Wp.ca (m := 100) (d1 := d + 4) (as := [.ref 0, .ref 1]) (rest := []) (st1 := [.int v5]) (pc1 := 28) rfl rfl rfl rfl rfl rfl rfl rfl (mk_rok rfl rfl rfl rfl) rfl rfl rfl (w_100 (sc := sc) (d := d) 1 rfl g hvv5) ?_
      refine Wp.steps 4 (pc1 := 34) (lo1 := [some (.ref 0), some (.int x1), some (.int x2), some (.int v5), some (.int (-4)), none, none]) (st1 := [.ref 0]) (h1 := mk g6) rfl ?_
      refine Wp.gf (pc1 := 37) (v := .ref 30) rfl rfl rfl rfl rfl ?_
      refine Wp.steps 1 (pc1 := 38) (lo1 := [some (.ref 0), some (.int x1), some (.int x2), some (.int v5), some (.int (-4)), none, none]) (st1 := [.ref 0, .ref 30]) (h1 := mk g6) rfl ?_
      refine Wp.gf (pc1 := 41) (v := .ref 1) rfl rfl rfl rfl rfl ?_
      obtain ⟨g7, hvg7, e⟩ := zb_bind e
      refine Wp.ca (m := 17) (d1 := d + 4) (as := [.ref 30, .ref 1]) (rest := []) (st1 := []) (pc1 := 44) rfl rfl rfl rfl rfl rfl rfl rfl (mk_rok rfl rfl rfl rfl) rfl rfl rfl (w_17 (sc := sc) (d := d + 3) 30 1 rfl rfl g6 hvg7) ?_
      refine Wp.steps 2 (pc1 := 47) (lo1 := [some (.ref 0), some (.int x1), some (.int x2), some (.int v5), some (.int (-4)), some (.int 0), none]) (st1 := []) (h1 := mk g7) rfl ?_
      exact w_75_47 (sc := sc) (d := d) x1 x2 300 v5 (-4) 0 g7 _ _ e Q K
  · skip
    refine Wp.iT (pc1 := 18) rfl (zb_eqT hc2) rfl ?_
    refine Wp.steps 1 (pc1 := 19) (lo1 := [some (.ref 0), some (.int x1), some (.int x2), none, none, none, none]) (st1 := [.int (-1)]) (h1 := mk g) rfl ?_
    obtain ⟨e1, e2⟩ := zb_r2 e
    subst e1
    subst e2
    exact Wp.ret rfl rfl rfl (K _)
def d_169_55 (x2 : Int32) (x5 : Int32) (x6 : Int32) : Nat → Int32 → Int32 → Int32 → G → Option (Int32 × G)
  | 0, _, _, _, _ => none
  | f + 1, x3, x4, x7, g =>
    bif zm_cmp .ge x7 (g 113 2) then (
      Option.bind (zm_ix x5 294) fun k10 =>
      zb_l (zg_up g 114 k10 x6) fun g9 =>
      bif zm_cmp .ne x4 (-4) then (
        bif zm_cmp .ne x2 0 then (
          some (x3, g9)) else
        some (x4, g9)) else
      some ((-4), g9)) else
    Option.bind (zm_ix x5 294) fun k14 =>
    zb_l (zg_up g 114 k14 x7) fun g13 =>
    Option.bind (d_161 g13) fun v15 =>
    Option.bind (d_164 v15 g13) fun v16 =>
    bif zm_cmp .le v16 x3 then (
      bif zm_cmp .le v16 x3 then (
        d_169_55 x2 x5 x6 f x3 x4 (x7 + 1) g13) else
      d_169_55 x2 x5 x6 f v16 x4 (x7 + 1) g13) else
    bif zm_cmp .le v16 x3 then (
      d_169_55 x2 x5 x6 f x3 x7 (x7 + 1) g13) else
    d_169_55 x2 x5 x6 f v16 x7 (x7 + 1) g13
set_option maxRecDepth 100000 in
set_option maxHeartbeats 4000000 in
theorem w_169_55 {sc : Option (List Int32)} {d : Nat} (x2 : Int32) (x5 : Int32) (x6 : Int32) : ∀ (f : Nat) (x3 : Int32) (x4 : Int32) (x7 : Int32) (g : G) (r : Int32) (g' : G), d_169_55 x2 x5 x6 f x3 x4 x7 g = some (r, g') → zB sc (d + 4) 169 55 [some (.ref 113), none, some (.int x2), some (.int x3), some (.int x4), some (.int x5), some (.int x6), some (.int x7), none] [] (mk g) [.int r] (mk g') := by
  intro f
  induction f with
  | zero =>
    intro x3 x4 x7 g r g' e
    rw [d_169_55.eq_1] at e
    cases e
  | succ f ih =>
    intro x3 x4 x7 g r g' e
    rw [d_169_55.eq_2] at e
    intro Q K
    refine Wp.steps 2 (pc1 := 58) (lo1 := [some (.ref 113), none, some (.int x2), some (.int x3), some (.int x4), some (.int x5), some (.int x6), some (.int x7), none]) (st1 := [.ref 113, .int x7]) (h1 := mk g) rfl ?_
    refine Wp.gf (pc1 := 61) (v := .int (g 113 2)) rfl rfl rfl rfl rfl ?_
    rcases zb_if e with ⟨hc8, e⟩ | ⟨hc8, e⟩
    · skip
      refine Wp.cT (pc1 := 116) rfl hc8 rfl ?_
      refine Wp.steps 1 (pc1 := 117) (lo1 := [some (.ref 113), none, some (.int x2), some (.int x3), some (.int x4), some (.int x5), some (.int x6), some (.int x7), none]) (st1 := [.ref 113]) (h1 := mk g) rfl ?_
      refine Wp.gf (pc1 := 120) (v := .ref 114) rfl rfl rfl rfl rfl ?_
      refine Wp.steps 2 (pc1 := 124) (lo1 := [some (.ref 113), none, some (.int x2), some (.int x3), some (.int x4), some (.int x5), some (.int x6), some (.int x7), none]) (st1 := [.int x6, .int x5, .ref 114]) (h1 := mk g) rfl ?_
      obtain ⟨k10, hk10, e⟩ := zb_bind e
      obtain ⟨g9, hg9, e⟩ := zb_let e
      refine Wp.ias (pc1 := 125) rfl rfl rfl hk10 hg9 rfl ?_
      refine Wp.steps 2 (pc1 := 129) (lo1 := [some (.ref 113), none, some (.int x2), some (.int x3), some (.int x4), some (.int x5), some (.int x6), some (.int x7), none]) (st1 := [.int (-4), .int x4]) (h1 := mk g9) rfl ?_
      rcases zb_if e with ⟨hc11, e⟩ | ⟨hc11, e⟩
      · skip
        refine Wp.cT (pc1 := 137) rfl hc11 rfl ?_
        refine Wp.steps 1 (pc1 := 138) (lo1 := [some (.ref 113), none, some (.int x2), some (.int x3), some (.int x4), some (.int x5), some (.int x6), some (.int x7), none]) (st1 := [.int x2]) (h1 := mk g9) rfl ?_
        rcases zb_if e with ⟨hc12, e⟩ | ⟨hc12, e⟩
        · skip
          refine Wp.iT (pc1 := 146) rfl hc12 rfl ?_
          refine Wp.steps 1 (pc1 := 147) (lo1 := [some (.ref 113), none, some (.int x2), some (.int x3), some (.int x4), some (.int x5), some (.int x6), some (.int x7), none]) (st1 := [.int x3]) (h1 := mk g9) rfl ?_
          obtain ⟨e1, e2⟩ := zb_r2 e
          subst e1
          subst e2
          exact Wp.ret rfl rfl rfl (K _)
        · skip
          refine Wp.iF (pc1 := 141) rfl hc12 rfl ?_
          refine Wp.steps 2 (pc1 := 147) (lo1 := [some (.ref 113), none, some (.int x2), some (.int x3), some (.int x4), some (.int x5), some (.int x6), some (.int x7), none]) (st1 := [.int x4]) (h1 := mk g9) rfl ?_
          obtain ⟨e1, e2⟩ := zb_r2 e
          subst e1
          subst e2
          exact Wp.ret rfl rfl rfl (K _)
      · skip
        refine Wp.cF (pc1 := 132) rfl hc11 rfl ?_
        refine Wp.steps 2 (pc1 := 147) (lo1 := [some (.ref 113), none, some (.int x2), some (.int x3), some (.int x4), some (.int x5), some (.int x6), some (.int x7), none]) (st1 := [.int (-4)]) (h1 := mk g9) rfl ?_
        obtain ⟨e1, e2⟩ := zb_r2 e
        subst e1
        subst e2
        exact Wp.ret rfl rfl rfl (K _)
    · skip
      refine Wp.cF (pc1 := 64) rfl hc8 rfl ?_
      refine Wp.steps 1 (pc1 := 65) (lo1 := [some (.ref 113), none, some (.int x2), some (.int x3), some (.int x4), some (.int x5), some (.int x6), some (.int x7), none]) (st1 := [.ref 113]) (h1 := mk g) rfl ?_
      refine Wp.gf (pc1 := 68) (v := .ref 114) rfl rfl rfl rfl rfl ?_
      refine Wp.steps 2 (pc1 := 72) (lo1 := [some (.ref 113), none, some (.int x2), some (.int x3), some (.int x4), some (.int x5), some (.int x6), some (.int x7), none]) (st1 := [.int x7, .int x5, .ref 114]) (h1 := mk g) rfl ?_
      obtain ⟨k14, hk14, e⟩ := zb_bind e
      obtain ⟨g13, hg13, e⟩ := zb_let e
      refine Wp.ias (pc1 := 73) rfl rfl rfl hk14 hg13 rfl ?_
      refine Wp.steps 1 (pc1 := 74) (lo1 := [some (.ref 113), none, some (.int x2), some (.int x3), some (.int x4), some (.int x5), some (.int x6), some (.int x7), none]) (st1 := [.ref 113]) (h1 := mk g13) rfl ?_
      obtain ⟨v15, hvv15, e⟩ := zb_bind e
      refine Wp.ca (m := 161) (d1 := d + 3) (as := [.ref 113]) (rest := []) (st1 := [.int v15]) (pc1 := 77) rfl rfl rfl rfl rfl rfl rfl rfl (mk_rok rfl rfl rfl rfl) rfl rfl rfl (w_161 (sc := sc) (d := d)  g13 hvv15) ?_
      obtain ⟨v16, hvv16, e⟩ := zb_bind e
      refine Wp.ca (m := 164) (d1 := d + 3) (as := [.int v15]) (rest := []) (st1 := [.int v16]) (pc1 := 80) rfl rfl rfl rfl rfl rfl rfl rfl rfl rfl rfl rfl (w_164 (sc := sc) (d := d + 3) v15 g13 hvv16) ?_
      refine Wp.steps 3 (pc1 := 85) (lo1 := [some (.ref 113), none, some (.int x2), some (.int x3), some (.int x4), some (.int x5), some (.int x6), some (.int x7), some (.int v16)]) (st1 := [.int x3, .int v16]) (h1 := mk g13) rfl ?_
      rcases zb_if e with ⟨hc17, e⟩ | ⟨hc17, e⟩
      · skip
        refine Wp.cT (pc1 := 93) rfl hc17 rfl ?_
        refine Wp.steps 4 (pc1 := 100) (lo1 := [some (.ref 113), none, some (.int x2), some (.int x3), some (.int x4), some (.int x5), some (.int x6), some (.int x7), some (.int v16)]) (st1 := [.int x3, .int v16]) (h1 := mk g13) rfl ?_
        rcases zb_if e with ⟨hc18, e⟩ | ⟨hc18, e⟩
        · skip
          refine Wp.cT (pc1 := 108) rfl hc18 rfl ?_
          refine Wp.steps 4 (pc1 := 55) (lo1 := [some (.ref 113), none, some (.int x2), some (.int x3), some (.int x4), some (.int x5), some (.int x6), some (.int (x7 + 1)), some (.int v16)]) (st1 := []) (h1 := mk g13) rfl ?_
          refine Wp.fg [some (.ref 113), none, some (.int x2), some (.int x3), some (.int x4), some (.int x5), some (.int x6), some (.int (x7 + 1)), none] (zm_lle_s (zm_lle_n (zm_lle_s (zm_lle_s (zm_lle_s (zm_lle_s (zm_lle_s (zm_lle_s (zm_lle_n zm_lle_0))))))))) ?_
          exact ih _ _ _ _ _ _ e Q K
        · skip
          refine Wp.cF (pc1 := 103) rfl hc18 rfl ?_
          refine Wp.steps 5 (pc1 := 55) (lo1 := [some (.ref 113), none, some (.int x2), some (.int v16), some (.int x4), some (.int x5), some (.int x6), some (.int (x7 + 1)), some (.int v16)]) (st1 := []) (h1 := mk g13) rfl ?_
          refine Wp.fg [some (.ref 113), none, some (.int x2), some (.int v16), some (.int x4), some (.int x5), some (.int x6), some (.int (x7 + 1)), none] (zm_lle_s (zm_lle_n (zm_lle_s (zm_lle_s (zm_lle_s (zm_lle_s (zm_lle_s (zm_lle_s (zm_lle_n zm_lle_0))))))))) ?_
          exact ih _ _ _ _ _ _ e Q K
      · skip
        refine Wp.cF (pc1 := 88) rfl hc17 rfl ?_
        refine Wp.steps 5 (pc1 := 100) (lo1 := [some (.ref 113), none, some (.int x2), some (.int x3), some (.int x7), some (.int x5), some (.int x6), some (.int x7), some (.int v16)]) (st1 := [.int x3, .int v16]) (h1 := mk g13) rfl ?_
        rcases zb_if e with ⟨hc19, e⟩ | ⟨hc19, e⟩
        · skip
          refine Wp.cT (pc1 := 108) rfl hc19 rfl ?_
          refine Wp.steps 4 (pc1 := 55) (lo1 := [some (.ref 113), none, some (.int x2), some (.int x3), some (.int x7), some (.int x5), some (.int x6), some (.int (x7 + 1)), some (.int v16)]) (st1 := []) (h1 := mk g13) rfl ?_
          refine Wp.fg [some (.ref 113), none, some (.int x2), some (.int x3), some (.int x7), some (.int x5), some (.int x6), some (.int (x7 + 1)), none] (zm_lle_s (zm_lle_n (zm_lle_s (zm_lle_s (zm_lle_s (zm_lle_s (zm_lle_s (zm_lle_s (zm_lle_n zm_lle_0))))))))) ?_
          exact ih _ _ _ _ _ _ e Q K
        · skip
          refine Wp.cF (pc1 := 103) rfl hc19 rfl ?_
          refine Wp.steps 5 (pc1 := 55) (lo1 := [some (.ref 113), none, some (.int x2), some (.int v16), some (.int x7), some (.int x5), some (.int x6), some (.int (x7 + 1)), some (.int v16)]) (st1 := []) (h1 := mk g13) rfl ?_
          refine Wp.fg [some (.ref 113), none, some (.int x2), some (.int v16), some (.int x7), some (.int x5), some (.int x6), some (.int (x7 + 1)), none] (zm_lle_s (zm_lle_n (zm_lle_s (zm_lle_s (zm_lle_s (zm_lle_s (zm_lle_s (zm_lle_s (zm_lle_n zm_lle_0))))))))) ?_
          exact ih _ _ _ _ _ _ e Q K
/-- EveningFirstModel.better(II)I -/
def d_169 (x1 : Int32) (x2 : Int32) (g : G) : Option (Int32 × G) :=
  zb_l (d_132 x1 g) fun v1 =>
  bif v1 then (
    zb_l (d_107 (Int32.toInt64 x2) 0 1) fun v3 =>
    bif v3 then (
      Option.bind (d_161 g) fun v5 =>
      Option.bind (d_164 v5 g) fun v6 =>
      Option.bind (zm_ix ((9 + (7 * x1)) + 0) 294) fun k7 =>
      d_169_55 x2 ((9 + (7 * x1)) + 0) (g 114 k7) 300 v6 (-4) 0 g) else
    some ((-1), g)) else
  some ((-1), g)
set_option maxRecDepth 100000 in
set_option maxHeartbeats 4000000 in
theorem w_169 {sc : Option (List Int32)} {d : Nat} (x1 : Int32) (x2 : Int32) (g : G) {r : Int32} {g' : G} (e : d_169 x1 x2 g = some (r, g')) : zB sc (d + 4) 169 0 (zm_ent (z_L 169) [.ref 113, .int x1, .int x2]) [] (mk g) [.int r] (mk g') := by
  unfold d_169 at e
  intro Q K
  show Wp sc (d + 4) 169 0 [some (.ref 113), some (.int x1), some (.int x2), none, none, none, none, none, none] [] (mk g) Q
  refine Wp.steps 2 (pc1 := 2) (lo1 := [some (.ref 113), some (.int x1), some (.int x2), none, none, none, none, none, none]) (st1 := [.int x1, .ref 113]) (h1 := mk g) rfl ?_
  obtain ⟨v1, hvv1, e⟩ := zb_let e
  refine Wp.ca (m := 132) (d1 := d + 3) (as := [.ref 113, .int x1]) (rest := []) (st1 := [.int (zb_i v1)]) (pc1 := 5) rfl rfl rfl rfl rfl rfl rfl rfl (mk_rok rfl rfl rfl rfl) rfl rfl rfl (w_132 (sc := sc) (d := d + 2) x1 g hvv1) ?_
  rcases zb_if e with ⟨hc2, e⟩ | ⟨hc2, e⟩
  · skip
    refine Wp.iF (pc1 := 8) rfl (zb_eqF hc2) rfl ?_
    refine Wp.steps 4 (pc1 := 12) (lo1 := [some (.ref 113), some (.int x1), some (.int x2), none, none, none, none, none, none]) (st1 := [.long 1, .long 0, .long (Int32.toInt64 x2)]) (h1 := mk g) rfl ?_
    obtain ⟨v3, hvv3, e⟩ := zb_let e
    refine Wp.ca (m := 107) (d1 := d + 3) (as := [.long (Int32.toInt64 x2), .long 0, .long 1]) (rest := []) (st1 := [.int (zb_i v3)]) (pc1 := 15) rfl rfl rfl rfl rfl rfl rfl rfl rfl rfl rfl rfl (w_107 (sc := sc) (d := d + 3) (Int32.toInt64 x2) 0 1 g hvv3) ?_
    rcases zb_if e with ⟨hc4, e⟩ | ⟨hc4, e⟩
    · skip
      refine Wp.iT (pc1 := 20) rfl (zb_neT hc4) rfl ?_
      refine Wp.steps 1 (pc1 := 21) (lo1 := [some (.ref 113), some (.int x1), some (.int x2), none, none, none, none, none, none]) (st1 := [.ref 113]) (h1 := mk g) rfl ?_
      obtain ⟨v5, hvv5, e⟩ := zb_bind e
      refine Wp.ca (m := 161) (d1 := d + 3) (as := [.ref 113]) (rest := []) (st1 := [.int v5]) (pc1 := 24) rfl rfl rfl rfl rfl rfl rfl rfl (mk_rok rfl rfl rfl rfl) rfl rfl rfl (w_161 (sc := sc) (d := d)  g hvv5) ?_
      obtain ⟨v6, hvv6, e⟩ := zb_bind e
      refine Wp.ca (m := 164) (d1 := d + 3) (as := [.int v5]) (rest := []) (st1 := [.int v6]) (pc1 := 27) rfl rfl rfl rfl rfl rfl rfl rfl rfl rfl rfl rfl (w_164 (sc := sc) (d := d + 3) v5 g hvv6) ?_
      refine Wp.steps 8 (pc1 := 39) (lo1 := [some (.ref 113), some (.int x1), some (.int x2), some (.int v6), some (.int (-4)), none, none, none, none]) (st1 := [.int (9 + (7 * x1))]) (h1 := mk g) rfl ?_
      refine Wp.steps 4 (pc1 := 44) (lo1 := [some (.ref 113), some (.int x1), some (.int x2), some (.int v6), some (.int (-4)), some (.int ((9 + (7 * x1)) + 0)), none, none, none]) (st1 := [.ref 113]) (h1 := mk g) rfl ?_
      refine Wp.gf (pc1 := 47) (v := .ref 114) rfl rfl rfl rfl rfl ?_
      refine Wp.steps 1 (pc1 := 49) (lo1 := [some (.ref 113), some (.int x1), some (.int x2), some (.int v6), some (.int (-4)), some (.int ((9 + (7 * x1)) + 0)), none, none, none]) (st1 := [.int ((9 + (7 * x1)) + 0), .ref 114]) (h1 := mk g) rfl ?_
      obtain ⟨k7, hk7, e⟩ := zb_bind e
      refine Wp.ia (pc1 := 50) rfl rfl rfl hk7 rfl ?_
      refine Wp.steps 3 (pc1 := 55) (lo1 := [some (.ref 113), some (.int x1), some (.int x2), some (.int v6), some (.int (-4)), some (.int ((9 + (7 * x1)) + 0)), some (.int (g 114 k7)), some (.int 0), none]) (st1 := []) (h1 := mk g) rfl ?_
      refine Wp.fg [some (.ref 113), none, some (.int x2), some (.int v6), some (.int (-4)), some (.int ((9 + (7 * x1)) + 0)), some (.int (g 114 k7)), some (.int 0), none] (zm_lle_s (zm_lle_n (zm_lle_s (zm_lle_s (zm_lle_s (zm_lle_s (zm_lle_s (zm_lle_s (zm_lle_n zm_lle_0))))))))) ?_
      exact w_169_55 (sc := sc) (d := d) x2 ((9 + (7 * x1)) + 0) (g 114 k7) 300 v6 (-4) 0 g _ _ e Q K
    · skip
      refine Wp.iF (pc1 := 18) rfl (zb_neF hc4) rfl ?_
      refine Wp.steps 1 (pc1 := 19) (lo1 := [some (.ref 113), some (.int x1), some (.int x2), none, none, none, none, none, none]) (st1 := [.int (-1)]) (h1 := mk g) rfl ?_
      obtain ⟨e1, e2⟩ := zb_r2 e
      subst e1
      subst e2
      exact Wp.ret rfl rfl rfl (K _)
  · skip
    refine Wp.iT (pc1 := 18) rfl (zb_eqT hc2) rfl ?_
    refine Wp.steps 1 (pc1 := 19) (lo1 := [some (.ref 113), some (.int x1), some (.int x2), none, none, none, none, none, none]) (st1 := [.int (-1)]) (h1 := mk g) rfl ?_
    obtain ⟨e1, e2⟩ := zb_r2 e
    subst e1
    subst e2
    exact Wp.ret rfl rfl rfl (K _)
