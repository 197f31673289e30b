/-! printed by wip/tools/den.py -/
def d_179_35 (x2 : Int32) (g : G) : Nat → Int32 → Int32 → Int32 → Option Int32
  | 0, _, _, _ => none
  | f + 1, x3, x4, x5 =>
    bif zm_cmp .ge x5 x2 then (
      some x4) else
    bif (g 114 8) == 0 then none else
    Option.bind (d_136 (((((x3 * 1103515245) + 12345) >>> (16 : Int32)) &&& 32767) - ((((x3 * 1103515245) + 12345) >>> (16 : Int32)) &&& 32767) / (g 114 8) * (g 114 8)) 5 g) fun v6 =>
    bif zm_cmp .eq v6 2 then (
      zb_l (d_108 0) fun v8 =>
      d_179_35 x2 g f ((x3 * 1103515245) + 12345) (x4 ||| (v8 <<< ((((((x3 * 1103515245) + 12345) >>> (16 : Int32)) &&& 32767) - ((((x3 * 1103515245) + 12345) >>> (16 : Int32)) &&& 32767) / (g 114 8) * (g 114 8)) &&& 31))) (x5 + 1)) else
    Option.bind (d_151 (((((x3 * 1103515245) + 12345) >>> (16 : Int32)) &&& 32767) - ((((x3 * 1103515245) + 12345) >>> (16 : Int32)) &&& 32767) / (g 114 8) * (g 114 8)) x4 g) fun v9 =>
    bif zm_cmp .ne v9 0 then (
      zb_l (d_108 0) fun v11 =>
      d_179_35 x2 g f ((x3 * 1103515245) + 12345) (x4 ||| (v11 <<< ((((((x3 * 1103515245) + 12345) >>> (16 : Int32)) &&& 32767) - ((((x3 * 1103515245) + 12345) >>> (16 : Int32)) &&& 32767) / (g 114 8) * (g 114 8)) &&& 31))) (x5 + 1)) else
    zb_l (d_108 1) fun v12 =>
    d_179_35 x2 g f ((x3 * 1103515245) + 12345) (x4 ||| (v12 <<< ((((((x3 * 1103515245) + 12345) >>> (16 : Int32)) &&& 32767) - ((((x3 * 1103515245) + 12345) >>> (16 : Int32)) &&& 32767) / (g 114 8) * (g 114 8)) &&& 31))) (x5 + 1)
set_option maxRecDepth 100000 in
set_option maxHeartbeats 4000000 in
theorem w_179_35 {sc : Option (List Int32)} {d : Nat} (x2 : Int32) (g : G) : ∀ (f : Nat) (x3 : Int32) (x4 : Int32) (x5 : Int32) (r : Int32), d_179_35 x2 g f x3 x4 x5 = some r → zB sc (d + 3) 179 35 [some (.ref 113), none, some (.int x2), some (.int x3), some (.int x4), some (.int x5), none] [] (mk g) [.int r] (mk g) := by
  intro f
  induction f with
  | zero =>
    intro x3 x4 x5 r e
    rw [d_179_35.eq_1] at e
    cases e
  | succ f ih =>
    intro x3 x4 x5 r e
    rw [d_179_35.eq_2] at e
    intro Q K
    refine Wp.steps 2 (pc1 := 38) (lo1 := [some (.ref 113), none, some (.int x2), some (.int x3), some (.int x4), some (.int x5), none]) (st1 := [.int x2, .int x5]) (h1 := mk g) rfl ?_
    rcases zb_if e with ⟨hc4, e⟩ | ⟨hc4, e⟩
    · skip
      refine Wp.cT (pc1 := 113) rfl hc4 rfl ?_
      refine Wp.steps 1 (pc1 := 115) (lo1 := [some (.ref 113), none, some (.int x2), some (.int x3), some (.int x4), some (.int x5), none]) (st1 := [.int x4]) (h1 := mk g) rfl ?_
      have e1 := zb_r1 e
      subst e1
      exact Wp.ret rfl rfl rfl (K _)
    · skip
      refine Wp.cF (pc1 := 41) rfl hc4 rfl ?_
      refine Wp.steps 8 (pc1 := 54) (lo1 := [some (.ref 113), none, some (.int x2), some (.int ((x3 * 1103515245) + 12345)), some (.int x4), some (.int x5), none]) (st1 := [.int 16, .int ((x3 * 1103515245) + 12345)]) (h1 := mk g) rfl ?_
      refine Wp.steps 4 (pc1 := 60) (lo1 := [some (.ref 113), none, some (.int x2), some (.int ((x3 * 1103515245) + 12345)), some (.int x4), some (.int x5), none]) (st1 := [.ref 113, .int ((((x3 * 1103515245) + 12345) >>> (16 : Int32)) &&& 32767)]) (h1 := mk g) rfl ?_
      refine Wp.gf (pc1 := 63) (v := .ref 114) rfl rfl rfl rfl rfl ?_
      refine Wp.steps 1 (pc1 := 65) (lo1 := [some (.ref 113), none, some (.int x2), some (.int ((x3 * 1103515245) + 12345)), some (.int x4), some (.int x5), none]) (st1 := [.int 8, .ref 114, .int ((((x3 * 1103515245) + 12345) >>> (16 : Int32)) &&& 32767)]) (h1 := mk g) rfl ?_
      refine Wp.ia (pc1 := 66) (k := 8) rfl rfl rfl rfl rfl ?_
      rcases zb_if e with ⟨hc5, e⟩ | ⟨hc5, e⟩
      · cases e
      · skip
        refine Wp.irem (pc1 := 67) rfl hc5 rfl ?_
        refine Wp.steps 5 (pc1 := 75) (lo1 := [some (.ref 113), none, some (.int x2), some (.int ((x3 * 1103515245) + 12345)), some (.int x4), some (.int x5), some (.int (((((x3 * 1103515245) + 12345) >>> (16 : Int32)) &&& 32767) - ((((x3 * 1103515245) + 12345) >>> (16 : Int32)) &&& 32767) / (g 114 8) * (g 114 8)))]) (st1 := [.int 5, .int (((((x3 * 1103515245) + 12345) >>> (16 : Int32)) &&& 32767) - ((((x3 * 1103515245) + 12345) >>> (16 : Int32)) &&& 32767) / (g 114 8) * (g 114 8)), .ref 113, .int x4]) (h1 := mk g) rfl ?_
        obtain ⟨v6, hvv6, e⟩ := zb_bind e
        refine Wp.ca (m := 136) (d1 := d + 2) (as := [.ref 113, .int (((((x3 * 1103515245) + 12345) >>> (16 : Int32)) &&& 32767) - ((((x3 * 1103515245) + 12345) >>> (16 : Int32)) &&& 32767) / (g 114 8) * (g 114 8)), .int 5]) (rest := [.int x4]) (st1 := [.int v6, .int x4]) (pc1 := 78) rfl rfl rfl rfl rfl rfl rfl rfl (mk_rok rfl rfl rfl rfl) rfl rfl rfl (w_136 (sc := sc) (d := d + 2) (((((x3 * 1103515245) + 12345) >>> (16 : Int32)) &&& 32767) - ((((x3 * 1103515245) + 12345) >>> (16 : Int32)) &&& 32767) / (g 114 8) * (g 114 8)) 5 g hvv6) ?_
        refine Wp.steps 1 (pc1 := 79) (lo1 := [some (.ref 113), none, some (.int x2), some (.int ((x3 * 1103515245) + 12345)), some (.int x4), some (.int x5), some (.int (((((x3 * 1103515245) + 12345) >>> (16 : Int32)) &&& 32767) - ((((x3 * 1103515245) + 12345) >>> (16 : Int32)) &&& 32767) / (g 114 8) * (g 114 8)))]) (st1 := [.int 2, .int v6, .int x4]) (h1 := mk g) rfl ?_
        rcases zb_if e with ⟨hc7, e⟩ | ⟨hc7, e⟩
        · skip
          refine Wp.cT (pc1 := 97) rfl hc7 rfl ?_
          refine Wp.steps 1 (pc1 := 98) (lo1 := [some (.ref 113), none, some (.int x2), some (.int ((x3 * 1103515245) + 12345)), some (.int x4), some (.int x5), some (.int (((((x3 * 1103515245) + 12345) >>> (16 : Int32)) &&& 32767) - ((((x3 * 1103515245) + 12345) >>> (16 : Int32)) &&& 32767) / (g 114 8) * (g 114 8)))]) (st1 := [.int 0, .int x4]) (h1 := mk g) rfl ?_
          obtain ⟨v8, hvv8, e⟩ := zb_let e
          refine Wp.ca (m := 108) (d1 := d + 2) (as := [.int 0]) (rest := [.int x4]) (st1 := [.int v8, .int x4]) (pc1 := 101) rfl rfl rfl rfl rfl rfl rfl rfl rfl rfl rfl rfl (w_108 (sc := sc) (d := d + 2) 0 g hvv8) ?_
          refine Wp.steps 6 (pc1 := 35) (lo1 := [some (.ref 113), none, some (.int x2), some (.int ((x3 * 1103515245) + 12345)), some (.int (x4 ||| (v8 <<< ((((((x3 * 1103515245) + 12345) >>> (16 : Int32)) &&& 32767) - ((((x3 * 1103515245) + 12345) >>> (16 : Int32)) &&& 32767) / (g 114 8) * (g 114 8)) &&& 31)))), some (.int (x5 + 1)), some (.int (((((x3 * 1103515245) + 12345) >>> (16 : Int32)) &&& 32767) - ((((x3 * 1103515245) + 12345) >>> (16 : Int32)) &&& 32767) / (g 114 8) * (g 114 8)))]) (st1 := []) (h1 := mk g) rfl ?_
          refine Wp.fg [some (.ref 113), none, some (.int x2), some (.int ((x3 * 1103515245) + 12345)), some (.int (x4 ||| (v8 <<< ((((((x3 * 1103515245) + 12345) >>> (16 : Int32)) &&& 32767) - ((((x3 * 1103515245) + 12345) >>> (16 : Int32)) &&& 32767) / (g 114 8) * (g 114 8)) &&& 31)))), some (.int (x5 + 1)), none] (zm_lle_s (zm_lle_n (zm_lle_s (zm_lle_s (zm_lle_s (zm_lle_s (zm_lle_n zm_lle_0))))))) ?_
          exact ih _ _ _ _ e Q K
        · skip
          refine Wp.cF (pc1 := 82) rfl hc7 rfl ?_
          refine Wp.steps 3 (pc1 := 87) (lo1 := [some (.ref 113), none, some (.int x2), some (.int ((x3 * 1103515245) + 12345)), some (.int x4), some (.int x5), some (.int (((((x3 * 1103515245) + 12345) >>> (16 : Int32)) &&& 32767) - ((((x3 * 1103515245) + 12345) >>> (16 : Int32)) &&& 32767) / (g 114 8) * (g 114 8)))]) (st1 := [.int x4, .int (((((x3 * 1103515245) + 12345) >>> (16 : Int32)) &&& 32767) - ((((x3 * 1103515245) + 12345) >>> (16 : Int32)) &&& 32767) / (g 114 8) * (g 114 8)), .ref 113, .int x4]) (h1 := mk g) rfl ?_
          obtain ⟨v9, hvv9, e⟩ := zb_bind e
          refine Wp.ca (m := 151) (d1 := d + 2) (as := [.ref 113, .int (((((x3 * 1103515245) + 12345) >>> (16 : Int32)) &&& 32767) - ((((x3 * 1103515245) + 12345) >>> (16 : Int32)) &&& 32767) / (g 114 8) * (g 114 8)), .int x4]) (rest := [.int x4]) (st1 := [.int v9, .int x4]) (pc1 := 90) rfl rfl rfl rfl rfl rfl rfl rfl (mk_rok rfl rfl rfl rfl) rfl rfl rfl (w_151 (sc := sc) (d := d) (((((x3 * 1103515245) + 12345) >>> (16 : Int32)) &&& 32767) - ((((x3 * 1103515245) + 12345) >>> (16 : Int32)) &&& 32767) / (g 114 8) * (g 114 8)) x4 g hvv9) ?_
          rcases zb_if e with ⟨hc10, e⟩ | ⟨hc10, e⟩
          · skip
            refine Wp.iT (pc1 := 97) rfl hc10 rfl ?_
            refine Wp.steps 1 (pc1 := 98) (lo1 := [some (.ref 113), none, some (.int x2), some (.int ((x3 * 1103515245) + 12345)), some (.int x4), some (.int x5), some (.int (((((x3 * 1103515245) + 12345) >>> (16 : Int32)) &&& 32767) - ((((x3 * 1103515245) + 12345) >>> (16 : Int32)) &&& 32767) / (g 114 8) * (g 114 8)))]) (st1 := [.int 0, .int x4]) (h1 := mk g) rfl ?_
            obtain ⟨v11, hvv11, e⟩ := zb_let e
            refine Wp.ca (m := 108) (d1 := d + 2) (as := [.int 0]) (rest := [.int x4]) (st1 := [.int v11, .int x4]) (pc1 := 101) rfl rfl rfl rfl rfl rfl rfl rfl rfl rfl rfl rfl (w_108 (sc := sc) (d := d + 2) 0 g hvv11) ?_
            refine Wp.steps 6 (pc1 := 35) (lo1 := [some (.ref 113), none, some (.int x2), some (.int ((x3 * 1103515245) + 12345)), some (.int (x4 ||| (v11 <<< ((((((x3 * 1103515245) + 12345) >>> (16 : Int32)) &&& 32767) - ((((x3 * 1103515245) + 12345) >>> (16 : Int32)) &&& 32767) / (g 114 8) * (g 114 8)) &&& 31)))), some (.int (x5 + 1)), some (.int (((((x3 * 1103515245) + 12345) >>> (16 : Int32)) &&& 32767) - ((((x3 * 1103515245) + 12345) >>> (16 : Int32)) &&& 32767) / (g 114 8) * (g 114 8)))]) (st1 := []) (h1 := mk g) rfl ?_
            refine Wp.fg [some (.ref 113), none, some (.int x2), some (.int ((x3 * 1103515245) + 12345)), some (.int (x4 ||| (v11 <<< ((((((x3 * 1103515245) + 12345) >>> (16 : Int32)) &&& 32767) - ((((x3 * 1103515245) + 12345) >>> (16 : Int32)) &&& 32767) / (g 114 8) * (g 114 8)) &&& 31)))), some (.int (x5 + 1)), none] (zm_lle_s (zm_lle_n (zm_lle_s (zm_lle_s (zm_lle_s (zm_lle_s (zm_lle_n zm_lle_0))))))) ?_
            exact ih _ _ _ _ e Q K
          · skip
            refine Wp.iF (pc1 := 93) rfl hc10 rfl ?_
            refine Wp.steps 2 (pc1 := 98) (lo1 := [some (.ref 113), none, some (.int x2), some (.int ((x3 * 1103515245) + 12345)), some (.int x4), some (.int x5), some (.int (((((x3 * 1103515245) + 12345) >>> (16 : Int32)) &&& 32767) - ((((x3 * 1103515245) + 12345) >>> (16 : Int32)) &&& 32767) / (g 114 8) * (g 114 8)))]) (st1 := [.int 1, .int x4]) (h1 := mk g) rfl ?_
            obtain ⟨v12, hvv12, e⟩ := zb_let e
            refine Wp.ca (m := 108) (d1 := d + 2) (as := [.int 1]) (rest := [.int x4]) (st1 := [.int v12, .int x4]) (pc1 := 101) rfl rfl rfl rfl rfl rfl rfl rfl rfl rfl rfl rfl (w_108 (sc := sc) (d := d + 2) 1 g hvv12) ?_
            refine Wp.steps 6 (pc1 := 35) (lo1 := [some (.ref 113), none, some (.int x2), some (.int ((x3 * 1103515245) + 12345)), some (.int (x4 ||| (v12 <<< ((((((x3 * 1103515245) + 12345) >>> (16 : Int32)) &&& 32767) - ((((x3 * 1103515245) + 12345) >>> (16 : Int32)) &&& 32767) / (g 114 8) * (g 114 8)) &&& 31)))), some (.int (x5 + 1)), some (.int (((((x3 * 1103515245) + 12345) >>> (16 : Int32)) &&& 32767) - ((((x3 * 1103515245) + 12345) >>> (16 : Int32)) &&& 32767) / (g 114 8) * (g 114 8)))]) (st1 := []) (h1 := mk g) rfl ?_
            refine Wp.fg [some (.ref 113), none, some (.int x2), some (.int ((x3 * 1103515245) + 12345)), some (.int (x4 ||| (v12 <<< ((((((x3 * 1103515245) + 12345) >>> (16 : Int32)) &&& 32767) - ((((x3 * 1103515245) + 12345) >>> (16 : Int32)) &&& 32767) / (g 114 8) * (g 114 8)) &&& 31)))), some (.int (x5 + 1)), none] (zm_lle_s (zm_lle_n (zm_lle_s (zm_lle_s (zm_lle_s (zm_lle_s (zm_lle_n zm_lle_0))))))) ?_
            exact ih _ _ _ _ e Q K
/-- EveningFirstModel.walk(II)I -/
def d_179 (x1 : Int32) (x2 : Int32) (g : G) : Option Int32 :=
  zb_l (d_107 (Int32.toInt64 x2) 1 60) fun v1 =>
  bif v1 then (
    bif zm_cmp .ne (g 114 8) 0 then (
      d_179_35 x2 g 300 x1 0 0) else
    some (-2)) else
  some (-1)
set_option maxRecDepth 100000 in
set_option maxHeartbeats 4000000 in
theorem w_179 {sc : Option (List Int32)} {d : Nat} (x1 : Int32) (x2 : Int32) (g : G) {r : Int32} (e : d_179 x1 x2 g = some r) : zB sc (d + 3) 179 0 (zm_ent (z_L 179) [.ref 113, .int x1, .int x2]) [] (mk g) [.int r] (mk g) := by
  unfold d_179 at e
  intro Q K
  show Wp sc (d + 3) 179 0 [some (.ref 113), some (.int x1), some (.int x2), none, none, none, none] [] (mk g) Q
  refine Wp.steps 4 (pc1 := 6) (lo1 := [some (.ref 113), some (.int x1), some (.int x2), none, none, none, none]) (st1 := [.long 60, .long 1, .long (Int32.toInt64 x2)]) (h1 := mk g) rfl ?_
  obtain ⟨v1, hvv1, e⟩ := zb_let e
  refine Wp.ca (m := 107) (d1 := d + 2) (as := [.long (Int32.toInt64 x2), .long 1, .long 60]) (rest := []) (st1 := [.int (zb_i v1)]) (pc1 := 9) rfl rfl rfl rfl rfl rfl rfl rfl rfl rfl rfl rfl (w_107 (sc := sc) (d := d + 2) (Int32.toInt64 x2) 1 60 g hvv1) ?_
  rcases zb_if e with ⟨hc2, e⟩ | ⟨hc2, e⟩
  · skip
    refine Wp.iT (pc1 := 14) rfl (zb_neT hc2) rfl ?_
    refine Wp.steps 1 (pc1 := 15) (lo1 := [some (.ref 113), some (.int x1), some (.int x2), none, none, none, none]) (st1 := [.ref 113]) (h1 := mk g) rfl ?_
    refine Wp.gf (pc1 := 18) (v := .ref 114) rfl rfl rfl rfl rfl ?_
    refine Wp.steps 1 (pc1 := 20) (lo1 := [some (.ref 113), some (.int x1), some (.int x2), none, none, none, none]) (st1 := [.int 8, .ref 114]) (h1 := mk g) rfl ?_
    refine Wp.ia (pc1 := 21) (k := 8) rfl rfl rfl rfl rfl ?_
    rcases zb_if e with ⟨hc3, e⟩ | ⟨hc3, e⟩
    · skip
      refine Wp.iT (pc1 := 27) rfl hc3 rfl ?_
      refine Wp.steps 6 (pc1 := 35) (lo1 := [some (.ref 113), some (.int x1), some (.int x2), some (.int x1), some (.int 0), some (.int 0), none]) (st1 := []) (h1 := mk g) rfl ?_
      refine Wp.fg [some (.ref 113), none, some (.int x2), some (.int x1), some (.int 0), some (.int 0), none] (zm_lle_s (zm_lle_n (zm_lle_s (zm_lle_s (zm_lle_s (zm_lle_s (zm_lle_n zm_lle_0))))))) ?_
      exact w_179_35 (sc := sc) (d := d) x2 g 300 x1 0 0 _ e Q K
    · skip
      refine Wp.iF (pc1 := 24) rfl hc3 rfl ?_
      refine Wp.steps 1 (pc1 := 26) (lo1 := [some (.ref 113), some (.int x1), some (.int x2), none, none, none, none]) (st1 := [.int (-2)]) (h1 := mk g) rfl ?_
      have e1 := zb_r1 e
      subst e1
      exact Wp.ret rfl rfl rfl (K _)
  · skip
    refine Wp.iF (pc1 := 12) rfl (zb_neF hc2) rfl ?_
    refine Wp.steps 1 (pc1 := 13) (lo1 := [some (.ref 113), some (.int x1), some (.int x2), none, none, none, none]) (st1 := [.int (-1)]) (h1 := mk g) rfl ?_
    have e1 := zb_r1 e
    subst e1
    exact Wp.ret rfl rfl rfl (K _)
/-- EveningFirst.keep(I)I -/
def d_83 (x1 : Int32) (g : G) : Option (Int32 × G) :=
  bif zm_cmp .lt x1 0 then (
    some ((-1), g)) else
  bif zm_cmp .lt x1 2 then (
    Option.bind (zm_ix x1 2) fun k3 =>
    bif zm_cmp .eq (g 55 k3) 0 then (
      Option.bind (zm_ix x1 2) fun k5 =>
      Option.bind (d_17 (56 + 24 * k5) 1 g) fun g6 =>
      Option.bind (zm_ix x1 2) fun k8 =>
      zb_l (zg_up g6 55 k8 (zm_nar 2 1)) fun g7 =>
      some (0, g7)) else
    Option.bind (zm_ix x1 2) fun k9 =>
    Option.bind (d_17 (56 + 24 * k9) 1 g) fun g10 =>
    Option.bind (zm_ix x1 2) fun k12 =>
    zb_l (zg_up g10 55 k12 (zm_nar 2 1)) fun g11 =>
    some (1, g11)) else
  some ((-1), g)
set_option maxRecDepth 100000 in
set_option maxHeartbeats 4000000 in
theorem w_83 {sc : Option (List Int32)} {d : Nat} (x1 : Int32) (g : G) {r : Int32} {g' : G} (e : d_83 x1 g = some (r, g')) : zB sc (d + 2) 83 0 (zm_ent (z_L 83) [.ref 0, .int x1]) [] (mk g) [.int r] (mk g') := by
  unfold d_83 at e
  intro Q K
  show Wp sc (d + 2) 83 0 [some (.ref 0), some (.int x1), none] [] (mk g) Q
  refine Wp.steps 1 (pc1 := 1) (lo1 := [some (.ref 0), some (.int x1), none]) (st1 := [.int x1]) (h1 := mk g) rfl ?_
  rcases zb_if e with ⟨hc1, e⟩ | ⟨hc1, e⟩
  · skip
    refine Wp.iT (pc1 := 9) rfl hc1 rfl ?_
    refine Wp.steps 1 (pc1 := 10) (lo1 := [some (.ref 0), some (.int x1), none]) (st1 := [.int (-1)]) (h1 := mk g) rfl ?_
    obtain ⟨e1, e2⟩ := zb_r2 e
    subst e1
    subst e2
    exact Wp.ret rfl rfl rfl (K _)
  · skip
    refine Wp.iF (pc1 := 4) rfl hc1 rfl ?_
    refine Wp.steps 2 (pc1 := 6) (lo1 := [some (.ref 0), some (.int x1), none]) (st1 := [.int 2, .int x1]) (h1 := mk g) rfl ?_
    rcases zb_if e with ⟨hc2, e⟩ | ⟨hc2, e⟩
    · skip
      refine Wp.cT (pc1 := 11) rfl hc2 rfl ?_
      refine Wp.steps 1 (pc1 := 12) (lo1 := [some (.ref 0), some (.int x1), none]) (st1 := [.ref 0]) (h1 := mk g) rfl ?_
      refine Wp.gf (pc1 := 15) (v := .ref 55) rfl rfl rfl rfl rfl ?_
      refine Wp.steps 1 (pc1 := 16) (lo1 := [some (.ref 0), some (.int x1), none]) (st1 := [.int x1, .ref 55]) (h1 := mk g) rfl ?_
      obtain ⟨k3, hk3, e⟩ := zb_bind e
      refine Wp.ba (pc1 := 17) rfl rfl rfl hk3 rfl ?_
      rcases zb_if e with ⟨hc4, e⟩ | ⟨hc4, e⟩
      · skip
        refine Wp.iT (pc1 := 24) rfl hc4 rfl ?_
        refine Wp.steps 3 (pc1 := 27) (lo1 := [some (.ref 0), some (.int x1), some (.int 0)]) (st1 := [.ref 0]) (h1 := mk g) rfl ?_
        refine Wp.gf (pc1 := 30) (v := .ref 54) rfl rfl rfl rfl rfl ?_
        refine Wp.steps 1 (pc1 := 31) (lo1 := [some (.ref 0), some (.int x1), some (.int 0)]) (st1 := [.int x1, .ref 54]) (h1 := mk g) rfl ?_
        obtain ⟨k5, hk5, e⟩ := zb_bind e
        refine Wp.aa (pc1 := 32) (v := (56 + 24 * k5)) rfl rfl rfl hk5 (by omega) rfl ?_
        refine Wp.steps 1 (pc1 := 33) (lo1 := [some (.ref 0), some (.int x1), some (.int 0)]) (st1 := [.ref 0, .ref (56 + 24 * k5)]) (h1 := mk g) rfl ?_
        refine Wp.gf (pc1 := 36) (v := .ref 1) rfl rfl rfl rfl rfl ?_
        obtain ⟨g6, hvg6, e⟩ := zb_bind e
        refine Wp.ca (m := 17) (d1 := d + 1) (as := [.ref (56 + 24 * k5), .ref 1]) (rest := []) (st1 := []) (pc1 := 39) rfl rfl rfl rfl rfl rfl rfl rfl (mk_rok (zg_image hk5) rfl rfl rfl) rfl rfl rfl (w_17 (sc := sc) (d := d) (56 + 24 * k5) 1 (zg_image hk5) rfl g hvg6) ?_
        refine Wp.steps 1 (pc1 := 40) (lo1 := [some (.ref 0), some (.int x1), some (.int 0)]) (st1 := [.ref 0]) (h1 := mk g6) rfl ?_
        refine Wp.gf (pc1 := 43) (v := .ref 55) rfl rfl rfl rfl rfl ?_
        refine Wp.steps 2 (pc1 := 45) (lo1 := [some (.ref 0), some (.int x1), some (.int 0)]) (st1 := [.int 1, .int x1, .ref 55]) (h1 := mk g6) rfl ?_
        obtain ⟨k8, hk8, e⟩ := zb_bind e
        obtain ⟨g7, hg7, e⟩ := zb_let e
        refine Wp.bas (pc1 := 46) rfl rfl rfl hk8 hg7 rfl ?_
        refine Wp.steps 1 (pc1 := 47) (lo1 := [some (.ref 0), some (.int x1), some (.int 0)]) (st1 := [.int 0]) (h1 := mk g7) rfl ?_
        obtain ⟨e1, e2⟩ := zb_r2 e
        subst e1
        subst e2
        exact Wp.ret rfl rfl rfl (K _)
      · skip
        refine Wp.iF (pc1 := 20) rfl hc4 rfl ?_
        refine Wp.steps 4 (pc1 := 27) (lo1 := [some (.ref 0), some (.int x1), some (.int 1)]) (st1 := [.ref 0]) (h1 := mk g) rfl ?_
        refine Wp.gf (pc1 := 30) (v := .ref 54) rfl rfl rfl rfl rfl ?_
        refine Wp.steps 1 (pc1 := 31) (lo1 := [some (.ref 0), some (.int x1), some (.int 1)]) (st1 := [.int x1, .ref 54]) (h1 := mk g) rfl ?_
        obtain ⟨k9, hk9, e⟩ := zb_bind e
        refine Wp.aa (pc1 := 32) (v := (56 + 24 * k9)) rfl rfl rfl hk9 (by omega) rfl ?_
        refine Wp.steps 1 (pc1 := 33) (lo1 := [some (.ref 0), some (.int x1), some (.int 1)]) (st1 := [.ref 0, .ref (56 + 24 * k9)]) (h1 := mk g) rfl ?_
        refine Wp.gf (pc1 := 36) (v := .ref 1) rfl rfl rfl rfl rfl ?_
        obtain ⟨g10, hvg10, e⟩ := zb_bind e
        refine Wp.ca (m := 17) (d1 := d + 1) (as := [.ref (56 + 24 * k9), .ref 1]) (rest := []) (st1 := []) (pc1 := 39) rfl rfl rfl rfl rfl rfl rfl rfl (mk_rok (zg_image hk9) rfl rfl rfl) rfl rfl rfl (w_17 (sc := sc) (d := d) (56 + 24 * k9) 1 (zg_image hk9) rfl g hvg10) ?_
        refine Wp.steps 1 (pc1 := 40) (lo1 := [some (.ref 0), some (.int x1), some (.int 1)]) (st1 := [.ref 0]) (h1 := mk g10) rfl ?_
        refine Wp.gf (pc1 := 43) (v := .ref 55) rfl rfl rfl rfl rfl ?_
        refine Wp.steps 2 (pc1 := 45) (lo1 := [some (.ref 0), some (.int x1), some (.int 1)]) (st1 := [.int 1, .int x1, .ref 55]) (h1 := mk g10) rfl ?_
        obtain ⟨k12, hk12, e⟩ := zb_bind e
        obtain ⟨g11, hg11, e⟩ := zb_let e
        refine Wp.bas (pc1 := 46) rfl rfl rfl hk12 hg11 rfl ?_
        refine Wp.steps 1 (pc1 := 47) (lo1 := [some (.ref 0), some (.int x1), some (.int 1)]) (st1 := [.int 1]) (h1 := mk g11) rfl ?_
        obtain ⟨e1, e2⟩ := zb_r2 e
        subst e1
        subst e2
        exact Wp.ret rfl rfl rfl (K _)
    · skip
      refine Wp.cF (pc1 := 9) rfl hc2 rfl ?_
      refine Wp.steps 1 (pc1 := 10) (lo1 := [some (.ref 0), some (.int x1), none]) (st1 := [.int (-1)]) (h1 := mk g) rfl ?_
      obtain ⟨e1, e2⟩ := zb_r2 e
      subst e1
      subst e2
      exact Wp.ret rfl rfl rfl (K _)
def d_180_2 (x1 : Int32) (x2 : Int32) : Nat → Int32 → G → Option G
  | 0, _, _ => none
  | f + 1, x3, g =>
    bif zm_cmp .ge x3 98 then (
      some g) else
    Option.bind (zm_ix (x2 + x3) 294) fun k2 =>
    Option.bind (zm_ix (x1 + x3) 294) fun k4 =>
    zb_l (zg_up g 114 k4 (g 114 k2)) fun g3 =>
    d_180_2 x1 x2 f (x3 + 1) g3
set_option maxRecDepth 100000 in
set_option maxHeartbeats 4000000 in
theorem w_180_2 {sc : Option (List Int32)} {d : Nat} (x1 : Int32) (x2 : Int32) : ∀ (f : Nat) (x3 : Int32) (g : G) (g' : G), d_180_2 x1 x2 f x3 g = some g' → zB sc (d) 180 2 [some (.ref 113), some (.int x1), some (.int x2), some (.int x3)] [] (mk g) [] (mk g') := by
  intro f
  induction f with
  | zero =>
    intro x3 g g' e
    rw [d_180_2.eq_1] at e
    cases e
  | succ f ih =>
    intro x3 g g' e
    rw [d_180_2.eq_2] at e
    intro Q K
    refine Wp.steps 2 (pc1 := 5) (lo1 := [some (.ref 113), some (.int x1), some (.int x2), some (.int x3)]) (st1 := [.int 98, .int x3]) (h1 := mk g) rfl ?_
    rcases zb_if e with ⟨hc1, e⟩ | ⟨hc1, e⟩
    · skip
      refine Wp.cT (pc1 := 30) rfl hc1 rfl ?_
      have e1 := zb_r1 e
      subst e1
      exact Wp.ret rfl rfl rfl (K _)
    · skip
      refine Wp.cF (pc1 := 8) rfl hc1 rfl ?_
      refine Wp.steps 1 (pc1 := 9) (lo1 := [some (.ref 113), some (.int x1), some (.int x2), some (.int x3)]) (st1 := [.ref 113]) (h1 := mk g) rfl ?_
      refine Wp.gf (pc1 := 12) (v := .ref 114) rfl rfl rfl rfl rfl ?_
      refine Wp.steps 4 (pc1 := 16) (lo1 := [some (.ref 113), some (.int x1), some (.int x2), some (.int x3)]) (st1 := [.ref 113, .int (x1 + x3), .ref 114]) (h1 := mk g) rfl ?_
      refine Wp.gf (pc1 := 19) (v := .ref 114) rfl rfl rfl rfl rfl ?_
      refine Wp.steps 3 (pc1 := 22) (lo1 := [some (.ref 113), some (.int x1), some (.int x2), some (.int x3)]) (st1 := [.int (x2 + x3), .ref 114, .int (x1 + x3), .ref 114]) (h1 := mk g) rfl ?_
      obtain ⟨k2, hk2, e⟩ := zb_bind e
      refine Wp.ia (pc1 := 23) rfl rfl rfl hk2 rfl ?_
      obtain ⟨k4, hk4, e⟩ := zb_bind e
      obtain ⟨g3, hg3, e⟩ := zb_let e
      refine Wp.ias (pc1 := 24) rfl rfl rfl hk4 hg3 rfl ?_
      refine Wp.steps 2 (pc1 := 2) (lo1 := [some (.ref 113), some (.int x1), some (.int x2), some (.int (x3 + 1))]) (st1 := []) (h1 := mk g3) rfl ?_
      exact ih _ _ _ e Q K
/-- EveningFirstModel.copies(II)V -/
def d_180 (x1 : Int32) (x2 : Int32) (g : G) : Option G :=
  d_180_2 x1 x2 300 0 g
set_option maxRecDepth 100000 in
set_option maxHeartbeats 4000000 in
theorem w_180 {sc : Option (List Int32)} {d : Nat} (x1 : Int32) (x2 : Int32) (g : G) {g' : G} (e : d_180 x1 x2 g = some g') : zB sc (d) 180 0 (zm_ent (z_L 180) [.ref 113, .int x1, .int x2]) [] (mk g) [] (mk g') := by
  unfold d_180 at e
  intro Q K
  show Wp sc (d) 180 0 [some (.ref 113), some (.int x1), some (.int x2), none] [] (mk g) Q
  refine Wp.steps 2 (pc1 := 2) (lo1 := [some (.ref 113), some (.int x1), some (.int x2), some (.int 0)]) (st1 := []) (h1 := mk g) rfl ?_
  exact w_180_2 (sc := sc) (d := d) x1 x2 300 0 g _ e Q K
/-- EveningFirstModel.keep(I)I -/
def d_181 (x1 : Int32) (g : G) : Option (Int32 × G) :=
  zb_l (d_107 (Int32.toInt64 x1) 0 1) fun v1 =>
  bif v1 then (
    Option.bind (zm_ix x1 2) fun k3 =>
    zb_l (d_108 (g 115 k3)) fun v4 =>
    Option.bind (zm_ix x1 2) fun k6 =>
    zb_l (zg_up g 115 k6 (zm_nar 2 1)) fun g5 =>
    Option.bind (d_180 (98 * (x1 + 1)) 0 g5) fun g7 =>
    some (v4, g7)) else
  some ((-1), g)
set_option maxRecDepth 100000 in
set_option maxHeartbeats 4000000 in
theorem w_181 {sc : Option (List Int32)} {d : Nat} (x1 : Int32) (g : G) {r : Int32} {g' : G} (e : d_181 x1 g = some (r, g')) : zB sc (d + 1) 181 0 (zm_ent (z_L 181) [.ref 113, .int x1]) [] (mk g) [.int r] (mk g') := by
  unfold d_181 at e
  intro Q K
  show Wp sc (d + 1) 181 0 [some (.ref 113), some (.int x1), none] [] (mk g) Q
  refine Wp.steps 4 (pc1 := 4) (lo1 := [some (.ref 113), some (.int x1), none]) (st1 := [.long 1, .long 0, .long (Int32.toInt64 x1)]) (h1 := mk g) rfl ?_
  obtain ⟨v1, hvv1, e⟩ := zb_let e
  refine Wp.ca (m := 107) (d1 := d) (as := [.long (Int32.toInt64 x1), .long 0, .long 1]) (rest := []) (st1 := [.int (zb_i v1)]) (pc1 := 7) rfl rfl rfl rfl rfl rfl rfl rfl rfl rfl rfl rfl (w_107 (sc := sc) (d := d) (Int32.toInt64 x1) 0 1 g hvv1) ?_
  rcases zb_if e with ⟨hc2, e⟩ | ⟨hc2, e⟩
  · skip
    refine Wp.iT (pc1 := 12) rfl (zb_neT hc2) rfl ?_
    refine Wp.steps 1 (pc1 := 13) (lo1 := [some (.ref 113), some (.int x1), none]) (st1 := [.ref 113]) (h1 := mk g) rfl ?_
    refine Wp.gf (pc1 := 16) (v := .ref 115) rfl rfl rfl rfl rfl ?_
    refine Wp.steps 1 (pc1 := 17) (lo1 := [some (.ref 113), some (.int x1), none]) (st1 := [.int x1, .ref 115]) (h1 := mk g) rfl ?_
    obtain ⟨k3, hk3, e⟩ := zb_bind e
    refine Wp.ba (pc1 := 18) rfl rfl rfl hk3 rfl ?_
    obtain ⟨v4, hvv4, e⟩ := zb_let e
    refine Wp.ca (m := 108) (d1 := d) (as := [.int (g 115 k3)]) (rest := []) (st1 := [.int v4]) (pc1 := 21) rfl rfl rfl rfl rfl rfl rfl rfl rfl rfl rfl rfl (w_108 (sc := sc) (d := d) (g 115 k3) g hvv4) ?_
    refine Wp.steps 2 (pc1 := 23) (lo1 := [some (.ref 113), some (.int x1), some (.int v4)]) (st1 := [.ref 113]) (h1 := mk g) rfl ?_
    refine Wp.gf (pc1 := 26) (v := .ref 115) rfl rfl rfl rfl rfl ?_
    refine Wp.steps 2 (pc1 := 28) (lo1 := [some (.ref 113), some (.int x1), some (.int v4)]) (st1 := [.int 1, .int x1, .ref 115]) (h1 := mk g) rfl ?_
    obtain ⟨k6, hk6, e⟩ := zb_bind e
    obtain ⟨g5, hg5, e⟩ := zb_let e
    refine Wp.bas (pc1 := 29) rfl rfl rfl hk6 hg5 rfl ?_
    refine Wp.steps 7 (pc1 := 37) (lo1 := [some (.ref 113), some (.int x1), some (.int v4)]) (st1 := [.int 0, .int (98 * (x1 + 1)), .ref 113]) (h1 := mk g5) rfl ?_
    obtain ⟨g7, hvg7, e⟩ := zb_bind e
    refine Wp.ca (m := 180) (d1 := d) (as := [.ref 113, .int (98 * (x1 + 1)), .int 0]) (rest := []) (st1 := []) (pc1 := 40) rfl rfl rfl rfl rfl rfl rfl rfl (mk_rok rfl rfl rfl rfl) rfl rfl rfl (w_180 (sc := sc) (d := d) (98 * (x1 + 1)) 0 g5 hvg7) ?_
    refine Wp.steps 1 (pc1 := 41) (lo1 := [some (.ref 113), some (.int x1), some (.int v4)]) (st1 := [.int v4]) (h1 := mk g7) rfl ?_
    obtain ⟨e1, e2⟩ := zb_r2 e
    subst e1
    subst e2
    exact Wp.ret rfl rfl rfl (K _)
  · skip
    refine Wp.iF (pc1 := 10) rfl (zb_neF hc2) rfl ?_
    refine Wp.steps 1 (pc1 := 11) (lo1 := [some (.ref 113), some (.int x1), none]) (st1 := [.int (-1)]) (h1 := mk g) rfl ?_
    obtain ⟨e1, e2⟩ := zb_r2 e
    subst e1
    subst e2
    exact Wp.ret rfl rfl rfl (K _)
/-- EveningFirst.back(I)I -/
def d_84 (x1 : Int32) (g : G) : Option (Int32 × G) :=
  bif zm_cmp .lt x1 0 then (
    some ((-1), g)) else
  bif zm_cmp .lt x1 2 then (
    Option.bind (zm_ix x1 2) fun k3 =>
    bif zm_cmp .ne (g 55 k3) 0 then (
      Option.bind (zm_ix x1 2) fun k5 =>
      Option.bind (d_17 1 (56 + 24 * k5) g) fun g6 =>
      some ((g6 1 2), g6)) else
    some ((-2), g)) else
  some ((-1), g)
set_option maxRecDepth 100000 in
set_option maxHeartbeats 4000000 in
theorem w_84 {sc : Option (List Int32)} {d : Nat} (x1 : Int32) (g : G) {r : Int32} {g' : G} (e : d_84 x1 g = some (r, g')) : zB sc (d + 2) 84 0 (zm_ent (z_L 84) [.ref 0, .int x1]) [] (mk g) [.int r] (mk g') := by
  unfold d_84 at e
  intro Q K
  show Wp sc (d + 2) 84 0 [some (.ref 0), some (.int x1)] [] (mk g) Q
  refine Wp.steps 1 (pc1 := 1) (lo1 := [some (.ref 0), some (.int x1)]) (st1 := [.int x1]) (h1 := mk g) rfl ?_
  rcases zb_if e with ⟨hc1, e⟩ | ⟨hc1, e⟩
  · skip
    refine Wp.iT (pc1 := 9) rfl hc1 rfl ?_
    refine Wp.steps 1 (pc1 := 10) (lo1 := [some (.ref 0), some (.int x1)]) (st1 := [.int (-1)]) (h1 := mk g) rfl ?_
    obtain ⟨e1, e2⟩ := zb_r2 e
    subst e1
    subst e2
    exact Wp.ret rfl rfl rfl (K _)
  · skip
    refine Wp.iF (pc1 := 4) rfl hc1 rfl ?_
    refine Wp.steps 2 (pc1 := 6) (lo1 := [some (.ref 0), some (.int x1)]) (st1 := [.int 2, .int x1]) (h1 := mk g) rfl ?_
    rcases zb_if e with ⟨hc2, e⟩ | ⟨hc2, e⟩
    · skip
      refine Wp.cT (pc1 := 11) rfl hc2 rfl ?_
      refine Wp.steps 1 (pc1 := 12) (lo1 := [some (.ref 0), some (.int x1)]) (st1 := [.ref 0]) (h1 := mk g) rfl ?_
      refine Wp.gf (pc1 := 15) (v := .ref 55) rfl rfl rfl rfl rfl ?_
      refine Wp.steps 1 (pc1 := 16) (lo1 := [some (.ref 0), some (.int x1)]) (st1 := [.int x1, .ref 55]) (h1 := mk g) rfl ?_
      obtain ⟨k3, hk3, e⟩ := zb_bind e
      refine Wp.ba (pc1 := 17) rfl rfl rfl hk3 rfl ?_
      rcases zb_if e with ⟨hc4, e⟩ | ⟨hc4, e⟩
      · skip
        refine Wp.iT (pc1 := 23) rfl hc4 rfl ?_
        refine Wp.steps 1 (pc1 := 24) (lo1 := [some (.ref 0), some (.int x1)]) (st1 := [.ref 0]) (h1 := mk g) rfl ?_
        refine Wp.gf (pc1 := 27) (v := .ref 1) rfl rfl rfl rfl rfl ?_
        refine Wp.steps 1 (pc1 := 28) (lo1 := [some (.ref 0), some (.int x1)]) (st1 := [.ref 0, .ref 1]) (h1 := mk g) rfl ?_
        refine Wp.gf (pc1 := 31) (v := .ref 54) rfl rfl rfl rfl rfl ?_
        refine Wp.steps 1 (pc1 := 32) (lo1 := [some (.ref 0), some (.int x1)]) (st1 := [.int x1, .ref 54, .ref 1]) (h1 := mk g) rfl ?_
        obtain ⟨k5, hk5, e⟩ := zb_bind e
        refine Wp.aa (pc1 := 33) (v := (56 + 24 * k5)) rfl rfl rfl hk5 (by omega) rfl ?_
        obtain ⟨g6, hvg6, e⟩ := zb_bind e
        refine Wp.ca (m := 17) (d1 := d + 1) (as := [.ref 1, .ref (56 + 24 * k5)]) (rest := []) (st1 := []) (pc1 := 36) rfl rfl rfl rfl rfl rfl rfl rfl (mk_rok rfl rfl rfl rfl) rfl rfl rfl (w_17 (sc := sc) (d := d) 1 (56 + 24 * k5) rfl (zg_image hk5) g hvg6) ?_
        refine Wp.steps 1 (pc1 := 37) (lo1 := [some (.ref 0), some (.int x1)]) (st1 := [.ref 0]) (h1 := mk g6) rfl ?_
        refine Wp.gf (pc1 := 40) (v := .ref 1) rfl rfl rfl rfl rfl ?_
        refine Wp.gf (pc1 := 43) (v := .int (g6 1 2)) rfl rfl rfl rfl rfl ?_
        obtain ⟨e1, e2⟩ := zb_r2 e
        subst e1
        subst e2
        exact Wp.ret rfl rfl rfl (K _)
      · skip
        refine Wp.iF (pc1 := 20) rfl hc4 rfl ?_
        refine Wp.steps 1 (pc1 := 22) (lo1 := [some (.ref 0), some (.int x1)]) (st1 := [.int (-2)]) (h1 := mk g) rfl ?_
        obtain ⟨e1, e2⟩ := zb_r2 e
        subst e1
        subst e2
        exact Wp.ret rfl rfl rfl (K _)
    · skip
      refine Wp.cF (pc1 := 9) rfl hc2 rfl ?_
      refine Wp.steps 1 (pc1 := 10) (lo1 := [some (.ref 0), some (.int x1)]) (st1 := [.int (-1)]) (h1 := mk g) rfl ?_
      obtain ⟨e1, e2⟩ := zb_r2 e
      subst e1
      subst e2
      exact Wp.ret rfl rfl rfl (K _)
/-- EveningFirstModel.back(I)I -/
def d_182 (x1 : Int32) (g : G) : Option (Int32 × G) :=
  zb_l (d_107 (Int32.toInt64 x1) 0 1) fun v1 =>
  bif v1 then (
    Option.bind (zm_ix x1 2) fun k3 =>
    bif zm_cmp .ne (g 115 k3) 0 then (
      Option.bind (d_180 0 (98 * (x1 + 1)) g) fun g5 =>
      some ((g5 114 8), g5)) else
    some ((-2), g)) else
  some ((-1), g)
set_option maxRecDepth 100000 in
set_option maxHeartbeats 4000000 in
theorem w_182 {sc : Option (List Int32)} {d : Nat} (x1 : Int32) (g : G) {r : Int32} {g' : G} (e : d_182 x1 g = some (r, g')) : zB sc (d + 1) 182 0 (zm_ent (z_L 182) [.ref 113, .int x1]) [] (mk g) [.int r] (mk g') := by
  unfold d_182 at e
  intro Q K
  show Wp sc (d + 1) 182 0 [some (.ref 113), some (.int x1)] [] (mk g) Q
  refine Wp.steps 4 (pc1 := 4) (lo1 := [some (.ref 113), some (.int x1)]) (st1 := [.long 1, .long 0, .long (Int32.toInt64 x1)]) (h1 := mk g) rfl ?_
  obtain ⟨v1, hvv1, e⟩ := zb_let e
  refine Wp.ca (m := 107) (d1 := d) (as := [.long (Int32.toInt64 x1), .long 0, .long 1]) (rest := []) (st1 := [.int (zb_i v1)]) (pc1 := 7) rfl rfl rfl rfl rfl rfl rfl rfl rfl rfl rfl rfl (w_107 (sc := sc) (d := d) (Int32.toInt64 x1) 0 1 g hvv1) ?_
  rcases zb_if e with ⟨hc2, e⟩ | ⟨hc2, e⟩
  · skip
    refine Wp.iT (pc1 := 12) rfl (zb_neT hc2) rfl ?_
    refine Wp.steps 1 (pc1 := 13) (lo1 := [some (.ref 113), some (.int x1)]) (st1 := [.ref 113]) (h1 := mk g) rfl ?_
    refine Wp.gf (pc1 := 16) (v := .ref 115) rfl rfl rfl rfl rfl ?_
    refine Wp.steps 1 (pc1 := 17) (lo1 := [some (.ref 113), some (.int x1)]) (st1 := [.int x1, .ref 115]) (h1 := mk g) rfl ?_
    obtain ⟨k3, hk3, e⟩ := zb_bind e
    refine Wp.ba (pc1 := 18) rfl rfl rfl hk3 rfl ?_
    rcases zb_if e with ⟨hc4, e⟩ | ⟨hc4, e⟩
    · skip
      refine Wp.iT (pc1 := 24) rfl hc4 rfl ?_
      refine Wp.steps 7 (pc1 := 32) (lo1 := [some (.ref 113), some (.int x1)]) (st1 := [.int (98 * (x1 + 1)), .int 0, .ref 113]) (h1 := mk g) rfl ?_
      obtain ⟨g5, hvg5, e⟩ := zb_bind e
      refine Wp.ca (m := 180) (d1 := d) (as := [.ref 113, .int 0, .int (98 * (x1 + 1))]) (rest := []) (st1 := []) (pc1 := 35) rfl rfl rfl rfl rfl rfl rfl rfl (mk_rok rfl rfl rfl rfl) rfl rfl rfl (w_180 (sc := sc) (d := d) 0 (98 * (x1 + 1)) g hvg5) ?_
      refine Wp.steps 1 (pc1 := 36) (lo1 := [some (.ref 113), some (.int x1)]) (st1 := [.ref 113]) (h1 := mk g5) rfl ?_
      refine Wp.gf (pc1 := 39) (v := .ref 114) rfl rfl rfl rfl rfl ?_
      refine Wp.steps 1 (pc1 := 41) (lo1 := [some (.ref 113), some (.int x1)]) (st1 := [.int 8, .ref 114]) (h1 := mk g5) rfl ?_
      refine Wp.ia (pc1 := 42) (k := 8) rfl rfl rfl rfl rfl ?_
      obtain ⟨e1, e2⟩ := zb_r2 e
      subst e1
      subst e2
      exact Wp.ret rfl rfl rfl (K _)
    · skip
      refine Wp.iF (pc1 := 21) rfl hc4 rfl ?_
      refine Wp.steps 1 (pc1 := 23) (lo1 := [some (.ref 113), some (.int x1)]) (st1 := [.int (-2)]) (h1 := mk g) rfl ?_
      obtain ⟨e1, e2⟩ := zb_r2 e
      subst e1
      subst e2
      exact Wp.ret rfl rfl rfl (K _)
  · skip
    refine Wp.iF (pc1 := 10) rfl (zb_neF hc2) rfl ?_
    refine Wp.steps 1 (pc1 := 11) (lo1 := [some (.ref 113), some (.int x1)]) (st1 := [.int (-1)]) (h1 := mk g) rfl ?_
    obtain ⟨e1, e2⟩ := zb_r2 e
    subst e1
    subst e2
    exact Wp.ret rfl rfl rfl (K _)
/-- EveningFirst.isNoSheet(I)Z -/
def d_93 (x0 : Int32) : Bool :=
  bif zm_cmp .lt x0 0 then (
    true) else
  bif zm_cmp .lt x0 4 then (
    false) else
  true
set_option maxRecDepth 100000 in
set_option maxHeartbeats 4000000 in
theorem w_93 {sc : Option (List Int32)} {d : Nat} (x0 : Int32) (g : G) {r : Bool} (e : d_93 x0 = r) : zB sc (d) 93 0 (zm_ent (z_L 93) [.int x0]) [] (mk g) [.int (zb_i r)] (mk g) := by
  unfold d_93 at e
  intro Q K
  show Wp sc (d) 93 0 [some (.int x0)] [] (mk g) Q
  refine Wp.steps 1 (pc1 := 1) (lo1 := [some (.int x0)]) (st1 := [.int x0]) (h1 := mk g) rfl ?_
  rcases zb_if e with ⟨hc1, e⟩ | ⟨hc1, e⟩
  · skip
    refine Wp.iT (pc1 := 9) rfl hc1 rfl ?_
    refine Wp.steps 2 (pc1 := 14) (lo1 := [some (.int x0)]) (st1 := [.int 1]) (h1 := mk g) rfl ?_
    have e1 := e
    subst e1
    exact Wp.ret rfl rfl rfl (K _)
  · skip
    refine Wp.iF (pc1 := 4) rfl hc1 rfl ?_
    refine Wp.steps 2 (pc1 := 6) (lo1 := [some (.int x0)]) (st1 := [.int 4, .int x0]) (h1 := mk g) rfl ?_
    rcases zb_if e with ⟨hc2, e⟩ | ⟨hc2, e⟩
    · skip
      refine Wp.cT (pc1 := 13) rfl hc2 rfl ?_
      refine Wp.steps 1 (pc1 := 14) (lo1 := [some (.int x0)]) (st1 := [.int 0]) (h1 := mk g) rfl ?_
      have e1 := e
      subst e1
      exact Wp.ret rfl rfl rfl (K _)
    · skip
      refine Wp.cF (pc1 := 9) rfl hc2 rfl ?_
      refine Wp.steps 2 (pc1 := 14) (lo1 := [some (.int x0)]) (st1 := [.int 1]) (h1 := mk g) rfl ?_
      have e1 := e
      subst e1
      exact Wp.ret rfl rfl rfl (K _)
/-- EveningFirst.isNoLane(I)Z -/
def d_94 (x0 : Int32) : Bool :=
  bif zm_cmp .lt x0 0 then (
    true) else
  bif zm_cmp .le x0 2 then (
    false) else
  true
set_option maxRecDepth 100000 in
set_option maxHeartbeats 4000000 in
theorem w_94 {sc : Option (List Int32)} {d : Nat} (x0 : Int32) (g : G) {r : Bool} (e : d_94 x0 = r) : zB sc (d) 94 0 (zm_ent (z_L 94) [.int x0]) [] (mk g) [.int (zb_i r)] (mk g) := by
  unfold d_94 at e
  intro Q K
  show Wp sc (d) 94 0 [some (.int x0)] [] (mk g) Q
  refine Wp.steps 1 (pc1 := 1) (lo1 := [some (.int x0)]) (st1 := [.int x0]) (h1 := mk g) rfl ?_
  rcases zb_if e with ⟨hc1, e⟩ | ⟨hc1, e⟩
  · skip
    refine Wp.iT (pc1 := 9) rfl hc1 rfl ?_
    refine Wp.steps 2 (pc1 := 14) (lo1 := [some (.int x0)]) (st1 := [.int 1]) (h1 := mk g) rfl ?_
    have e1 := e
    subst e1
    exact Wp.ret rfl rfl rfl (K _)
  · skip
    refine Wp.iF (pc1 := 4) rfl hc1 rfl ?_
    refine Wp.steps 2 (pc1 := 6) (lo1 := [some (.int x0)]) (st1 := [.int 2, .int x0]) (h1 := mk g) rfl ?_
    rcases zb_if e with ⟨hc2, e⟩ | ⟨hc2, e⟩
    · skip
      refine Wp.cT (pc1 := 13) rfl hc2 rfl ?_
      refine Wp.steps 1 (pc1 := 14) (lo1 := [some (.int x0)]) (st1 := [.int 0]) (h1 := mk g) rfl ?_
      have e1 := e
      subst e1
      exact Wp.ret rfl rfl rfl (K _)
    · skip
      refine Wp.cF (pc1 := 9) rfl hc2 rfl ?_
      refine Wp.steps 2 (pc1 := 14) (lo1 := [some (.int x0)]) (st1 := [.int 1]) (h1 := mk g) rfl ?_
      have e1 := e
      subst e1
      exact Wp.ret rfl rfl rfl (K _)
def d_47_12 (r0 : Nat) : Nat → Int32 → G → Option G
  | 0, _, _ => none
  | f + 1, x3, g =>
    bif zm_cmp .ge x3 40 then (
      some g) else
    Option.bind (zm_ix x3 40) fun k5 =>
    zb_l (zg_up g (r0 + 1) k5 0) fun g4 =>
    d_47_12 r0 f (x3 + 1) g4
set_option maxRecDepth 100000 in
set_option maxHeartbeats 4000000 in
theorem w_47_12 {sc : Option (List Int32)} {d : Nat} (r0 : Nat) (h0 : zg_cl r0 = 5) : ∀ (f : Nat) (x3 : Int32) (g : G) (g' : G), d_47_12 r0 f x3 g = some g' → zB sc (d) 47 12 [some (.ref r0), none, none, some (.int x3)] [] (mk g) [] (mk g') := by
  intro f
  induction f with
  | zero =>
    intro x3 g g' e
    rw [d_47_12.eq_1] at e
    cases e
  | succ f ih =>
    intro x3 g g' e
    rw [d_47_12.eq_2] at e
    intro Q K
    refine Wp.steps 2 (pc1 := 15) (lo1 := [some (.ref r0), none, none, some (.int x3)]) (st1 := [.int 40, .int x3]) (h1 := mk g) rfl ?_
    rcases zb_if e with ⟨hc3, e⟩ | ⟨hc3, e⟩
    · skip
      refine Wp.cT (pc1 := 31) rfl hc3 rfl ?_
      have e1 := zb_r1 e
      subst e1
      exact Wp.ret rfl rfl rfl (K _)
    · skip
      refine Wp.cF (pc1 := 18) rfl hc3 rfl ?_
      refine Wp.steps 1 (pc1 := 19) (lo1 := [some (.ref r0), none, none, some (.int x3)]) (st1 := [.ref r0]) (h1 := mk g) rfl ?_
      refine Wp.gf (pc1 := 22) (v := .ref (r0 + 1)) rfl h0 rfl rfl rfl ?_
      refine Wp.steps 2 (pc1 := 24) (lo1 := [some (.ref r0), none, none, some (.int x3)]) (st1 := [.int 0, .int x3, .ref (r0 + 1)]) (h1 := mk g) rfl ?_
      obtain ⟨k5, hk5, e⟩ := zb_bind e
      obtain ⟨g4, hg4, e⟩ := zb_let e
      refine Wp.ias (pc1 := 25) rfl (zg_cells (s := r0) h0) rfl hk5 hg4 rfl ?_
      refine Wp.steps 2 (pc1 := 12) (lo1 := [some (.ref r0), none, none, some (.int (x3 + 1))]) (st1 := []) (h1 := mk g4) rfl ?_
      exact ih _ _ _ e Q K
/-- EveningFirst$Sheet.renew(II)V -/
def d_47 (r0 : Nat) (x1 : Int32) (x2 : Int32) (g : G) : Option G :=
  zb_l (zg_up g r0 2 x1) fun g1 =>
  zb_l (zg_up g1 r0 0 x2) fun g2 =>
  d_47_12 r0 300 0 g2
set_option maxRecDepth 100000 in
set_option maxHeartbeats 4000000 in
theorem w_47 {sc : Option (List Int32)} {d : Nat} (r0 : Nat) (x1 : Int32) (x2 : Int32) (h0 : zg_cl r0 = 5) (g : G) {g' : G} (e : d_47 r0 x1 x2 g = some g') : zB sc (d) 47 0 (zm_ent (z_L 47) [.ref r0, .int x1, .int x2]) [] (mk g) [] (mk g') := by
  unfold d_47 at e
  intro Q K
  show Wp sc (d) 47 0 [some (.ref r0), some (.int x1), some (.int x2), none] [] (mk g) Q
  refine Wp.steps 2 (pc1 := 2) (lo1 := [some (.ref r0), some (.int x1), some (.int x2), none]) (st1 := [.int x1, .ref r0]) (h1 := mk g) rfl ?_
  obtain ⟨g1, hg1, e⟩ := zb_let e
  refine Wp.pf (pc1 := 5) rfl h0 rfl rfl rfl rfl hg1 rfl ?_
  refine Wp.steps 2 (pc1 := 7) (lo1 := [some (.ref r0), some (.int x1), some (.int x2), none]) (st1 := [.int x2, .ref r0]) (h1 := mk g1) rfl ?_
  obtain ⟨g2, hg2, e⟩ := zb_let e
  refine Wp.pf (pc1 := 10) rfl h0 rfl rfl rfl rfl hg2 rfl ?_
  refine Wp.steps 2 (pc1 := 12) (lo1 := [some (.ref r0), some (.int x1), some (.int x2), some (.int 0)]) (st1 := []) (h1 := mk g2) rfl ?_
  refine Wp.fg [some (.ref r0), none, none, some (.int 0)] (zm_lle_s (zm_lle_n (zm_lle_n (zm_lle_s zm_lle_0)))) ?_
  exact w_47_12 (sc := sc) (d := d) r0 h0 300 0 g2 _ e Q K
