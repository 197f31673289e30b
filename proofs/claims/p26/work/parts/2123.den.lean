/-! printed by wip/tools/den.py -/
/-- EveningFirst.sheet(III)I -/
def d_85 (x1 : Int32) (x2 : Int32) (x3 : Int32) (g : G) : Option (Int32 × G) :=
  zb_l (d_93 x1) fun v1 =>
  bif v1 then (
    some ((-1), g)) else
  zb_l (d_94 x2) fun v3 =>
  bif v3 then (
    some ((-1), g)) else
  bif zm_cmp .le x3 40 then (
    bif zm_cmp .ge x3 0 then (
      Option.bind (zm_ix x1 4) fun k7 =>
      Option.bind (d_47 (105 + 2 * k7) x2 x3 g) fun g8 =>
      some (1, g8)) else
    some ((-14), g)) else
  some ((-1), g)
set_option maxRecDepth 100000 in
set_option maxHeartbeats 4000000 in
theorem w_85 {sc : Option (List Int32)} {d : Nat} (x1 : Int32) (x2 : Int32) (x3 : Int32) (g : G) {r : Int32} {g' : G} (e : d_85 x1 x2 x3 g = some (r, g')) : zB sc (d + 1) 85 0 (zm_ent (z_L 85) [.ref 0, .int x1, .int x2, .int x3]) [] (mk g) [.int r] (mk g') := by
  unfold d_85 at e
  intro Q K
  show Wp sc (d + 1) 85 0 [some (.ref 0), some (.int x1), some (.int x2), some (.int x3)] [] (mk g) Q
  refine Wp.steps 1 (pc1 := 1) (lo1 := [some (.ref 0), some (.int x1), some (.int x2), some (.int x3)]) (st1 := [.int x1]) (h1 := mk g) rfl ?_
  obtain ⟨v1, hvv1, e⟩ := zb_let e
  refine Wp.ca (m := 93) (d1 := d) (as := [.int x1]) (rest := []) (st1 := [.int (zb_i v1)]) (pc1 := 4) rfl rfl rfl rfl rfl rfl rfl rfl rfl rfl rfl rfl (w_93 (sc := sc) (d := d) x1 g hvv1) ?_
  rcases zb_if e with ⟨hc2, e⟩ | ⟨hc2, e⟩
  · skip
    refine Wp.iT (pc1 := 20) rfl (zb_neT hc2) rfl ?_
    refine Wp.steps 1 (pc1 := 21) (lo1 := [some (.ref 0), some (.int x1), some (.int x2), some (.int x3)]) (st1 := [.int (-1)]) (h1 := mk g) rfl ?_
    obtain ⟨e1, e2⟩ := zb_r2 e
    subst e1
    subst e2
    exact Wp.ret rfl rfl rfl (K _)
  · skip
    refine Wp.iF (pc1 := 7) rfl (zb_neF hc2) rfl ?_
    refine Wp.steps 1 (pc1 := 8) (lo1 := [some (.ref 0), some (.int x1), some (.int x2), some (.int x3)]) (st1 := [.int x2]) (h1 := mk g) rfl ?_
    obtain ⟨v3, hvv3, e⟩ := zb_let e
    refine Wp.ca (m := 94) (d1 := d) (as := [.int x2]) (rest := []) (st1 := [.int (zb_i v3)]) (pc1 := 11) rfl rfl rfl rfl rfl rfl rfl rfl rfl rfl rfl rfl (w_94 (sc := sc) (d := d) x2 g hvv3) ?_
    rcases zb_if e with ⟨hc4, e⟩ | ⟨hc4, e⟩
    · skip
      refine Wp.iT (pc1 := 20) rfl (zb_neT hc4) rfl ?_
      refine Wp.steps 1 (pc1 := 21) (lo1 := [some (.ref 0), some (.int x1), some (.int x2), some (.int x3)]) (st1 := [.int (-1)]) (h1 := mk g) rfl ?_
      obtain ⟨e1, e2⟩ := zb_r2 e
      subst e1
      subst e2
      exact Wp.ret rfl rfl rfl (K _)
    · skip
      refine Wp.iF (pc1 := 14) rfl (zb_neF hc4) rfl ?_
      refine Wp.steps 2 (pc1 := 17) (lo1 := [some (.ref 0), some (.int x1), some (.int x2), some (.int x3)]) (st1 := [.int 40, .int x3]) (h1 := mk g) rfl ?_
      rcases zb_if e with ⟨hc5, e⟩ | ⟨hc5, e⟩
      · skip
        refine Wp.cT (pc1 := 22) rfl hc5 rfl ?_
        refine Wp.steps 1 (pc1 := 23) (lo1 := [some (.ref 0), some (.int x1), some (.int x2), some (.int x3)]) (st1 := [.int x3]) (h1 := mk g) rfl ?_
        rcases zb_if e with ⟨hc6, e⟩ | ⟨hc6, e⟩
        · skip
          refine Wp.iT (pc1 := 29) rfl hc6 rfl ?_
          refine Wp.steps 1 (pc1 := 30) (lo1 := [some (.ref 0), some (.int x1), some (.int x2), some (.int x3)]) (st1 := [.ref 0]) (h1 := mk g) rfl ?_
          refine Wp.gf (pc1 := 33) (v := .ref 104) rfl rfl rfl rfl rfl ?_
          refine Wp.steps 1 (pc1 := 34) (lo1 := [some (.ref 0), some (.int x1), some (.int x2), some (.int x3)]) (st1 := [.int x1, .ref 104]) (h1 := mk g) rfl ?_
          obtain ⟨k7, hk7, e⟩ := zb_bind e
          refine Wp.aa (pc1 := 35) (v := (105 + 2 * k7)) rfl rfl rfl hk7 (by omega) rfl ?_
          refine Wp.steps 2 (pc1 := 37) (lo1 := [some (.ref 0), some (.int x1), some (.int x2), some (.int x3)]) (st1 := [.int x3, .int x2, .ref (105 + 2 * k7)]) (h1 := mk g) rfl ?_
          obtain ⟨g8, hvg8, e⟩ := zb_bind e
          refine Wp.ca (m := 47) (d1 := d) (as := [.ref (105 + 2 * k7), .int x2, .int x3]) (rest := []) (st1 := []) (pc1 := 40) rfl rfl rfl rfl rfl rfl rfl rfl (mk_rok (zg_sheet hk7) rfl rfl rfl) rfl rfl rfl (w_47 (sc := sc) (d := d) (105 + 2 * k7) x2 x3 (zg_sheet hk7) g hvg8) ?_
          refine Wp.steps 1 (pc1 := 41) (lo1 := [some (.ref 0), some (.int x1), some (.int x2), some (.int x3)]) (st1 := [.int 1]) (h1 := mk g8) rfl ?_
          obtain ⟨e1, e2⟩ := zb_r2 e
          subst e1
          subst e2
          exact Wp.ret rfl rfl rfl (K _)
        · skip
          refine Wp.iF (pc1 := 26) rfl hc6 rfl ?_
          refine Wp.steps 1 (pc1 := 28) (lo1 := [some (.ref 0), some (.int x1), some (.int x2), some (.int x3)]) (st1 := [.int (-14)]) (h1 := mk g) rfl ?_
          obtain ⟨e1, e2⟩ := zb_r2 e
          subst e1
          subst e2
          exact Wp.ret rfl rfl rfl (K _)
      · skip
        refine Wp.cF (pc1 := 20) rfl hc5 rfl ?_
        refine Wp.steps 1 (pc1 := 21) (lo1 := [some (.ref 0), some (.int x1), some (.int x2), some (.int x3)]) (st1 := [.int (-1)]) (h1 := mk g) rfl ?_
        obtain ⟨e1, e2⟩ := zb_r2 e
        subst e1
        subst e2
        exact Wp.ret rfl rfl rfl (K _)
/-- EveningFirstModel.isSheet(II)Z -/
def d_183 (x0 : Int32) (x1 : Int32) : Bool :=
  zb_l (d_107 (Int32.toInt64 x0) 0 3) fun v1 =>
  bif v1 then (
    zb_l (d_107 (Int32.toInt64 x1) 0 2) fun v3 =>
    bif v3 then (
      true) else
    false) else
  false
set_option maxRecDepth 100000 in
set_option maxHeartbeats 4000000 in
theorem w_183 {sc : Option (List Int32)} {d : Nat} (x0 : Int32) (x1 : Int32) (g : G) {r : Bool} (e : d_183 x0 x1 = r) : zB sc (d + 1) 183 0 (zm_ent (z_L 183) [.int x0, .int x1]) [] (mk g) [.int (zb_i r)] (mk g) := by
  unfold d_183 at e
  intro Q K
  show Wp sc (d + 1) 183 0 [some (.int x0), some (.int x1)] [] (mk g) Q
  refine Wp.steps 4 (pc1 := 6) (lo1 := [some (.int x0), some (.int x1)]) (st1 := [.long 3, .long 0, .long (Int32.toInt64 x0)]) (h1 := mk g) rfl ?_
  obtain ⟨v1, hvv1, e⟩ := zb_let e
  refine Wp.ca (m := 107) (d1 := d) (as := [.long (Int32.toInt64 x0), .long 0, .long 3]) (rest := []) (st1 := [.int (zb_i v1)]) (pc1 := 9) rfl rfl rfl rfl rfl rfl rfl rfl rfl rfl rfl rfl (w_107 (sc := sc) (d := d) (Int32.toInt64 x0) 0 3 g hvv1) ?_
  rcases zb_if e with ⟨hc2, e⟩ | ⟨hc2, e⟩
  · skip
    refine Wp.iF (pc1 := 12) rfl (zb_eqF hc2) rfl ?_
    refine Wp.steps 4 (pc1 := 18) (lo1 := [some (.int x0), some (.int x1)]) (st1 := [.long 2, .long 0, .long (Int32.toInt64 x1)]) (h1 := mk g) rfl ?_
    obtain ⟨v3, hvv3, e⟩ := zb_let e
    refine Wp.ca (m := 107) (d1 := d) (as := [.long (Int32.toInt64 x1), .long 0, .long 2]) (rest := []) (st1 := [.int (zb_i v3)]) (pc1 := 21) rfl rfl rfl rfl rfl rfl rfl rfl rfl rfl rfl rfl (w_107 (sc := sc) (d := d) (Int32.toInt64 x1) 0 2 g hvv3) ?_
    rcases zb_if e with ⟨hc4, e⟩ | ⟨hc4, e⟩
    · skip
      refine Wp.iF (pc1 := 24) rfl (zb_eqF hc4) rfl ?_
      refine Wp.steps 2 (pc1 := 29) (lo1 := [some (.int x0), some (.int x1)]) (st1 := [.int 1]) (h1 := mk g) rfl ?_
      have e1 := e
      subst e1
      exact Wp.ret rfl rfl rfl (K _)
    · skip
      refine Wp.iT (pc1 := 28) rfl (zb_eqT hc4) rfl ?_
      refine Wp.steps 1 (pc1 := 29) (lo1 := [some (.int x0), some (.int x1)]) (st1 := [.int 0]) (h1 := mk g) rfl ?_
      have e1 := e
      subst e1
      exact Wp.ret rfl rfl rfl (K _)
  · skip
    refine Wp.iT (pc1 := 28) rfl (zb_eqT hc2) rfl ?_
    refine Wp.steps 1 (pc1 := 29) (lo1 := [some (.int x0), some (.int x1)]) (st1 := [.int 0]) (h1 := mk g) rfl ?_
    have e1 := e
    subst e1
    exact Wp.ret rfl rfl rfl (K _)
def d_184_40 (x1 : Int32) : Nat → Int32 → G → Option (Int32 × G)
  | 0, _, _ => none
  | f + 1, x4, g =>
    bif zm_cmp .ge x4 40 then (
      some (1, g)) else
    Option.bind (zm_ix ((40 * x1) + x4) 160) fun k11 =>
    zb_l (zg_up g 121 k11 0) fun g10 =>
    d_184_40 x1 f (x4 + 1) g10
set_option maxRecDepth 100000 in
set_option maxHeartbeats 4000000 in
theorem w_184_40 {sc : Option (List Int32)} {d : Nat} (x1 : Int32) : ∀ (f : Nat) (x4 : Int32) (g : G) (r : Int32) (g' : G), d_184_40 x1 f x4 g = some (r, g') → zB sc (d + 2) 184 40 [some (.ref 113), some (.int x1), none, none, some (.int x4)] [] (mk g) [.int r] (mk g') := by
  intro f
  induction f with
  | zero =>
    intro x4 g r g' e
    rw [d_184_40.eq_1] at e
    cases e
  | succ f ih =>
    intro x4 g r g' e
    rw [d_184_40.eq_2] at e
    intro Q K
    refine Wp.steps 2 (pc1 := 44) (lo1 := [some (.ref 113), some (.int x1), none, none, some (.int x4)]) (st1 := [.int 40, .int x4]) (h1 := mk g) rfl ?_
    rcases zb_if e with ⟨hc9, e⟩ | ⟨hc9, e⟩
    · skip
      refine Wp.cT (pc1 := 66) rfl hc9 rfl ?_
      refine Wp.steps 1 (pc1 := 67) (lo1 := [some (.ref 113), some (.int x1), none, none, some (.int x4)]) (st1 := [.int 1]) (h1 := mk g) rfl ?_
      obtain ⟨e1, e2⟩ := zb_r2 e
      subst e1
      subst e2
      exact Wp.ret rfl rfl rfl (K _)
    · skip
      refine Wp.cF (pc1 := 47) rfl hc9 rfl ?_
      refine Wp.steps 1 (pc1 := 48) (lo1 := [some (.ref 113), some (.int x1), none, none, some (.int x4)]) (st1 := [.ref 113]) (h1 := mk g) rfl ?_
      refine Wp.gf (pc1 := 51) (v := .ref 121) rfl rfl rfl rfl rfl ?_
      refine Wp.steps 6 (pc1 := 59) (lo1 := [some (.ref 113), some (.int x1), none, none, some (.int x4)]) (st1 := [.int 0, .int ((40 * x1) + x4), .ref 121]) (h1 := mk g) rfl ?_
      obtain ⟨k11, hk11, e⟩ := zb_bind e
      obtain ⟨g10, hg10, e⟩ := zb_let e
      refine Wp.ias (pc1 := 60) rfl rfl rfl hk11 hg10 rfl ?_
      refine Wp.steps 2 (pc1 := 40) (lo1 := [some (.ref 113), some (.int x1), none, none, some (.int (x4 + 1))]) (st1 := []) (h1 := mk g10) rfl ?_
      exact ih _ _ _ _ e Q K
/-- EveningFirstModel.sheet(III)I -/
def d_184 (x1 : Int32) (x2 : Int32) (x3 : Int32) (g : G) : Option (Int32 × G) :=
  zb_l (d_183 x1 x2) fun v1 =>
  bif v1 then (
    bif zm_cmp .le x3 40 then (
      bif zm_cmp .ge x3 0 then (
        Option.bind (zm_ix x1 4) fun k6 =>
        zb_l (zg_up g 119 k6 x2) fun g5 =>
        Option.bind (zm_ix x1 4) fun k8 =>
        zb_l (zg_up g5 120 k8 x3) fun g7 =>
        d_184_40 x1 300 0 g7) else
      some ((-14), g)) else
    some ((-1), g)) else
  some ((-1), g)
set_option maxRecDepth 100000 in
set_option maxHeartbeats 4000000 in
theorem w_184 {sc : Option (List Int32)} {d : Nat} (x1 : Int32) (x2 : Int32) (x3 : Int32) (g : G) {r : Int32} {g' : G} (e : d_184 x1 x2 x3 g = some (r, g')) : zB sc (d + 2) 184 0 (zm_ent (z_L 184) [.ref 113, .int x1, .int x2, .int x3]) [] (mk g) [.int r] (mk g') := by
  unfold d_184 at e
  intro Q K
  show Wp sc (d + 2) 184 0 [some (.ref 113), some (.int x1), some (.int x2), some (.int x3), none] [] (mk g) Q
  refine Wp.steps 2 (pc1 := 2) (lo1 := [some (.ref 113), some (.int x1), some (.int x2), some (.int x3), none]) (st1 := [.int x2, .int x1]) (h1 := mk g) rfl ?_
  obtain ⟨v1, hvv1, e⟩ := zb_let e
  refine Wp.ca (m := 183) (d1 := d + 1) (as := [.int x1, .int x2]) (rest := []) (st1 := [.int (zb_i v1)]) (pc1 := 5) rfl rfl rfl rfl rfl rfl rfl rfl rfl rfl rfl rfl (w_183 (sc := sc) (d := d) x1 x2 g hvv1) ?_
  rcases zb_if e with ⟨hc2, e⟩ | ⟨hc2, e⟩
  · skip
    refine Wp.iF (pc1 := 8) rfl (zb_eqF hc2) rfl ?_
    refine Wp.steps 2 (pc1 := 11) (lo1 := [some (.ref 113), some (.int x1), some (.int x2), some (.int x3), none]) (st1 := [.int 40, .int x3]) (h1 := mk g) rfl ?_
    rcases zb_if e with ⟨hc3, e⟩ | ⟨hc3, e⟩
    · skip
      refine Wp.cT (pc1 := 16) rfl hc3 rfl ?_
      refine Wp.steps 1 (pc1 := 17) (lo1 := [some (.ref 113), some (.int x1), some (.int x2), some (.int x3), none]) (st1 := [.int x3]) (h1 := mk g) rfl ?_
      rcases zb_if e with ⟨hc4, e⟩ | ⟨hc4, e⟩
      · skip
        refine Wp.iT (pc1 := 23) rfl hc4 rfl ?_
        refine Wp.steps 1 (pc1 := 24) (lo1 := [some (.ref 113), some (.int x1), some (.int x2), some (.int x3), none]) (st1 := [.ref 113]) (h1 := mk g) rfl ?_
        refine Wp.gf (pc1 := 27) (v := .ref 119) rfl rfl rfl rfl rfl ?_
        refine Wp.steps 2 (pc1 := 29) (lo1 := [some (.ref 113), some (.int x1), some (.int x2), some (.int x3), none]) (st1 := [.int x2, .int x1, .ref 119]) (h1 := mk g) rfl ?_
        obtain ⟨k6, hk6, e⟩ := zb_bind e
        obtain ⟨g5, hg5, e⟩ := zb_let e
        refine Wp.ias (pc1 := 30) rfl rfl rfl hk6 hg5 rfl ?_
        refine Wp.steps 1 (pc1 := 31) (lo1 := [some (.ref 113), some (.int x1), some (.int x2), some (.int x3), none]) (st1 := [.ref 113]) (h1 := mk g5) rfl ?_
        refine Wp.gf (pc1 := 34) (v := .ref 120) rfl rfl rfl rfl rfl ?_
        refine Wp.steps 2 (pc1 := 36) (lo1 := [some (.ref 113), some (.int x1), some (.int x2), some (.int x3), none]) (st1 := [.int x3, .int x1, .ref 120]) (h1 := mk g5) rfl ?_
        obtain ⟨k8, hk8, e⟩ := zb_bind e
        obtain ⟨g7, hg7, e⟩ := zb_let e
        refine Wp.ias (pc1 := 37) rfl rfl rfl hk8 hg7 rfl ?_
        refine Wp.steps 2 (pc1 := 40) (lo1 := [some (.ref 113), some (.int x1), some (.int x2), some (.int x3), some (.int 0)]) (st1 := []) (h1 := mk g7) rfl ?_
        refine Wp.fg [some (.ref 113), some (.int x1), none, none, some (.int 0)] (zm_lle_s (zm_lle_s (zm_lle_n (zm_lle_n (zm_lle_s zm_lle_0))))) ?_
        exact w_184_40 (sc := sc) (d := d) x1 300 0 g7 _ _ e Q K
      · skip
        refine Wp.iF (pc1 := 20) rfl hc4 rfl ?_
        refine Wp.steps 1 (pc1 := 22) (lo1 := [some (.ref 113), some (.int x1), some (.int x2), some (.int x3), none]) (st1 := [.int (-14)]) (h1 := mk g) rfl ?_
        obtain ⟨e1, e2⟩ := zb_r2 e
        subst e1
        subst e2
        exact Wp.ret rfl rfl rfl (K _)
    · skip
      refine Wp.cF (pc1 := 14) rfl hc3 rfl ?_
      refine Wp.steps 1 (pc1 := 15) (lo1 := [some (.ref 113), some (.int x1), some (.int x2), some (.int x3), none]) (st1 := [.int (-1)]) (h1 := mk g) rfl ?_
      obtain ⟨e1, e2⟩ := zb_r2 e
      subst e1
      subst e2
      exact Wp.ret rfl rfl rfl (K _)
  · skip
    refine Wp.iT (pc1 := 14) rfl (zb_eqT hc2) rfl ?_
    refine Wp.steps 1 (pc1 := 15) (lo1 := [some (.ref 113), some (.int x1), some (.int x2), some (.int x3), none]) (st1 := [.int (-1)]) (h1 := mk g) rfl ?_
    obtain ⟨e1, e2⟩ := zb_r2 e
    subst e1
    subst e2
    exact Wp.ret rfl rfl rfl (K _)
/-- EveningFirst$Sheet.isNothing()Z -/
def d_46 (r0 : Nat) (g : G) : Bool :=
  bif zm_cmp .ne (g r0 0) (-1) then (
    false) else
  true
set_option maxRecDepth 100000 in
set_option maxHeartbeats 4000000 in
theorem w_46 {sc : Option (List Int32)} {d : Nat} (r0 : Nat) (h0 : zg_cl r0 = 5) (g : G) {r : Bool} (e : d_46 r0 g = r) : zB sc (d) 46 0 (zm_ent (z_L 46) [.ref r0]) [] (mk g) [.int (zb_i r)] (mk g) := by
  unfold d_46 at e
  intro Q K
  show Wp sc (d) 46 0 [some (.ref r0)] [] (mk g) Q
  refine Wp.steps 1 (pc1 := 1) (lo1 := [some (.ref r0)]) (st1 := [.ref r0]) (h1 := mk g) rfl ?_
  refine Wp.gf (pc1 := 4) (v := .int (g r0 0)) rfl h0 rfl rfl rfl ?_
  refine Wp.steps 1 (pc1 := 5) (lo1 := [some (.ref r0)]) (st1 := [.int (-1), .int (g r0 0)]) (h1 := mk g) rfl ?_
  rcases zb_if e with ⟨hc1, e⟩ | ⟨hc1, e⟩
  · skip
    refine Wp.cT (pc1 := 12) rfl hc1 rfl ?_
    refine Wp.steps 1 (pc1 := 13) (lo1 := [some (.ref r0)]) (st1 := [.int 0]) (h1 := mk g) rfl ?_
    have e1 := e
    subst e1
    exact Wp.ret rfl rfl rfl (K _)
  · skip
    refine Wp.cF (pc1 := 8) rfl hc1 rfl ?_
    refine Wp.steps 2 (pc1 := 13) (lo1 := [some (.ref r0)]) (st1 := [.int 1]) (h1 := mk g) rfl ?_
    have e1 := e
    subst e1
    exact Wp.ret rfl rfl rfl (K _)
/-- EveningFirst$Sheet.faultOfCell(I)I -/
def d_49 (r0 : Nat) (x1 : Int32) (g : G) : Int32 :=
  zb_l (d_46 r0 g) fun v1 =>
  bif v1 then (
    1) else
  bif zm_cmp .lt x1 0 then (
    2) else
  bif zm_cmp .ge x1 (g r0 0) then (
    2) else
  0
set_option maxRecDepth 100000 in
set_option maxHeartbeats 4000000 in
theorem w_49 {sc : Option (List Int32)} {d : Nat} (r0 : Nat) (x1 : Int32) (h0 : zg_cl r0 = 5) (g : G) {r : Int32} (e : d_49 r0 x1 g = r) : zB sc (d + 1) 49 0 (zm_ent (z_L 49) [.ref r0, .int x1]) [] (mk g) [.int r] (mk g) := by
  unfold d_49 at e
  intro Q K
  show Wp sc (d + 1) 49 0 [some (.ref r0), some (.int x1)] [] (mk g) Q
  refine Wp.steps 1 (pc1 := 1) (lo1 := [some (.ref r0), some (.int x1)]) (st1 := [.ref r0]) (h1 := mk g) rfl ?_
  obtain ⟨v1, hvv1, e⟩ := zb_let e
  refine Wp.ca (m := 46) (d1 := d) (as := [.ref r0]) (rest := []) (st1 := [.int (zb_i v1)]) (pc1 := 4) rfl rfl rfl rfl rfl rfl rfl rfl (mk_rok h0 rfl rfl rfl) rfl rfl rfl (w_46 (sc := sc) (d := d) r0 h0 g hvv1) ?_
  rcases zb_if e with ⟨hc2, e⟩ | ⟨hc2, e⟩
  · skip
    refine Wp.iF (pc1 := 7) rfl (zb_eqF hc2) rfl ?_
    refine Wp.steps 1 (pc1 := 8) (lo1 := [some (.ref r0), some (.int x1)]) (st1 := [.int 1]) (h1 := mk g) rfl ?_
    have e1 := e
    subst e1
    exact Wp.ret rfl rfl rfl (K _)
  · skip
    refine Wp.iT (pc1 := 9) rfl (zb_eqT hc2) rfl ?_
    refine Wp.steps 1 (pc1 := 10) (lo1 := [some (.ref r0), some (.int x1)]) (st1 := [.int x1]) (h1 := mk g) rfl ?_
    rcases zb_if e with ⟨hc3, e⟩ | ⟨hc3, e⟩
    · skip
      refine Wp.iT (pc1 := 25) rfl hc3 rfl ?_
      refine Wp.steps 1 (pc1 := 26) (lo1 := [some (.ref r0), some (.int x1)]) (st1 := [.int 2]) (h1 := mk g) rfl ?_
      have e1 := e
      subst e1
      exact Wp.ret rfl rfl rfl (K _)
    · skip
      refine Wp.iF (pc1 := 13) rfl hc3 rfl ?_
      refine Wp.steps 2 (pc1 := 15) (lo1 := [some (.ref r0), some (.int x1)]) (st1 := [.ref r0, .int x1]) (h1 := mk g) rfl ?_
      refine Wp.gf (pc1 := 18) (v := .int (g r0 0)) rfl h0 rfl rfl rfl ?_
      rcases zb_if e with ⟨hc4, e⟩ | ⟨hc4, e⟩
      · skip
        refine Wp.cT (pc1 := 25) rfl hc4 rfl ?_
        refine Wp.steps 1 (pc1 := 26) (lo1 := [some (.ref r0), some (.int x1)]) (st1 := [.int 2]) (h1 := mk g) rfl ?_
        have e1 := e
        subst e1
        exact Wp.ret rfl rfl rfl (K _)
      · skip
        refine Wp.cF (pc1 := 21) rfl hc4 rfl ?_
        refine Wp.steps 2 (pc1 := 26) (lo1 := [some (.ref r0), some (.int x1)]) (st1 := [.int 0]) (h1 := mk g) rfl ?_
        have e1 := e
        subst e1
        exact Wp.ret rfl rfl rfl (K _)
/-- EveningFirst$Sheet.put(II)V -/
def d_51 (r0 : Nat) (x1 : Int32) (x2 : Int32) (g : G) : Option G :=
  bif (g r0 2) == 0 then (
    Option.bind (zm_ix x1 40) fun k3 =>
    zb_l (zg_up g (r0 + 1) k3 ((Int32.toInt8 x2).toInt32)) fun g2 =>
    some g2) else
  bif (g r0 2) == 1 then (
    Option.bind (zm_ix x1 40) fun k6 =>
    zb_l (zg_up g (r0 + 1) k6 ((Int32.toInt16 x2).toInt32)) fun g5 =>
    some g5) else
  Option.bind (zm_ix x1 40) fun k8 =>
  zb_l (zg_up g (r0 + 1) k8 x2) fun g7 =>
  some g7
set_option maxRecDepth 100000 in
set_option maxHeartbeats 4000000 in
theorem w_51 {sc : Option (List Int32)} {d : Nat} (r0 : Nat) (x1 : Int32) (x2 : Int32) (h0 : zg_cl r0 = 5) (g : G) {g' : G} (e : d_51 r0 x1 x2 g = some g') : zB sc (d) 51 0 (zm_ent (z_L 51) [.ref r0, .int x1, .int x2]) [] (mk g) [] (mk g') := by
  unfold d_51 at e
  intro Q K
  show Wp sc (d) 51 0 [some (.ref r0), some (.int x1), some (.int x2)] [] (mk g) Q
  refine Wp.steps 1 (pc1 := 1) (lo1 := [some (.ref r0), some (.int x1), some (.int x2)]) (st1 := [.ref r0]) (h1 := mk g) rfl ?_
  refine Wp.gf (pc1 := 4) (v := .int (g r0 2)) rfl h0 rfl rfl rfl ?_
  rcases zb_if e with ⟨hc1, e⟩ | ⟨hc1, e⟩
  · skip
    refine Wp.lsT (pc1 := 32) (w := 0) rfl hc1 rfl ?_
    refine Wp.steps 1 (pc1 := 33) (lo1 := [some (.ref r0), some (.int x1), some (.int x2)]) (st1 := [.ref r0]) (h1 := mk g) rfl ?_
    refine Wp.gf (pc1 := 36) (v := .ref (r0 + 1)) rfl h0 rfl rfl rfl ?_
    refine Wp.steps 3 (pc1 := 39) (lo1 := [some (.ref r0), some (.int x1), some (.int x2)]) (st1 := [.int ((Int32.toInt8 x2).toInt32), .int x1, .ref (r0 + 1)]) (h1 := mk g) rfl ?_
    obtain ⟨k3, hk3, e⟩ := zb_bind e
    obtain ⟨g2, hg2, e⟩ := zb_let e
    refine Wp.ias (pc1 := 40) rfl (zg_cells (s := r0) h0) rfl hk3 hg2 rfl ?_
    refine Wp.steps 1 (pc1 := 61) (lo1 := [some (.ref r0), some (.int x1), some (.int x2)]) (st1 := []) (h1 := mk g2) rfl ?_
    have e1 := zb_r1 e
    subst e1
    exact Wp.ret rfl rfl rfl (K _)
  · skip
    rcases zb_if e with ⟨hc4, e⟩ | ⟨hc4, e⟩
    · skip
      refine Wp.lsT (pc1 := 43) (w := 1) rfl hc4 rfl ?_
      refine Wp.steps 1 (pc1 := 44) (lo1 := [some (.ref r0), some (.int x1), some (.int x2)]) (st1 := [.ref r0]) (h1 := mk g) rfl ?_
      refine Wp.gf (pc1 := 47) (v := .ref (r0 + 1)) rfl h0 rfl rfl rfl ?_
      refine Wp.steps 3 (pc1 := 50) (lo1 := [some (.ref r0), some (.int x1), some (.int x2)]) (st1 := [.int ((Int32.toInt16 x2).toInt32), .int x1, .ref (r0 + 1)]) (h1 := mk g) rfl ?_
      obtain ⟨k6, hk6, e⟩ := zb_bind e
      obtain ⟨g5, hg5, e⟩ := zb_let e
      refine Wp.ias (pc1 := 51) rfl (zg_cells (s := r0) h0) rfl hk6 hg5 rfl ?_
      refine Wp.steps 1 (pc1 := 61) (lo1 := [some (.ref r0), some (.int x1), some (.int x2)]) (st1 := []) (h1 := mk g5) rfl ?_
      have e1 := zb_r1 e
      subst e1
      exact Wp.ret rfl rfl rfl (K _)
    · skip
      refine Wp.lsD (pc1 := 54) rfl (zls_2 (by decide) (by decide) hc1 hc4) rfl ?_
      refine Wp.steps 1 (pc1 := 55) (lo1 := [some (.ref r0), some (.int x1), some (.int x2)]) (st1 := [.ref r0]) (h1 := mk g) rfl ?_
      refine Wp.gf (pc1 := 58) (v := .ref (r0 + 1)) rfl h0 rfl rfl rfl ?_
      refine Wp.steps 2 (pc1 := 60) (lo1 := [some (.ref r0), some (.int x1), some (.int x2)]) (st1 := [.int x2, .int x1, .ref (r0 + 1)]) (h1 := mk g) rfl ?_
      obtain ⟨k8, hk8, e⟩ := zb_bind e
      obtain ⟨g7, hg7, e⟩ := zb_let e
      refine Wp.ias (pc1 := 61) rfl (zg_cells (s := r0) h0) rfl hk8 hg7 rfl ?_
      have e1 := zb_r1 e
      subst e1
      exact Wp.ret rfl rfl rfl (K _)
/-- EveningFirst.lay(III)I -/
def d_86 (x1 : Int32) (x2 : Int32) (x3 : Int32) (g : G) : Option (Int32 × G) :=
  zb_l (d_93 x1) fun v1 =>
  bif v1 then (
    some ((-1), g)) else
  Option.bind (zm_ix x1 4) fun k3 =>
  zb_l (d_49 (105 + 2 * k3) x2 g) fun v4 =>
  bif zm_cmp .eq v4 0 then (
    Option.bind (zm_ix x1 4) fun k6 =>
    Option.bind (d_51 (105 + 2 * k6) x2 x3 g) fun g7 =>
    some (1, g7)) else
  some (((-10) - v4), g)
set_option maxRecDepth 100000 in
set_option maxHeartbeats 4000000 in
theorem w_86 {sc : Option (List Int32)} {d : Nat} (x1 : Int32) (x2 : Int32) (x3 : Int32) (g : G) {r : Int32} {g' : G} (e : d_86 x1 x2 x3 g = some (r, g')) : zB sc (d + 2) 86 0 (zm_ent (z_L 86) [.ref 0, .int x1, .int x2, .int x3]) [] (mk g) [.int r] (mk g') := by
  unfold d_86 at e
  intro Q K
  show Wp sc (d + 2) 86 0 [some (.ref 0), some (.int x1), some (.int x2), some (.int x3), none] [] (mk g) Q
  refine Wp.steps 1 (pc1 := 1) (lo1 := [some (.ref 0), some (.int x1), some (.int x2), some (.int x3), none]) (st1 := [.int x1]) (h1 := mk g) rfl ?_
  obtain ⟨v1, hvv1, e⟩ := zb_let e
  refine Wp.ca (m := 93) (d1 := d + 1) (as := [.int x1]) (rest := []) (st1 := [.int (zb_i v1)]) (pc1 := 4) rfl rfl rfl rfl rfl rfl rfl rfl rfl rfl rfl rfl (w_93 (sc := sc) (d := d + 1) x1 g hvv1) ?_
  rcases zb_if e with ⟨hc2, e⟩ | ⟨hc2, e⟩
  · skip
    refine Wp.iF (pc1 := 7) rfl (zb_eqF hc2) rfl ?_
    refine Wp.steps 1 (pc1 := 8) (lo1 := [some (.ref 0), some (.int x1), some (.int x2), some (.int x3), none]) (st1 := [.int (-1)]) (h1 := mk g) rfl ?_
    obtain ⟨e1, e2⟩ := zb_r2 e
    subst e1
    subst e2
    exact Wp.ret rfl rfl rfl (K _)
  · skip
    refine Wp.iT (pc1 := 9) rfl (zb_eqT hc2) rfl ?_
    refine Wp.steps 1 (pc1 := 10) (lo1 := [some (.ref 0), some (.int x1), some (.int x2), some (.int x3), none]) (st1 := [.ref 0]) (h1 := mk g) rfl ?_
    refine Wp.gf (pc1 := 13) (v := .ref 104) rfl rfl rfl rfl rfl ?_
    refine Wp.steps 1 (pc1 := 14) (lo1 := [some (.ref 0), some (.int x1), some (.int x2), some (.int x3), none]) (st1 := [.int x1, .ref 104]) (h1 := mk g) rfl ?_
    obtain ⟨k3, hk3, e⟩ := zb_bind e
    refine Wp.aa (pc1 := 15) (v := (105 + 2 * k3)) rfl rfl rfl hk3 (by omega) rfl ?_
    refine Wp.steps 1 (pc1 := 16) (lo1 := [some (.ref 0), some (.int x1), some (.int x2), some (.int x3), none]) (st1 := [.int x2, .ref (105 + 2 * k3)]) (h1 := mk g) rfl ?_
    obtain ⟨v4, hvv4, e⟩ := zb_let e
    refine Wp.ca (m := 49) (d1 := d + 1) (as := [.ref (105 + 2 * k3), .int x2]) (rest := []) (st1 := [.int v4]) (pc1 := 19) rfl rfl rfl rfl rfl rfl rfl rfl (mk_rok (zg_sheet hk3) rfl rfl rfl) rfl rfl rfl (w_49 (sc := sc) (d := d) (105 + 2 * k3) x2 (zg_sheet hk3) g hvv4) ?_
    refine Wp.steps 2 (pc1 := 23) (lo1 := [some (.ref 0), some (.int x1), some (.int x2), some (.int x3), some (.int v4)]) (st1 := [.int v4]) (h1 := mk g) rfl ?_
    rcases zb_if e with ⟨hc5, e⟩ | ⟨hc5, e⟩
    · skip
      refine Wp.iT (pc1 := 32) rfl hc5 rfl ?_
      refine Wp.steps 1 (pc1 := 33) (lo1 := [some (.ref 0), some (.int x1), some (.int x2), some (.int x3), some (.int v4)]) (st1 := [.ref 0]) (h1 := mk g) rfl ?_
      refine Wp.gf (pc1 := 36) (v := .ref 104) rfl rfl rfl rfl rfl ?_
      refine Wp.steps 1 (pc1 := 37) (lo1 := [some (.ref 0), some (.int x1), some (.int x2), some (.int x3), some (.int v4)]) (st1 := [.int x1, .ref 104]) (h1 := mk g) rfl ?_
      obtain ⟨k6, hk6, e⟩ := zb_bind e
      refine Wp.aa (pc1 := 38) (v := (105 + 2 * k6)) rfl rfl rfl hk6 (by omega) rfl ?_
      refine Wp.steps 2 (pc1 := 40) (lo1 := [some (.ref 0), some (.int x1), some (.int x2), some (.int x3), some (.int v4)]) (st1 := [.int x3, .int x2, .ref (105 + 2 * k6)]) (h1 := mk g) rfl ?_
      obtain ⟨g7, hvg7, e⟩ := zb_bind e
      refine Wp.ca (m := 51) (d1 := d + 1) (as := [.ref (105 + 2 * k6), .int x2, .int x3]) (rest := []) (st1 := []) (pc1 := 43) rfl rfl rfl rfl rfl rfl rfl rfl (mk_rok (zg_sheet hk6) rfl rfl rfl) rfl rfl rfl (w_51 (sc := sc) (d := d + 1) (105 + 2 * k6) x2 x3 (zg_sheet hk6) g hvg7) ?_
      refine Wp.steps 1 (pc1 := 44) (lo1 := [some (.ref 0), some (.int x1), some (.int x2), some (.int x3), some (.int v4)]) (st1 := [.int 1]) (h1 := mk g7) rfl ?_
      obtain ⟨e1, e2⟩ := zb_r2 e
      subst e1
      subst e2
      exact Wp.ret rfl rfl rfl (K _)
    · skip
      refine Wp.iF (pc1 := 26) rfl hc5 rfl ?_
      refine Wp.steps 3 (pc1 := 31) (lo1 := [some (.ref 0), some (.int x1), some (.int x2), some (.int x3), some (.int v4)]) (st1 := [.int ((-10) - v4)]) (h1 := mk g) rfl ?_
      obtain ⟨e1, e2⟩ := zb_r2 e
      subst e1
      subst e2
      exact Wp.ret rfl rfl rfl (K _)
/-- EveningFirstModel.lay(III)I -/
def d_185 (x1 : Int32) (x2 : Int32) (x3 : Int32) (g : G) : Option (Int32 × G) :=
  zb_l (d_183 x1 0) fun v1 =>
  bif v1 then (
    Option.bind (zm_ix x1 4) fun k3 =>
    bif zm_cmp .ne (g 119 k3) (-4) then (
      Option.bind (zm_ix x1 4) fun k5 =>
      zb_l (d_107 (Int32.toInt64 x2) 0 (Int32.toInt64 ((g 120 k5) - 1))) fun v6 =>
      bif v6 then (
        Option.bind (zm_ix x1 4) fun k8 =>
        bif zm_cmp .ne (g 119 k8) 0 then (
          Option.bind (zm_ix x1 4) fun k10 =>
          bif zm_cmp .ne (g 119 k10) 1 then (
            Option.bind (zm_ix ((40 * x1) + x2) 160) fun k13 =>
            zb_l (zg_up g 121 k13 x3) fun g12 =>
            some (1, g12)) else
          Option.bind (zm_ix ((40 * x1) + x2) 160) fun k15 =>
          zb_l (zg_up g 121 k15 ((Int32.toInt16 x3).toInt32)) fun g14 =>
          some (1, g14)) else
        Option.bind (zm_ix ((40 * x1) + x2) 160) fun k17 =>
        zb_l (zg_up g 121 k17 ((Int32.toInt8 x3).toInt32)) fun g16 =>
        some (1, g16)) else
      some ((-12), g)) else
    some ((-11), g)) else
  some ((-1), g)
set_option maxRecDepth 100000 in
set_option maxHeartbeats 4000000 in
theorem w_185 {sc : Option (List Int32)} {d : Nat} (x1 : Int32) (x2 : Int32) (x3 : Int32) (g : G) {r : Int32} {g' : G} (e : d_185 x1 x2 x3 g = some (r, g')) : zB sc (d + 2) 185 0 (zm_ent (z_L 185) [.ref 113, .int x1, .int x2, .int x3]) [] (mk g) [.int r] (mk g') := by
  unfold d_185 at e
  intro Q K
  show Wp sc (d + 2) 185 0 [some (.ref 113), some (.int x1), some (.int x2), some (.int x3)] [] (mk g) Q
  refine Wp.steps 2 (pc1 := 2) (lo1 := [some (.ref 113), some (.int x1), some (.int x2), some (.int x3)]) (st1 := [.int 0, .int x1]) (h1 := mk g) rfl ?_
  obtain ⟨v1, hvv1, e⟩ := zb_let e
  refine Wp.ca (m := 183) (d1 := d + 1) (as := [.int x1, .int 0]) (rest := []) (st1 := [.int (zb_i v1)]) (pc1 := 5) rfl rfl rfl rfl rfl rfl rfl rfl rfl rfl rfl rfl (w_183 (sc := sc) (d := d) x1 0 g hvv1) ?_
  rcases zb_if e with ⟨hc2, e⟩ | ⟨hc2, e⟩
  · skip
    refine Wp.iT (pc1 := 10) rfl (zb_neT hc2) rfl ?_
    refine Wp.steps 1 (pc1 := 11) (lo1 := [some (.ref 113), some (.int x1), some (.int x2), some (.int x3)]) (st1 := [.ref 113]) (h1 := mk g) rfl ?_
    refine Wp.gf (pc1 := 14) (v := .ref 119) rfl rfl rfl rfl rfl ?_
    refine Wp.steps 1 (pc1 := 15) (lo1 := [some (.ref 113), some (.int x1), some (.int x2), some (.int x3)]) (st1 := [.int x1, .ref 119]) (h1 := mk g) rfl ?_
    obtain ⟨k3, hk3, e⟩ := zb_bind e
    refine Wp.ia (pc1 := 16) rfl rfl rfl hk3 rfl ?_
    refine Wp.steps 1 (pc1 := 18) (lo1 := [some (.ref 113), some (.int x1), some (.int x2), some (.int x3)]) (st1 := [.int (-4), .int (g 119 k3)]) (h1 := mk g) rfl ?_
    rcases zb_if e with ⟨hc4, e⟩ | ⟨hc4, e⟩
    · skip
      refine Wp.cT (pc1 := 24) rfl hc4 rfl ?_
      refine Wp.steps 4 (pc1 := 28) (lo1 := [some (.ref 113), some (.int x1), some (.int x2), some (.int x3)]) (st1 := [.ref 113, .long 0, .long (Int32.toInt64 x2)]) (h1 := mk g) rfl ?_
      refine Wp.gf (pc1 := 31) (v := .ref 120) rfl rfl rfl rfl rfl ?_
      refine Wp.steps 1 (pc1 := 32) (lo1 := [some (.ref 113), some (.int x1), some (.int x2), some (.int x3)]) (st1 := [.int x1, .ref 120, .long 0, .long (Int32.toInt64 x2)]) (h1 := mk g) rfl ?_
      obtain ⟨k5, hk5, e⟩ := zb_bind e
      refine Wp.ia (pc1 := 33) rfl rfl rfl hk5 rfl ?_
      refine Wp.steps 3 (pc1 := 36) (lo1 := [some (.ref 113), some (.int x1), some (.int x2), some (.int x3)]) (st1 := [.long (Int32.toInt64 ((g 120 k5) - 1)), .long 0, .long (Int32.toInt64 x2)]) (h1 := mk g) rfl ?_
      obtain ⟨v6, hvv6, e⟩ := zb_let e
      refine Wp.ca (m := 107) (d1 := d + 1) (as := [.long (Int32.toInt64 x2), .long 0, .long (Int32.toInt64 ((g 120 k5) - 1))]) (rest := []) (st1 := [.int (zb_i v6)]) (pc1 := 39) rfl rfl rfl rfl rfl rfl rfl rfl rfl rfl rfl rfl (w_107 (sc := sc) (d := d + 1) (Int32.toInt64 x2) 0 (Int32.toInt64 ((g 120 k5) - 1)) g hvv6) ?_
      rcases zb_if e with ⟨hc7, e⟩ | ⟨hc7, e⟩
      · skip
        refine Wp.iT (pc1 := 45) rfl (zb_neT hc7) rfl ?_
        refine Wp.steps 1 (pc1 := 46) (lo1 := [some (.ref 113), some (.int x1), some (.int x2), some (.int x3)]) (st1 := [.ref 113]) (h1 := mk g) rfl ?_
        refine Wp.gf (pc1 := 49) (v := .ref 121) rfl rfl rfl rfl rfl ?_
        refine Wp.steps 6 (pc1 := 56) (lo1 := [some (.ref 113), some (.int x1), some (.int x2), some (.int x3)]) (st1 := [.ref 113, .int ((40 * x1) + x2), .ref 121]) (h1 := mk g) rfl ?_
        refine Wp.gf (pc1 := 59) (v := .ref 119) rfl rfl rfl rfl rfl ?_
        refine Wp.steps 1 (pc1 := 60) (lo1 := [some (.ref 113), some (.int x1), some (.int x2), some (.int x3)]) (st1 := [.int x1, .ref 119, .int ((40 * x1) + x2), .ref 121]) (h1 := mk g) rfl ?_
        obtain ⟨k8, hk8, e⟩ := zb_bind e
        refine Wp.ia (pc1 := 61) rfl rfl rfl hk8 rfl ?_
        rcases zb_if e with ⟨hc9, e⟩ | ⟨hc9, e⟩
        · skip
          refine Wp.iT (pc1 := 69) rfl hc9 rfl ?_
          refine Wp.steps 1 (pc1 := 70) (lo1 := [some (.ref 113), some (.int x1), some (.int x2), some (.int x3)]) (st1 := [.ref 113, .int ((40 * x1) + x2), .ref 121]) (h1 := mk g) rfl ?_
          refine Wp.gf (pc1 := 73) (v := .ref 119) rfl rfl rfl rfl rfl ?_
          refine Wp.steps 1 (pc1 := 74) (lo1 := [some (.ref 113), some (.int x1), some (.int x2), some (.int x3)]) (st1 := [.int x1, .ref 119, .int ((40 * x1) + x2), .ref 121]) (h1 := mk g) rfl ?_
          obtain ⟨k10, hk10, e⟩ := zb_bind e
          refine Wp.ia (pc1 := 75) rfl rfl rfl hk10 rfl ?_
          refine Wp.steps 1 (pc1 := 76) (lo1 := [some (.ref 113), some (.int x1), some (.int x2), some (.int x3)]) (st1 := [.int 1, .int (g 119 k10), .int ((40 * x1) + x2), .ref 121]) (h1 := mk g) rfl ?_
          rcases zb_if e with ⟨hc11, e⟩ | ⟨hc11, e⟩
          · skip
            refine Wp.cT (pc1 := 84) rfl hc11 rfl ?_
            refine Wp.steps 1 (pc1 := 85) (lo1 := [some (.ref 113), some (.int x1), some (.int x2), some (.int x3)]) (st1 := [.int x3, .int ((40 * x1) + x2), .ref 121]) (h1 := mk g) rfl ?_
            obtain ⟨k13, hk13, e⟩ := zb_bind e
            obtain ⟨g12, hg12, e⟩ := zb_let e
            refine Wp.ias (pc1 := 86) rfl rfl rfl hk13 hg12 rfl ?_
            refine Wp.steps 1 (pc1 := 87) (lo1 := [some (.ref 113), some (.int x1), some (.int x2), some (.int x3)]) (st1 := [.int 1]) (h1 := mk g12) rfl ?_
            obtain ⟨e1, e2⟩ := zb_r2 e
            subst e1
            subst e2
            exact Wp.ret rfl rfl rfl (K _)
          · skip
            refine Wp.cF (pc1 := 79) rfl hc11 rfl ?_
            refine Wp.steps 3 (pc1 := 85) (lo1 := [some (.ref 113), some (.int x1), some (.int x2), some (.int x3)]) (st1 := [.int ((Int32.toInt16 x3).toInt32), .int ((40 * x1) + x2), .ref 121]) (h1 := mk g) rfl ?_
            obtain ⟨k15, hk15, e⟩ := zb_bind e
            obtain ⟨g14, hg14, e⟩ := zb_let e
            refine Wp.ias (pc1 := 86) rfl rfl rfl hk15 hg14 rfl ?_
            refine Wp.steps 1 (pc1 := 87) (lo1 := [some (.ref 113), some (.int x1), some (.int x2), some (.int x3)]) (st1 := [.int 1]) (h1 := mk g14) rfl ?_
            obtain ⟨e1, e2⟩ := zb_r2 e
            subst e1
            subst e2
            exact Wp.ret rfl rfl rfl (K _)
        · skip
          refine Wp.iF (pc1 := 64) rfl hc9 rfl ?_
          refine Wp.steps 3 (pc1 := 85) (lo1 := [some (.ref 113), some (.int x1), some (.int x2), some (.int x3)]) (st1 := [.int ((Int32.toInt8 x3).toInt32), .int ((40 * x1) + x2), .ref 121]) (h1 := mk g) rfl ?_
          obtain ⟨k17, hk17, e⟩ := zb_bind e
          obtain ⟨g16, hg16, e⟩ := zb_let e
          refine Wp.ias (pc1 := 86) rfl rfl rfl hk17 hg16 rfl ?_
          refine Wp.steps 1 (pc1 := 87) (lo1 := [some (.ref 113), some (.int x1), some (.int x2), some (.int x3)]) (st1 := [.int 1]) (h1 := mk g16) rfl ?_
          obtain ⟨e1, e2⟩ := zb_r2 e
          subst e1
          subst e2
          exact Wp.ret rfl rfl rfl (K _)
      · skip
        refine Wp.iF (pc1 := 42) rfl (zb_neF hc7) rfl ?_
        refine Wp.steps 1 (pc1 := 44) (lo1 := [some (.ref 113), some (.int x1), some (.int x2), some (.int x3)]) (st1 := [.int (-12)]) (h1 := mk g) rfl ?_
        obtain ⟨e1, e2⟩ := zb_r2 e
        subst e1
        subst e2
        exact Wp.ret rfl rfl rfl (K _)
    · skip
      refine Wp.cF (pc1 := 21) rfl hc4 rfl ?_
      refine Wp.steps 1 (pc1 := 23) (lo1 := [some (.ref 113), some (.int x1), some (.int x2), some (.int x3)]) (st1 := [.int (-11)]) (h1 := mk g) rfl ?_
      obtain ⟨e1, e2⟩ := zb_r2 e
      subst e1
      subst e2
      exact Wp.ret rfl rfl rfl (K _)
  · skip
    refine Wp.iF (pc1 := 8) rfl (zb_neF hc2) rfl ?_
    refine Wp.steps 1 (pc1 := 9) (lo1 := [some (.ref 113), some (.int x1), some (.int x2), some (.int x3)]) (st1 := [.int (-1)]) (h1 := mk g) rfl ?_
    obtain ⟨e1, e2⟩ := zb_r2 e
    subst e1
    subst e2
    exact Wp.ret rfl rfl rfl (K _)
/-- EveningFirst$Sheet.faultOfLane(I)I -/
def d_48 (r0 : Nat) (x1 : Int32) (g : G) : Int32 :=
  zb_l (d_46 r0 g) fun v1 =>
  bif v1 then (
    0) else
  bif zm_cmp .ne (g r0 2) x1 then (
    3) else
  0
set_option maxRecDepth 100000 in
set_option maxHeartbeats 4000000 in
theorem w_48 {sc : Option (List Int32)} {d : Nat} (r0 : Nat) (x1 : Int32) (h0 : zg_cl r0 = 5) (g : G) {r : Int32} (e : d_48 r0 x1 g = r) : zB sc (d + 1) 48 0 (zm_ent (z_L 48) [.ref r0, .int x1]) [] (mk g) [.int r] (mk g) := by
  unfold d_48 at e
  intro Q K
  show Wp sc (d + 1) 48 0 [some (.ref r0), some (.int x1)] [] (mk g) Q
  refine Wp.steps 1 (pc1 := 1) (lo1 := [some (.ref r0), some (.int x1)]) (st1 := [.ref r0]) (h1 := mk g) rfl ?_
  obtain ⟨v1, hvv1, e⟩ := zb_let e
  refine Wp.ca (m := 46) (d1 := d) (as := [.ref r0]) (rest := []) (st1 := [.int (zb_i v1)]) (pc1 := 4) rfl rfl rfl rfl rfl rfl rfl rfl (mk_rok h0 rfl rfl rfl) rfl rfl rfl (w_46 (sc := sc) (d := d) r0 h0 g hvv1) ?_
  rcases zb_if e with ⟨hc2, e⟩ | ⟨hc2, e⟩
  · skip
    refine Wp.iT (pc1 := 15) rfl (zb_neT hc2) rfl ?_
    refine Wp.steps 2 (pc1 := 20) (lo1 := [some (.ref r0), some (.int x1)]) (st1 := [.int 0]) (h1 := mk g) rfl ?_
    have e1 := e
    subst e1
    exact Wp.ret rfl rfl rfl (K _)
  · skip
    refine Wp.iF (pc1 := 7) rfl (zb_neF hc2) rfl ?_
    refine Wp.steps 1 (pc1 := 8) (lo1 := [some (.ref r0), some (.int x1)]) (st1 := [.ref r0]) (h1 := mk g) rfl ?_
    refine Wp.gf (pc1 := 11) (v := .int (g r0 2)) rfl h0 rfl rfl rfl ?_
    refine Wp.steps 1 (pc1 := 12) (lo1 := [some (.ref r0), some (.int x1)]) (st1 := [.int x1, .int (g r0 2)]) (h1 := mk g) rfl ?_
    rcases zb_if e with ⟨hc3, e⟩ | ⟨hc3, e⟩
    · skip
      refine Wp.cT (pc1 := 19) rfl hc3 rfl ?_
      refine Wp.steps 1 (pc1 := 20) (lo1 := [some (.ref r0), some (.int x1)]) (st1 := [.int 3]) (h1 := mk g) rfl ?_
      have e1 := e
      subst e1
      exact Wp.ret rfl rfl rfl (K _)
    · skip
      refine Wp.cF (pc1 := 15) rfl hc3 rfl ?_
      refine Wp.steps 2 (pc1 := 20) (lo1 := [some (.ref r0), some (.int x1)]) (st1 := [.int 0]) (h1 := mk g) rfl ?_
      have e1 := e
      subst e1
      exact Wp.ret rfl rfl rfl (K _)
/-- EveningFirst$Sheet.faultOfPair(I)I -/
def d_50 (r0 : Nat) (x1 : Int32) (g : G) : Int32 :=
  zb_l (d_49 r0 x1 g) fun v1 =>
  bif zm_cmp .eq v1 0 then (
    zb_l (d_49 r0 (x1 + 1) g) fun v3 =>
    v3) else
  v1
set_option maxRecDepth 100000 in
set_option maxHeartbeats 4000000 in
theorem w_50 {sc : Option (List Int32)} {d : Nat} (r0 : Nat) (x1 : Int32) (h0 : zg_cl r0 = 5) (g : G) {r : Int32} (e : d_50 r0 x1 g = r) : zB sc (d + 2) 50 0 (zm_ent (z_L 50) [.ref r0, .int x1]) [] (mk g) [.int r] (mk g) := by
  unfold d_50 at e
  intro Q K
  show Wp sc (d + 2) 50 0 [some (.ref r0), some (.int x1), none] [] (mk g) Q
  refine Wp.steps 2 (pc1 := 2) (lo1 := [some (.ref r0), some (.int x1), none]) (st1 := [.int x1, .ref r0]) (h1 := mk g) rfl ?_
  obtain ⟨v1, hvv1, e⟩ := zb_let e
  refine Wp.ca (m := 49) (d1 := d + 1) (as := [.ref r0, .int x1]) (rest := []) (st1 := [.int v1]) (pc1 := 5) rfl rfl rfl rfl rfl rfl rfl rfl (mk_rok h0 rfl rfl rfl) rfl rfl rfl (w_49 (sc := sc) (d := d) r0 x1 h0 g hvv1) ?_
  refine Wp.steps 2 (pc1 := 7) (lo1 := [some (.ref r0), some (.int x1), some (.int v1)]) (st1 := [.int v1]) (h1 := mk g) rfl ?_
  rcases zb_if e with ⟨hc2, e⟩ | ⟨hc2, e⟩
  · skip
    refine Wp.iT (pc1 := 14) rfl hc2 rfl ?_
    refine Wp.steps 4 (pc1 := 18) (lo1 := [some (.ref r0), some (.int x1), some (.int v1)]) (st1 := [.int (x1 + 1), .ref r0]) (h1 := mk g) rfl ?_
    obtain ⟨v3, hvv3, e⟩ := zb_let e
    refine Wp.ca (m := 49) (d1 := d + 1) (as := [.ref r0, .int (x1 + 1)]) (rest := []) (st1 := [.int v3]) (pc1 := 21) rfl rfl rfl rfl rfl rfl rfl rfl (mk_rok h0 rfl rfl rfl) rfl rfl rfl (w_49 (sc := sc) (d := d) r0 (x1 + 1) h0 g hvv3) ?_
    have e1 := e
    subst e1
    exact Wp.ret rfl rfl rfl (K _)
  · skip
    refine Wp.iF (pc1 := 10) rfl hc2 rfl ?_
    refine Wp.steps 2 (pc1 := 21) (lo1 := [some (.ref r0), some (.int x1), some (.int v1)]) (st1 := [.int v1]) (h1 := mk g) rfl ?_
    have e1 := e
    subst e1
    exact Wp.ret rfl rfl rfl (K _)
def d_87_130 (x3 : Int32) (r5 : Nat) (x6 : Int32) (x7 : Int32) : Nat → Int32 → G → Option (Int32 × G)
  | 0, _, _ => none
  | f + 1, x8, g =>
    bif zm_cmp .ge x8 x7 then (
      zb_l (zg_up g 0 7 x6) fun g11 =>
      some (x7, g11)) else
    Option.bind (zm_ix (x3 + (2 * x8)) 40) fun k12 =>
    Option.bind (zm_ix (g (r5 + 1) k12) 8) fun k13 =>
    Option.bind (zm_ix ((x3 + (2 * x8)) + 1) 40) fun k14 =>
    zb_l (zg_up g (9 + k13) 5 (g (r5 + 1) k14)) fun g15 =>
    d_87_130 x3 r5 x6 x7 f (x8 + 1) g15
set_option maxRecDepth 100000 in
set_option maxHeartbeats 4000000 in
theorem w_87_130 {sc : Option (List Int32)} {d : Nat} (x3 : Int32) (r5 : Nat) (x6 : Int32) (x7 : Int32) (h5 : zg_cl r5 = 5) : ∀ (f : Nat) (x8 : Int32) (g : G) (r : Int32) (g' : G), d_87_130 x3 r5 x6 x7 f x8 g = some (r, g') → zB sc (d + 3) 87 130 [some (.ref 0), none, none, some (.int x3), none, some (.ref r5), some (.int x6), some (.int x7), some (.int x8), none] [] (mk g) [.int r] (mk g') := by
  intro f
  induction f with
  | zero =>
    intro x8 g r g' e
    rw [d_87_130.eq_1] at e
    cases e
  | succ f ih =>
    intro x8 g r g' e
    rw [d_87_130.eq_2] at e
    intro Q K
    refine Wp.steps 2 (pc1 := 134) (lo1 := [some (.ref 0), none, none, some (.int x3), none, some (.ref r5), some (.int x6), some (.int x7), some (.int x8), none]) (st1 := [.int x7, .int x8]) (h1 := mk g) rfl ?_
    rcases zb_if e with ⟨hc10, e⟩ | ⟨hc10, e⟩
    · skip
      refine Wp.cT (pc1 := 180) rfl hc10 rfl ?_
      refine Wp.steps 2 (pc1 := 183) (lo1 := [some (.ref 0), none, none, some (.int x3), none, some (.ref r5), some (.int x6), some (.int x7), some (.int x8), none]) (st1 := [.int x6, .ref 0]) (h1 := mk g) rfl ?_
      obtain ⟨g11, hg11, e⟩ := zb_let e
      refine Wp.pf (pc1 := 186) rfl rfl rfl rfl rfl rfl hg11 rfl ?_
      refine Wp.steps 1 (pc1 := 188) (lo1 := [some (.ref 0), none, none, some (.int x3), none, some (.ref r5), some (.int x6), some (.int x7), some (.int x8), none]) (st1 := [.int x7]) (h1 := mk g11) rfl ?_
      obtain ⟨e1, e2⟩ := zb_r2 e
      subst e1
      subst e2
      exact Wp.ret rfl rfl rfl (K _)
    · skip
      refine Wp.cF (pc1 := 137) rfl hc10 rfl ?_
      refine Wp.steps 7 (pc1 := 146) (lo1 := [some (.ref 0), none, none, some (.int x3), none, some (.ref r5), some (.int x6), some (.int x7), some (.int x8), some (.int (x3 + (2 * x8)))]) (st1 := [.ref 0]) (h1 := mk g) rfl ?_
      refine Wp.gf (pc1 := 149) (v := .ref 1) rfl rfl rfl rfl rfl ?_
      refine Wp.gf (pc1 := 152) (v := .ref 3) rfl rfl rfl rfl rfl ?_
      refine Wp.steps 1 (pc1 := 154) (lo1 := [some (.ref 0), none, none, some (.int x3), none, some (.ref r5), some (.int x6), some (.int x7), some (.int x8), some (.int (x3 + (2 * x8)))]) (st1 := [.ref r5, .ref 3]) (h1 := mk g) rfl ?_
      refine Wp.gf (pc1 := 157) (v := .ref (r5 + 1)) rfl h5 rfl rfl rfl ?_
      refine Wp.steps 1 (pc1 := 159) (lo1 := [some (.ref 0), none, none, some (.int x3), none, some (.ref r5), some (.int x6), some (.int x7), some (.int x8), some (.int (x3 + (2 * x8)))]) (st1 := [.int (x3 + (2 * x8)), .ref (r5 + 1), .ref 3]) (h1 := mk g) rfl ?_
      obtain ⟨k12, hk12, e⟩ := zb_bind e
      refine Wp.ia (pc1 := 160) rfl (zg_cells (s := r5) h5) rfl hk12 rfl ?_
      obtain ⟨k13, hk13, e⟩ := zb_bind e
      refine Wp.aa (pc1 := 161) (v := (9 + k13)) rfl (zg_rdeeds (b := 1) rfl) rfl hk13 (by omega) rfl ?_
      refine Wp.steps 1 (pc1 := 163) (lo1 := [some (.ref 0), none, none, some (.int x3), none, some (.ref r5), some (.int x6), some (.int x7), some (.int x8), some (.int (x3 + (2 * x8)))]) (st1 := [.ref r5, .ref (9 + k13)]) (h1 := mk g) rfl ?_
      refine Wp.gf (pc1 := 166) (v := .ref (r5 + 1)) rfl h5 rfl rfl rfl ?_
      refine Wp.steps 3 (pc1 := 170) (lo1 := [some (.ref 0), none, none, some (.int x3), none, some (.ref r5), some (.int x6), some (.int x7), some (.int x8), some (.int (x3 + (2 * x8)))]) (st1 := [.int ((x3 + (2 * x8)) + 1), .ref (r5 + 1), .ref (9 + k13)]) (h1 := mk g) rfl ?_
      obtain ⟨k14, hk14, e⟩ := zb_bind e
      refine Wp.ia (pc1 := 171) rfl (zg_cells (s := r5) h5) rfl hk14 rfl ?_
      obtain ⟨g15, hg15, e⟩ := zb_let e
      refine Wp.pf (pc1 := 174) rfl (zg_deed (b := 1) rfl hk13) rfl rfl rfl rfl hg15 rfl ?_
      refine Wp.steps 2 (pc1 := 130) (lo1 := [some (.ref 0), none, none, some (.int x3), none, some (.ref r5), some (.int x6), some (.int x7), some (.int (x8 + 1)), some (.int (x3 + (2 * x8)))]) (st1 := []) (h1 := mk g15) rfl ?_
      refine Wp.fg [some (.ref 0), none, none, some (.int x3), none, some (.ref r5), some (.int x6), some (.int x7), some (.int (x8 + 1)), none] (zm_lle_s (zm_lle_n (zm_lle_n (zm_lle_s (zm_lle_n (zm_lle_s (zm_lle_s (zm_lle_s (zm_lle_s (zm_lle_n zm_lle_0)))))))))) ?_
      exact ih _ _ _ _ e Q K
def d_87_50 (x3 : Int32) (x4 : Int32) (r5 : Nat) (g : G) : Nat → Int32 → Int32 → Int32 → Option (Int32 × G)
  | 0, _, _, _ => none
  | f + 1, x6, x7, x8 =>
    bif zm_cmp .ge x8 x4 then (
      d_87_130 x3 r5 x6 x7 300 0 g) else
    bif zm_cmp .ne x6 0 then (
      d_87_130 x3 r5 x6 x7 300 0 g) else
    zb_l (d_50 r5 (x3 + (2 * x8)) g) fun v17 =>
    bif zm_cmp .ne v17 0 then (
      d_87_50 x3 x4 r5 g f v17 x7 (x8 + 1)) else
    Option.bind (zm_ix (x3 + (2 * x8)) 40) fun k19 =>
    Option.bind (zm_ix ((x3 + (2 * x8)) + 1) 40) fun k20 =>
    zb_l (d_22 1 (g (r5 + 1) k19) (g (r5 + 1) k20) g) fun v21 =>
    bif v21 then (
      d_87_50 x3 x4 r5 g f v17 (x7 + 1) (x8 + 1)) else
    some (((-20) - x8), g)
set_option maxRecDepth 100000 in
set_option maxHeartbeats 4000000 in
theorem w_87_50 {sc : Option (List Int32)} {d : Nat} (x3 : Int32) (x4 : Int32) (r5 : Nat) (h5 : zg_cl r5 = 5) (g : G) : ∀ (f : Nat) (x6 : Int32) (x7 : Int32) (x8 : Int32) (r : Int32) (g' : G), d_87_50 x3 x4 r5 g f x6 x7 x8 = some (r, g') → zB sc (d + 3) 87 50 [some (.ref 0), none, none, some (.int x3), some (.int x4), some (.ref r5), some (.int x6), some (.int x7), some (.int x8), none] [] (mk g) [.int r] (mk g') := by
  intro f
  induction f with
  | zero =>
    intro x6 x7 x8 r g' e
    rw [d_87_50.eq_1] at e
    cases e
  | succ f ih =>
    intro x6 x7 x8 r g' e
    rw [d_87_50.eq_2] at e
    intro Q K
    refine Wp.steps 2 (pc1 := 54) (lo1 := [some (.ref 0), none, none, some (.int x3), some (.int x4), some (.ref r5), some (.int x6), some (.int x7), some (.int x8), none]) (st1 := [.int x4, .int x8]) (h1 := mk g) rfl ?_
    rcases zb_if e with ⟨hc9, e⟩ | ⟨hc9, e⟩
    · skip
      refine Wp.cT (pc1 := 127) rfl hc9 rfl ?_
      refine Wp.steps 2 (pc1 := 130) (lo1 := [some (.ref 0), none, none, some (.int x3), some (.int x4), some (.ref r5), some (.int x6), some (.int x7), some (.int 0), none]) (st1 := []) (h1 := mk g) rfl ?_
      refine Wp.fg [some (.ref 0), none, none, some (.int x3), none, some (.ref r5), some (.int x6), some (.int x7), some (.int 0), none] (zm_lle_s (zm_lle_n (zm_lle_n (zm_lle_s (zm_lle_n (zm_lle_s (zm_lle_s (zm_lle_s (zm_lle_s (zm_lle_n zm_lle_0)))))))))) ?_
      exact w_87_130 (sc := sc) (d := d) x3 r5 x6 x7 h5 300 0 g _ _ e Q K
    · skip
      refine Wp.cF (pc1 := 57) rfl hc9 rfl ?_
      refine Wp.steps 1 (pc1 := 59) (lo1 := [some (.ref 0), none, none, some (.int x3), some (.int x4), some (.ref r5), some (.int x6), some (.int x7), some (.int x8), none]) (st1 := [.int x6]) (h1 := mk g) rfl ?_
      rcases zb_if e with ⟨hc16, e⟩ | ⟨hc16, e⟩
      · skip
        refine Wp.iT (pc1 := 127) rfl hc16 rfl ?_
        refine Wp.steps 2 (pc1 := 130) (lo1 := [some (.ref 0), none, none, some (.int x3), some (.int x4), some (.ref r5), some (.int x6), some (.int x7), some (.int 0), none]) (st1 := []) (h1 := mk g) rfl ?_
        refine Wp.fg [some (.ref 0), none, none, some (.int x3), none, some (.ref r5), some (.int x6), some (.int x7), some (.int 0), none] (zm_lle_s (zm_lle_n (zm_lle_n (zm_lle_s (zm_lle_n (zm_lle_s (zm_lle_s (zm_lle_s (zm_lle_s (zm_lle_n zm_lle_0)))))))))) ?_
        exact w_87_130 (sc := sc) (d := d) x3 r5 x6 x7 h5 300 0 g _ _ e Q K
      · skip
        refine Wp.iF (pc1 := 62) rfl hc16 rfl ?_
        refine Wp.steps 8 (pc1 := 74) (lo1 := [some (.ref 0), none, none, some (.int x3), some (.int x4), some (.ref r5), some (.int x6), some (.int x7), some (.int x8), some (.int (x3 + (2 * x8)))]) (st1 := [.int (x3 + (2 * x8)), .ref r5]) (h1 := mk g) rfl ?_
        obtain ⟨v17, hvv17, e⟩ := zb_let e
        refine Wp.ca (m := 50) (d1 := d + 2) (as := [.ref r5, .int (x3 + (2 * x8))]) (rest := []) (st1 := [.int v17]) (pc1 := 77) rfl rfl rfl rfl rfl rfl rfl rfl (mk_rok h5 rfl rfl rfl) rfl rfl rfl (w_50 (sc := sc) (d := d) r5 (x3 + (2 * x8)) h5 g hvv17) ?_
        refine Wp.steps 2 (pc1 := 81) (lo1 := [some (.ref 0), none, none, some (.int x3), some (.int x4), some (.ref r5), some (.int v17), some (.int x7), some (.int x8), some (.int (x3 + (2 * x8)))]) (st1 := [.int v17]) (h1 := mk g) rfl ?_
        rcases zb_if e with ⟨hc18, e⟩ | ⟨hc18, e⟩
        · skip
          refine Wp.iT (pc1 := 121) rfl hc18 rfl ?_
          refine Wp.steps 2 (pc1 := 50) (lo1 := [some (.ref 0), none, none, some (.int x3), some (.int x4), some (.ref r5), some (.int v17), some (.int x7), some (.int (x8 + 1)), some (.int (x3 + (2 * x8)))]) (st1 := []) (h1 := mk g) rfl ?_
          refine Wp.fg [some (.ref 0), none, none, some (.int x3), some (.int x4), some (.ref r5), some (.int v17), some (.int x7), some (.int (x8 + 1)), none] (zm_lle_s (zm_lle_n (zm_lle_n (zm_lle_s (zm_lle_s (zm_lle_s (zm_lle_s (zm_lle_s (zm_lle_s (zm_lle_n zm_lle_0)))))))))) ?_
          exact ih _ _ _ _ _ e Q K
        · skip
          refine Wp.iF (pc1 := 84) rfl hc18 rfl ?_
          refine Wp.steps 1 (pc1 := 85) (lo1 := [some (.ref 0), none, none, some (.int x3), some (.int x4), some (.ref r5), some (.int v17), some (.int x7), some (.int x8), some (.int (x3 + (2 * x8)))]) (st1 := [.ref 0]) (h1 := mk g) rfl ?_
          refine Wp.gf (pc1 := 88) (v := .ref 1) rfl rfl rfl rfl rfl ?_
          refine Wp.steps 1 (pc1 := 90) (lo1 := [some (.ref 0), none, none, some (.int x3), some (.int x4), some (.ref r5), some (.int v17), some (.int x7), some (.int x8), some (.int (x3 + (2 * x8)))]) (st1 := [.ref r5, .ref 1]) (h1 := mk g) rfl ?_
          refine Wp.gf (pc1 := 93) (v := .ref (r5 + 1)) rfl h5 rfl rfl rfl ?_
          refine Wp.steps 1 (pc1 := 95) (lo1 := [some (.ref 0), none, none, some (.int x3), some (.int x4), some (.ref r5), some (.int v17), some (.int x7), some (.int x8), some (.int (x3 + (2 * x8)))]) (st1 := [.int (x3 + (2 * x8)), .ref (r5 + 1), .ref 1]) (h1 := mk g) rfl ?_
          obtain ⟨k19, hk19, e⟩ := zb_bind e
          refine Wp.ia (pc1 := 96) rfl (zg_cells (s := r5) h5) rfl hk19 rfl ?_
          refine Wp.steps 1 (pc1 := 98) (lo1 := [some (.ref 0), none, none, some (.int x3), some (.int x4), some (.ref r5), some (.int v17), some (.int x7), some (.int x8), some (.int (x3 + (2 * x8)))]) (st1 := [.ref r5, .int (g (r5 + 1) k19), .ref 1]) (h1 := mk g) rfl ?_
          refine Wp.gf (pc1 := 101) (v := .ref (r5 + 1)) rfl h5 rfl rfl rfl ?_
          refine Wp.steps 3 (pc1 := 105) (lo1 := [some (.ref 0), none, none, some (.int x3), some (.int x4), some (.ref r5), some (.int v17), some (.int x7), some (.int x8), some (.int (x3 + (2 * x8)))]) (st1 := [.int ((x3 + (2 * x8)) + 1), .ref (r5 + 1), .int (g (r5 + 1) k19), .ref 1]) (h1 := mk g) rfl ?_
          obtain ⟨k20, hk20, e⟩ := zb_bind e
          refine Wp.ia (pc1 := 106) rfl (zg_cells (s := r5) h5) rfl hk20 rfl ?_
          obtain ⟨v21, hvv21, e⟩ := zb_let e
          refine Wp.ca (m := 22) (d1 := d + 2) (as := [.ref 1, .int (g (r5 + 1) k19), .int (g (r5 + 1) k20)]) (rest := []) (st1 := [.int (zb_i v21)]) (pc1 := 109) rfl rfl rfl rfl rfl rfl rfl rfl (mk_rok rfl rfl rfl rfl) rfl rfl rfl (w_22 (sc := sc) (d := d + 1) 1 (g (r5 + 1) k19) (g (r5 + 1) k20) rfl g hvv21) ?_
          rcases zb_if e with ⟨hc22, e⟩ | ⟨hc22, e⟩
          · skip
            refine Wp.iT (pc1 := 118) rfl (zb_neT hc22) rfl ?_
            refine Wp.steps 3 (pc1 := 50) (lo1 := [some (.ref 0), none, none, some (.int x3), some (.int x4), some (.ref r5), some (.int v17), some (.int (x7 + 1)), some (.int (x8 + 1)), some (.int (x3 + (2 * x8)))]) (st1 := []) (h1 := mk g) rfl ?_
            refine Wp.fg [some (.ref 0), none, none, some (.int x3), some (.int x4), some (.ref r5), some (.int v17), some (.int (x7 + 1)), some (.int (x8 + 1)), none] (zm_lle_s (zm_lle_n (zm_lle_n (zm_lle_s (zm_lle_s (zm_lle_s (zm_lle_s (zm_lle_s (zm_lle_s (zm_lle_n zm_lle_0)))))))))) ?_
            exact ih _ _ _ _ _ e Q K
          · skip
            refine Wp.iF (pc1 := 112) rfl (zb_neF hc22) rfl ?_
            refine Wp.steps 3 (pc1 := 117) (lo1 := [some (.ref 0), none, none, some (.int x3), some (.int x4), some (.ref r5), some (.int v17), some (.int x7), some (.int x8), some (.int (x3 + (2 * x8)))]) (st1 := [.int ((-20) - x8)]) (h1 := mk g) rfl ?_
            obtain ⟨e1, e2⟩ := zb_r2 e
            subst e1
            subst e2
            exact Wp.ret rfl rfl rfl (K _)
/-- EveningFirst.read(IIII)I -/
def d_87 (x1 : Int32) (x2 : Int32) (x3 : Int32) (x4 : Int32) (g : G) : Option (Int32 × G) :=
  zb_l (d_93 x1) fun v1 =>
  bif v1 then (
    some ((-1), g)) else
  zb_l (d_94 x2) fun v3 =>
  bif v3 then (
    some ((-1), g)) else
  bif zm_cmp .lt x4 0 then (
    some ((-1), g)) else
  bif zm_cmp .le x4 20 then (
    Option.bind (zm_ix x1 4) fun k7 =>
    zb_l (d_48 (105 + 2 * k7) x2 g) fun v8 =>
    d_87_50 x3 x4 (105 + 2 * k7) g 300 v8 0 0) else
  some ((-1), g)
set_option maxRecDepth 100000 in
set_option maxHeartbeats 4000000 in
theorem w_87 {sc : Option (List Int32)} {d : Nat} (x1 : Int32) (x2 : Int32) (x3 : Int32) (x4 : Int32) (g : G) {r : Int32} {g' : G} (e : d_87 x1 x2 x3 x4 g = some (r, g')) : zB sc (d + 3) 87 0 (zm_ent (z_L 87) [.ref 0, .int x1, .int x2, .int x3, .int x4]) [] (mk g) [.int r] (mk g') := by
  unfold d_87 at e
  intro Q K
  show Wp sc (d + 3) 87 0 [some (.ref 0), some (.int x1), some (.int x2), some (.int x3), some (.int x4), none, none, none, none, none] [] (mk g) Q
  refine Wp.steps 1 (pc1 := 1) (lo1 := [some (.ref 0), some (.int x1), some (.int x2), some (.int x3), some (.int x4), none, none, none, none, none]) (st1 := [.int x1]) (h1 := mk g) rfl ?_
  obtain ⟨v1, hvv1, e⟩ := zb_let e
  refine Wp.ca (m := 93) (d1 := d + 2) (as := [.int x1]) (rest := []) (st1 := [.int (zb_i v1)]) (pc1 := 4) rfl rfl rfl rfl rfl rfl rfl rfl rfl rfl rfl rfl (w_93 (sc := sc) (d := d + 2) x1 g hvv1) ?_
  rcases zb_if e with ⟨hc2, e⟩ | ⟨hc2, e⟩
  · skip
    refine Wp.iT (pc1 := 26) rfl (zb_neT hc2) rfl ?_
    refine Wp.steps 1 (pc1 := 27) (lo1 := [some (.ref 0), some (.int x1), some (.int x2), some (.int x3), some (.int x4), none, none, none, none, none]) (st1 := [.int (-1)]) (h1 := mk g) rfl ?_
    obtain ⟨e1, e2⟩ := zb_r2 e
    subst e1
    subst e2
    exact Wp.ret rfl rfl rfl (K _)
  · skip
    refine Wp.iF (pc1 := 7) rfl (zb_neF hc2) rfl ?_
    refine Wp.steps 1 (pc1 := 8) (lo1 := [some (.ref 0), some (.int x1), some (.int x2), some (.int x3), some (.int x4), none, none, none, none, none]) (st1 := [.int x2]) (h1 := mk g) rfl ?_
    obtain ⟨v3, hvv3, e⟩ := zb_let e
    refine Wp.ca (m := 94) (d1 := d + 2) (as := [.int x2]) (rest := []) (st1 := [.int (zb_i v3)]) (pc1 := 11) rfl rfl rfl rfl rfl rfl rfl rfl rfl rfl rfl rfl (w_94 (sc := sc) (d := d + 2) x2 g hvv3) ?_
    rcases zb_if e with ⟨hc4, e⟩ | ⟨hc4, e⟩
    · skip
      refine Wp.iT (pc1 := 26) rfl (zb_neT hc4) rfl ?_
      refine Wp.steps 1 (pc1 := 27) (lo1 := [some (.ref 0), some (.int x1), some (.int x2), some (.int x3), some (.int x4), none, none, none, none, none]) (st1 := [.int (-1)]) (h1 := mk g) rfl ?_
      obtain ⟨e1, e2⟩ := zb_r2 e
      subst e1
      subst e2
      exact Wp.ret rfl rfl rfl (K _)
    · skip
      refine Wp.iF (pc1 := 14) rfl (zb_neF hc4) rfl ?_
      refine Wp.steps 1 (pc1 := 16) (lo1 := [some (.ref 0), some (.int x1), some (.int x2), some (.int x3), some (.int x4), none, none, none, none, none]) (st1 := [.int x4]) (h1 := mk g) rfl ?_
      rcases zb_if e with ⟨hc5, e⟩ | ⟨hc5, e⟩
      · skip
        refine Wp.iT (pc1 := 26) rfl hc5 rfl ?_
        refine Wp.steps 1 (pc1 := 27) (lo1 := [some (.ref 0), some (.int x1), some (.int x2), some (.int x3), some (.int x4), none, none, none, none, none]) (st1 := [.int (-1)]) (h1 := mk g) rfl ?_
        obtain ⟨e1, e2⟩ := zb_r2 e
        subst e1
        subst e2
        exact Wp.ret rfl rfl rfl (K _)
      · skip
        refine Wp.iF (pc1 := 19) rfl hc5 rfl ?_
        refine Wp.steps 2 (pc1 := 23) (lo1 := [some (.ref 0), some (.int x1), some (.int x2), some (.int x3), some (.int x4), none, none, none, none, none]) (st1 := [.int 20, .int x4]) (h1 := mk g) rfl ?_
        rcases zb_if e with ⟨hc6, e⟩ | ⟨hc6, e⟩
        · skip
          refine Wp.cT (pc1 := 28) rfl hc6 rfl ?_
          refine Wp.steps 1 (pc1 := 29) (lo1 := [some (.ref 0), some (.int x1), some (.int x2), some (.int x3), some (.int x4), none, none, none, none, none]) (st1 := [.ref 0]) (h1 := mk g) rfl ?_
          refine Wp.gf (pc1 := 32) (v := .ref 104) rfl rfl rfl rfl rfl ?_
          refine Wp.steps 1 (pc1 := 33) (lo1 := [some (.ref 0), some (.int x1), some (.int x2), some (.int x3), some (.int x4), none, none, none, none, none]) (st1 := [.int x1, .ref 104]) (h1 := mk g) rfl ?_
          obtain ⟨k7, hk7, e⟩ := zb_bind e
          refine Wp.aa (pc1 := 34) (v := (105 + 2 * k7)) rfl rfl rfl hk7 (by omega) rfl ?_
          refine Wp.steps 3 (pc1 := 39) (lo1 := [some (.ref 0), some (.int x1), some (.int x2), some (.int x3), some (.int x4), some (.ref (105 + 2 * k7)), none, none, none, none]) (st1 := [.int x2, .ref (105 + 2 * k7)]) (h1 := mk g) rfl ?_
          obtain ⟨v8, hvv8, e⟩ := zb_let e
          refine Wp.ca (m := 48) (d1 := d + 2) (as := [.ref (105 + 2 * k7), .int x2]) (rest := []) (st1 := [.int v8]) (pc1 := 42) rfl rfl rfl rfl rfl rfl rfl rfl (mk_rok (zg_sheet hk7) rfl rfl rfl) rfl rfl rfl (w_48 (sc := sc) (d := d + 1) (105 + 2 * k7) x2 (zg_sheet hk7) g hvv8) ?_
          refine Wp.steps 5 (pc1 := 50) (lo1 := [some (.ref 0), some (.int x1), some (.int x2), some (.int x3), some (.int x4), some (.ref (105 + 2 * k7)), some (.int v8), some (.int 0), some (.int 0), none]) (st1 := []) (h1 := mk g) rfl ?_
          refine Wp.fg [some (.ref 0), none, none, some (.int x3), some (.int x4), some (.ref (105 + 2 * k7)), some (.int v8), some (.int 0), some (.int 0), none] (zm_lle_s (zm_lle_n (zm_lle_n (zm_lle_s (zm_lle_s (zm_lle_s (zm_lle_s (zm_lle_s (zm_lle_s (zm_lle_n zm_lle_0)))))))))) ?_
          exact w_87_50 (sc := sc) (d := d) x3 x4 (105 + 2 * k7) (zg_sheet hk7) g 300 v8 0 0 _ _ e Q K
        · skip
          refine Wp.cF (pc1 := 26) rfl hc6 rfl ?_
          refine Wp.steps 1 (pc1 := 27) (lo1 := [some (.ref 0), some (.int x1), some (.int x2), some (.int x3), some (.int x4), none, none, none, none, none]) (st1 := [.int (-1)]) (h1 := mk g) rfl ?_
          obtain ⟨e1, e2⟩ := zb_r2 e
          subst e1
          subst e2
          exact Wp.ret rfl rfl rfl (K _)
