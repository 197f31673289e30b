/-! printed by wip/tools/den.py -/
/-- EveningFirst.odds(I)J -/
def d_77 (x1 : Int32) (g : G) : Option (Int64 × G) :=
  zb_l (d_95 x1) fun v1 =>
  bif v1 then (
    some ((-1), g)) else
  zb_bp (d_102 (-1) 0 0 g) fun v3 g4 =>
  Option.bind (d_104 v3 x1 g4) fun v5 =>
  some (v5, g4)
set_option maxRecDepth 100000 in
set_option maxHeartbeats 4000000 in
theorem w_77 {sc : Option (List Int32)} {d : Nat} (x1 : Int32) (g : G) {r : Int64} {g' : G} (e : d_77 x1 g = some (r, g')) : zB sc (d + 5) 77 0 (zm_ent (z_L 77) [.ref 0, .int x1]) [] (mk g) [.long r] (mk g') := by
  unfold d_77 at e
  intro Q K
  show Wp sc (d + 5) 77 0 [some (.ref 0), some (.int x1)] [] (mk g) Q
  refine Wp.steps 1 (pc1 := 1) (lo1 := [some (.ref 0), some (.int x1)]) (st1 := [.int x1]) (h1 := mk g) rfl ?_
  obtain ⟨v1, hvv1, e⟩ := zb_let e
  refine Wp.ca (m := 95) (d1 := d + 4) (as := [.int x1]) (rest := []) (st1 := [.int (zb_i v1)]) (pc1 := 4) rfl rfl rfl rfl rfl rfl rfl rfl rfl rfl rfl rfl (w_95 (sc := sc) (d := d + 4) x1 g hvv1) ?_
  rcases zb_if e with ⟨hc2, e⟩ | ⟨hc2, e⟩
  · skip
    refine Wp.iF (pc1 := 7) rfl (zb_eqF hc2) rfl ?_
    refine Wp.steps 1 (pc1 := 10) (lo1 := [some (.ref 0), some (.int x1)]) (st1 := [.long (-1)]) (h1 := mk g) rfl ?_
    obtain ⟨e1, e2⟩ := zb_r2 e
    subst e1
    subst e2
    exact Wp.ret rfl rfl rfl (K _)
  · skip
    refine Wp.iT (pc1 := 11) rfl (zb_eqT hc2) rfl ?_
    refine Wp.steps 5 (pc1 := 16) (lo1 := [some (.ref 0), some (.int x1)]) (st1 := [.int 0, .int 0, .int (-1), .ref 0, .ref 0]) (h1 := mk g) rfl ?_
    obtain ⟨v3, g4, hvv3, e⟩ := zb_bpair e
    refine Wp.ca (m := 102) (d1 := d + 4) (as := [.ref 0, .int (-1), .int 0, .int 0]) (rest := [.ref 0]) (st1 := [.long v3, .ref 0]) (pc1 := 19) rfl rfl rfl rfl rfl rfl rfl rfl (mk_rok rfl rfl rfl rfl) rfl rfl rfl (w_102 (sc := sc) (d := d) (-1) 0 0 g hvv3) ?_
    refine Wp.steps 1 (pc1 := 20) (lo1 := [some (.ref 0), some (.int x1)]) (st1 := [.int x1, .long v3, .ref 0]) (h1 := mk g4) rfl ?_
    obtain ⟨v5, hvv5, e⟩ := zb_bind e
    refine Wp.ca (m := 104) (d1 := d + 4) (as := [.ref 0, .long v3, .int x1]) (rest := []) (st1 := [.long v5]) (pc1 := 23) rfl rfl rfl rfl rfl rfl rfl rfl (mk_rok rfl rfl rfl rfl) rfl rfl rfl (w_104 (sc := sc) (d := d + 3) v3 x1 g4 hvv5) ?_
    obtain ⟨e1, e2⟩ := zb_r2 e
    subst e1
    subst e2
    exact Wp.ret rfl rfl rfl (K _)
def d_171_58 (x1 : Int32) (x2 : Int64) (x4 : Int32) (s0 : Int64) (g : G) (k5 : Int64 → Int32 → Option Int64) : Option Int64 :=
  bif zm_cmp .ne ((x1 >>> (x4 &&& 31)) &&& 1) 1 then (
    k5 (x2 * (10 - s0)) (x4 + 1)) else
  k5 (x2 * s0) (x4 + 1)
set_option maxRecDepth 100000 in
set_option maxHeartbeats 4000000 in
theorem w_171_58 {sc : Option (List Int32)} {d : Nat} (x1 : Int32) (x2 : Int64) (x4 : Int32) (s0 : Int64) (g : G) (k5 : Int64 → Int32 → Option Int64) (hk5 : ∀ (x2 : Int64) (x4 : Int32) (r : Int64), k5 x2 x4 = some r → zB sc (d + 1) 171 5 [some (.ref 113), some (.int x1), some (.long x2), none, some (.int x4), none, none] [] (mk g) [.long r] (mk g)) (r : Int64) (e : d_171_58 x1 x2 x4 s0 g k5 = some r) : zB sc (d + 1) 171 58 [some (.ref 113), some (.int x1), some (.long x2), none, some (.int x4), none, none] [.long s0] (mk g) [.long r] (mk g) := by
  unfold d_171_58 at e
  intro Q K
  refine Wp.steps 8 (pc1 := 68) (lo1 := [some (.ref 113), some (.int x1), some (.long x2), none, some (.int x4), some (.long s0), none]) (st1 := [.int 1, .int ((x1 >>> (x4 &&& 31)) &&& 1), .long x2]) (h1 := mk g) rfl ?_
  rcases zb_if e with ⟨hc7, e⟩ | ⟨hc7, e⟩
  · skip
    refine Wp.cT (pc1 := 76) rfl hc7 rfl ?_
    refine Wp.steps 7 (pc1 := 5) (lo1 := [some (.ref 113), some (.int x1), some (.long (x2 * (10 - s0))), none, some (.int (x4 + 1)), some (.long s0), none]) (st1 := []) (h1 := mk g) rfl ?_
    refine Wp.fg [some (.ref 113), some (.int x1), some (.long (x2 * (10 - s0))), none, some (.int (x4 + 1)), none, none] (zm_lle_s (zm_lle_s (zm_lle_s (zm_lle_n (zm_lle_s (zm_lle_n (zm_lle_n zm_lle_0))))))) ?_
    exact hk5 _ _ _ e Q K
  · skip
    refine Wp.cF (pc1 := 71) rfl hc7 rfl ?_
    refine Wp.steps 6 (pc1 := 5) (lo1 := [some (.ref 113), some (.int x1), some (.long (x2 * s0)), none, some (.int (x4 + 1)), some (.long s0), none]) (st1 := []) (h1 := mk g) rfl ?_
    refine Wp.fg [some (.ref 113), some (.int x1), some (.long (x2 * s0)), none, some (.int (x4 + 1)), none, none] (zm_lle_s (zm_lle_s (zm_lle_s (zm_lle_n (zm_lle_s (zm_lle_n (zm_lle_n zm_lle_0))))))) ?_
    exact hk5 _ _ _ e Q K
def d_171_5 (x1 : Int32) (g : G) : Nat → Int64 → Int32 → Option Int64
  | 0, _, _ => none
  | f + 1, x2, x4 =>
    bif zm_cmp .ge x4 (g 114 8) then (
      some x2) else
    Option.bind (d_136 x4 5 g) fun v2 =>
    bif zm_cmp .ne v2 1 then (
      Option.bind (d_136 x4 5 g) fun v4 =>
      bif zm_cmp .ne v4 2 then (
        Option.bind (d_136 x4 6 g) fun v6 =>
        d_171_58 x1 x2 x4 (Int32.toInt64 v6) g (d_171_5 x1 g f)) else
      d_171_58 x1 x2 x4 0 g (d_171_5 x1 g f)) else
    d_171_58 x1 x2 x4 10 g (d_171_5 x1 g f)
set_option maxRecDepth 100000 in
set_option maxHeartbeats 4000000 in
theorem w_171_5 {sc : Option (List Int32)} {d : Nat} (x1 : Int32) (g : G) : ∀ (f : Nat) (x2 : Int64) (x4 : Int32) (r : Int64), d_171_5 x1 g f x2 x4 = some r → zB sc (d + 1) 171 5 [some (.ref 113), some (.int x1), some (.long x2), none, some (.int x4), none, none] [] (mk g) [.long r] (mk g) := by
  intro f
  induction f with
  | zero =>
    intro x2 x4 r e
    rw [d_171_5.eq_1] at e
    cases e
  | succ f ih =>
    intro x2 x4 r e
    rw [d_171_5.eq_2] at e
    intro Q K
    refine Wp.steps 2 (pc1 := 8) (lo1 := [some (.ref 113), some (.int x1), some (.long x2), none, some (.int x4), none, none]) (st1 := [.ref 113, .int x4]) (h1 := mk g) rfl ?_
    refine Wp.gf (pc1 := 11) (v := .ref 114) rfl rfl rfl rfl rfl ?_
    refine Wp.steps 1 (pc1 := 13) (lo1 := [some (.ref 113), some (.int x1), some (.long x2), none, some (.int x4), none, none]) (st1 := [.int 8, .ref 114, .int x4]) (h1 := mk g) rfl ?_
    refine Wp.ia (pc1 := 14) (k := 8) rfl rfl rfl rfl rfl ?_
    rcases zb_if e with ⟨hc1, e⟩ | ⟨hc1, e⟩
    · skip
      refine Wp.cT (pc1 := 90) rfl hc1 rfl ?_
      refine Wp.steps 1 (pc1 := 91) (lo1 := [some (.ref 113), some (.int x1), some (.long x2), none, some (.int x4), none, none]) (st1 := [.long x2]) (h1 := mk g) rfl ?_
      have e1 := zb_r1 e
      subst e1
      exact Wp.ret rfl rfl rfl (K _)
    · skip
      refine Wp.cF (pc1 := 17) rfl hc1 rfl ?_
      refine Wp.steps 3 (pc1 := 21) (lo1 := [some (.ref 113), some (.int x1), some (.long x2), none, some (.int x4), none, none]) (st1 := [.int 5, .int x4, .ref 113]) (h1 := mk g) rfl ?_
      obtain ⟨v2, hvv2, e⟩ := zb_bind e
      refine Wp.ca (m := 136) (d1 := d) (as := [.ref 113, .int x4, .int 5]) (rest := []) (st1 := [.int v2]) (pc1 := 24) rfl rfl rfl rfl rfl rfl rfl rfl (mk_rok rfl rfl rfl rfl) rfl rfl rfl (w_136 (sc := sc) (d := d) x4 5 g hvv2) ?_
      refine Wp.steps 1 (pc1 := 25) (lo1 := [some (.ref 113), some (.int x1), some (.long x2), none, some (.int x4), none, none]) (st1 := [.int 1, .int v2]) (h1 := mk g) rfl ?_
      rcases zb_if e with ⟨hc3, e⟩ | ⟨hc3, e⟩
      · skip
        refine Wp.cT (pc1 := 34) rfl hc3 rfl ?_
        refine Wp.steps 3 (pc1 := 38) (lo1 := [some (.ref 113), some (.int x1), some (.long x2), none, some (.int x4), none, none]) (st1 := [.int 5, .int x4, .ref 113]) (h1 := mk g) rfl ?_
        obtain ⟨v4, hvv4, e⟩ := zb_bind e
        refine Wp.ca (m := 136) (d1 := d) (as := [.ref 113, .int x4, .int 5]) (rest := []) (st1 := [.int v4]) (pc1 := 41) rfl rfl rfl rfl rfl rfl rfl rfl (mk_rok rfl rfl rfl rfl) rfl rfl rfl (w_136 (sc := sc) (d := d) x4 5 g hvv4) ?_
        refine Wp.steps 1 (pc1 := 42) (lo1 := [some (.ref 113), some (.int x1), some (.long x2), none, some (.int x4), none, none]) (st1 := [.int 2, .int v4]) (h1 := mk g) rfl ?_
        rcases zb_if e with ⟨hc5, e⟩ | ⟨hc5, e⟩
        · skip
          refine Wp.cT (pc1 := 49) rfl hc5 rfl ?_
          refine Wp.steps 3 (pc1 := 54) (lo1 := [some (.ref 113), some (.int x1), some (.long x2), none, some (.int x4), none, none]) (st1 := [.int 6, .int x4, .ref 113]) (h1 := mk g) rfl ?_
          obtain ⟨v6, hvv6, e⟩ := zb_bind e
          refine Wp.ca (m := 136) (d1 := d) (as := [.ref 113, .int x4, .int 6]) (rest := []) (st1 := [.int v6]) (pc1 := 57) rfl rfl rfl rfl rfl rfl rfl rfl (mk_rok rfl rfl rfl rfl) rfl rfl rfl (w_136 (sc := sc) (d := d) x4 6 g hvv6) ?_
          refine Wp.steps 1 (pc1 := 58) (lo1 := [some (.ref 113), some (.int x1), some (.long x2), none, some (.int x4), none, none]) (st1 := [.long (Int32.toInt64 v6)]) (h1 := mk g) rfl ?_
          exact w_171_58 (sc := sc) (d := d) x1 x2 x4 (Int32.toInt64 v6) g (d_171_5 x1 g f) ih _ e Q K
        · skip
          refine Wp.cF (pc1 := 45) rfl hc5 rfl ?_
          refine Wp.steps 2 (pc1 := 58) (lo1 := [some (.ref 113), some (.int x1), some (.long x2), none, some (.int x4), none, none]) (st1 := [.long 0]) (h1 := mk g) rfl ?_
          exact w_171_58 (sc := sc) (d := d) x1 x2 x4 0 g (d_171_5 x1 g f) ih _ e Q K
      · skip
        refine Wp.cF (pc1 := 28) rfl hc3 rfl ?_
        refine Wp.steps 2 (pc1 := 58) (lo1 := [some (.ref 113), some (.int x1), some (.long x2), none, some (.int x4), none, none]) (st1 := [.long 10]) (h1 := mk g) rfl ?_
        exact w_171_58 (sc := sc) (d := d) x1 x2 x4 10 g (d_171_5 x1 g f) ih _ e Q K
/-- EveningFirstModel.waysOf(I)J -/
def d_171 (x1 : Int32) (g : G) : Option Int64 :=
  d_171_5 x1 g 300 1 0
set_option maxRecDepth 100000 in
set_option maxHeartbeats 4000000 in
theorem w_171 {sc : Option (List Int32)} {d : Nat} (x1 : Int32) (g : G) {r : Int64} (e : d_171 x1 g = some r) : zB sc (d + 1) 171 0 (zm_ent (z_L 171) [.ref 113, .int x1]) [] (mk g) [.long r] (mk g) := by
  unfold d_171 at e
  intro Q K
  show Wp sc (d + 1) 171 0 [some (.ref 113), some (.int x1), none, none, none, none, none] [] (mk g) Q
  refine Wp.steps 4 (pc1 := 5) (lo1 := [some (.ref 113), some (.int x1), some (.long 1), none, some (.int 0), none, none]) (st1 := []) (h1 := mk g) rfl ?_
  exact w_171_5 (sc := sc) (d := d) x1 g 300 1 0 _ e Q K
def d_172_39 (x1 : Int64) (x3 : Int32) (x4 : Int64) (g : G) : Nat → Int64 → Int64 → Option Int64
  | 0, _, _ => none
  | f + 1, x6, x8 =>
    bif zm_cmp .eq (lg_cmp x8 0) 0 then (
      bif zm_cmp .ne x3 0 then (
        bif x6 == 0 then none else
        some (x4 / x6)) else
      bif x6 == 0 then none else
      some (x1 / x6)) else
    bif x8 == 0 then none else
    d_172_39 x1 x3 x4 g f x8 (x6 - x6 / x8 * x8)
set_option maxRecDepth 100000 in
set_option maxHeartbeats 4000000 in
theorem w_172_39 {sc : Option (List Int32)} {d : Nat} (x1 : Int64) (x3 : Int32) (x4 : Int64) (g : G) : ∀ (f : Nat) (x6 : Int64) (x8 : Int64) (r : Int64), d_172_39 x1 x3 x4 g f x6 x8 = some r → zB sc (d) 172 39 [none, some (.long x1), none, some (.int x3), some (.long x4), none, some (.long x6), none, some (.long x8), none, none, none] [] (mk g) [.long r] (mk g) := by
  intro f
  induction f with
  | zero =>
    intro x6 x8 r e
    rw [d_172_39.eq_1] at e
    cases e
  | succ f ih =>
    intro x6 x8 r e
    rw [d_172_39.eq_2] at e
    intro Q K
    refine Wp.steps 3 (pc1 := 43) (lo1 := [none, some (.long x1), none, some (.int x3), some (.long x4), none, some (.long x6), none, some (.long x8), none, none, none]) (st1 := [.int (lg_cmp x8 0)]) (h1 := mk g) rfl ?_
    rcases zb_if e with ⟨hc2, e⟩ | ⟨hc2, e⟩
    · skip
      refine Wp.iT (pc1 := 64) rfl hc2 rfl ?_
      refine Wp.steps 1 (pc1 := 65) (lo1 := [none, some (.long x1), none, some (.int x3), some (.long x4), none, some (.long x6), none, some (.long x8), none, none, none]) (st1 := [.int x3]) (h1 := mk g) rfl ?_
      rcases zb_if e with ⟨hc3, e⟩ | ⟨hc3, e⟩
      · skip
        refine Wp.iT (pc1 := 75) rfl hc3 rfl ?_
        refine Wp.steps 2 (pc1 := 79) (lo1 := [none, some (.long x1), none, some (.int x3), some (.long x4), none, some (.long x6), none, some (.long x8), none, none, none]) (st1 := [.long x6, .long x4]) (h1 := mk g) rfl ?_
        rcases zb_if e with ⟨hc4, e⟩ | ⟨hc4, e⟩
        · cases e
        · skip
          refine Wp.ldiv (pc1 := 80) rfl hc4 rfl ?_
          have e1 := zb_r1 e
          subst e1
          exact Wp.ret rfl rfl rfl (K _)
      · skip
        refine Wp.iF (pc1 := 68) rfl hc3 rfl ?_
        refine Wp.steps 2 (pc1 := 71) (lo1 := [none, some (.long x1), none, some (.int x3), some (.long x4), none, some (.long x6), none, some (.long x8), none, none, none]) (st1 := [.long x6, .long x1]) (h1 := mk g) rfl ?_
        rcases zb_if e with ⟨hc5, e⟩ | ⟨hc5, e⟩
        · cases e
        · skip
          refine Wp.ldiv (pc1 := 72) rfl hc5 rfl ?_
          refine Wp.steps 1 (pc1 := 80) (lo1 := [none, some (.long x1), none, some (.int x3), some (.long x4), none, some (.long x6), none, some (.long x8), none, none, none]) (st1 := [.long (x1 / x6)]) (h1 := mk g) rfl ?_
          have e1 := zb_r1 e
          subst e1
          exact Wp.ret rfl rfl rfl (K _)
    · skip
      refine Wp.iF (pc1 := 46) rfl hc2 rfl ?_
      refine Wp.steps 2 (pc1 := 50) (lo1 := [none, some (.long x1), none, some (.int x3), some (.long x4), none, some (.long x6), none, some (.long x8), none, none, none]) (st1 := [.long x8, .long x6]) (h1 := mk g) rfl ?_
      rcases zb_if e with ⟨hc6, e⟩ | ⟨hc6, e⟩
      · cases e
      · skip
        refine Wp.lrem (pc1 := 51) rfl hc6 rfl ?_
        refine Wp.steps 6 (pc1 := 39) (lo1 := [none, some (.long x1), none, some (.int x3), some (.long x4), none, some (.long x8), none, some (.long (x6 - x6 / x8 * x8)), none, some (.long (x6 - x6 / x8 * x8)), none]) (st1 := []) (h1 := mk g) rfl ?_
        refine Wp.fg [none, some (.long x1), none, some (.int x3), some (.long x4), none, some (.long x8), none, some (.long (x6 - x6 / x8 * x8)), none, none, none] (zm_lle_n (zm_lle_s (zm_lle_n (zm_lle_s (zm_lle_s (zm_lle_n (zm_lle_s (zm_lle_n (zm_lle_s (zm_lle_n (zm_lle_n (zm_lle_n zm_lle_0)))))))))))) ?_
        exact ih _ _ _ e Q K
def d_172_6 (x1 : Int64) (x3 : Int32) (g : G) : Nat → Int64 → Int32 → Option Int64
  | 0, _, _ => none
  | f + 1, x4, x6 =>
    bif zm_cmp .ge x6 (g 114 8) then (
      d_172_39 x1 x3 x4 g 300 x4 x1) else
    d_172_6 x1 x3 g f (x4 * 10) (x6 + 1)
set_option maxRecDepth 100000 in
set_option maxHeartbeats 4000000 in
theorem w_172_6 {sc : Option (List Int32)} {d : Nat} (x1 : Int64) (x3 : Int32) (g : G) : ∀ (f : Nat) (x4 : Int64) (x6 : Int32) (r : Int64), d_172_6 x1 x3 g f x4 x6 = some r → zB sc (d) 172 6 [some (.ref 113), some (.long x1), none, some (.int x3), some (.long x4), none, some (.int x6), none, none, none, none, none] [] (mk g) [.long r] (mk g) := by
  intro f
  induction f with
  | zero =>
    intro x4 x6 r e
    rw [d_172_6.eq_1] at e
    cases e
  | succ f ih =>
    intro x4 x6 r e
    rw [d_172_6.eq_2] at e
    intro Q K
    refine Wp.steps 2 (pc1 := 9) (lo1 := [some (.ref 113), some (.long x1), none, some (.int x3), some (.long x4), none, some (.int x6), none, none, none, none, none]) (st1 := [.ref 113, .int x6]) (h1 := mk g) rfl ?_
    refine Wp.gf (pc1 := 12) (v := .ref 114) rfl rfl rfl rfl rfl ?_
    refine Wp.steps 1 (pc1 := 14) (lo1 := [some (.ref 113), some (.long x1), none, some (.int x3), some (.long x4), none, some (.int x6), none, none, none, none, none]) (st1 := [.int 8, .ref 114, .int x6]) (h1 := mk g) rfl ?_
    refine Wp.ia (pc1 := 15) (k := 8) rfl rfl rfl rfl rfl ?_
    rcases zb_if e with ⟨hc1, e⟩ | ⟨hc1, e⟩
    · skip
      refine Wp.cT (pc1 := 32) rfl hc1 rfl ?_
      refine Wp.steps 4 (pc1 := 39) (lo1 := [some (.ref 113), some (.long x1), none, some (.int x3), some (.long x4), none, some (.long x4), none, some (.long x1), none, none, none]) (st1 := []) (h1 := mk g) rfl ?_
      refine Wp.fg [none, some (.long x1), none, some (.int x3), some (.long x4), none, some (.long x4), none, some (.long x1), none, none, none] (zm_lle_n (zm_lle_s (zm_lle_n (zm_lle_s (zm_lle_s (zm_lle_n (zm_lle_s (zm_lle_n (zm_lle_s (zm_lle_n (zm_lle_n (zm_lle_n zm_lle_0)))))))))))) ?_
      exact w_172_39 (sc := sc) (d := d) x1 x3 x4 g 300 x4 x1 _ e Q K
    · skip
      refine Wp.cF (pc1 := 18) rfl hc1 rfl ?_
      refine Wp.steps 6 (pc1 := 6) (lo1 := [some (.ref 113), some (.long x1), none, some (.int x3), some (.long (x4 * 10)), none, some (.int (x6 + 1)), none, none, none, none, none]) (st1 := []) (h1 := mk g) rfl ?_
      exact ih _ _ _ e Q K
/-- EveningFirstModel.told(JI)J -/
def d_172 (x1 : Int64) (x3 : Int32) (g : G) : Option Int64 :=
  d_172_6 x1 x3 g 300 1 0
set_option maxRecDepth 100000 in
set_option maxHeartbeats 4000000 in
theorem w_172 {sc : Option (List Int32)} {d : Nat} (x1 : Int64) (x3 : Int32) (g : G) {r : Int64} (e : d_172 x1 x3 g = some r) : zB sc (d) 172 0 (zm_ent (z_L 172) [.ref 113, .long x1, .int x3]) [] (mk g) [.long r] (mk g) := by
  unfold d_172 at e
  intro Q K
  show Wp sc (d) 172 0 [some (.ref 113), some (.long x1), none, some (.int x3), none, none, none, none, none, none, none, none] [] (mk g) Q
  refine Wp.steps 4 (pc1 := 6) (lo1 := [some (.ref 113), some (.long x1), none, some (.int x3), some (.long 1), none, some (.int 0), none, none, none, none, none]) (st1 := []) (h1 := mk g) rfl ?_
  exact w_172_6 (sc := sc) (d := d) x1 x3 g 300 1 0 _ e Q K
def d_173_19 (x1 : Int32) (g : G) : Nat → Int64 → Int32 → Option Int64
  | 0, _, _ => none
  | f + 1, x2, x4 =>
    zb_l (d_158 g) fun v3 =>
    bif zm_cmp .gt x4 v3 then (
      Option.bind (d_172 x2 x1 g) fun v5 =>
      some v5) else
    Option.bind (d_152 x4 g) fun v6 =>
    bif v6 then (
      Option.bind (d_171 x4 g) fun v8 =>
      d_173_19 x1 g f (x2 + v8) (x4 + 1)) else
    d_173_19 x1 g f (x2 + 0) (x4 + 1)
set_option maxRecDepth 100000 in
set_option maxHeartbeats 4000000 in
theorem w_173_19 {sc : Option (List Int32)} {d : Nat} (x1 : Int32) (g : G) : ∀ (f : Nat) (x2 : Int64) (x4 : Int32) (r : Int64), d_173_19 x1 g f x2 x4 = some r → zB sc (d + 4) 173 19 [some (.ref 113), some (.int x1), some (.long x2), none, some (.int x4)] [] (mk g) [.long r] (mk g) := by
  intro f
  induction f with
  | zero =>
    intro x2 x4 r e
    rw [d_173_19.eq_1] at e
    cases e
  | succ f ih =>
    intro x2 x4 r e
    rw [d_173_19.eq_2] at e
    intro Q K
    refine Wp.steps 2 (pc1 := 22) (lo1 := [some (.ref 113), some (.int x1), some (.long x2), none, some (.int x4)]) (st1 := [.ref 113, .int x4]) (h1 := mk g) rfl ?_
    obtain ⟨v3, hvv3, e⟩ := zb_let e
    refine Wp.ca (m := 158) (d1 := d + 3) (as := [.ref 113]) (rest := [.int x4]) (st1 := [.int v3, .int x4]) (pc1 := 25) rfl rfl rfl rfl rfl rfl rfl rfl (mk_rok rfl rfl rfl rfl) rfl rfl rfl (w_158 (sc := sc) (d := d + 3)  g hvv3) ?_
    rcases zb_if e with ⟨hc4, e⟩ | ⟨hc4, e⟩
    · skip
      refine Wp.cT (pc1 := 56) rfl hc4 rfl ?_
      refine Wp.steps 3 (pc1 := 59) (lo1 := [some (.ref 113), some (.int x1), some (.long x2), none, some (.int x4)]) (st1 := [.int x1, .long x2, .ref 113]) (h1 := mk g) rfl ?_
      obtain ⟨v5, hvv5, e⟩ := zb_bind e
      refine Wp.ca (m := 172) (d1 := d + 3) (as := [.ref 113, .long x2, .int x1]) (rest := []) (st1 := [.long v5]) (pc1 := 62) rfl rfl rfl rfl rfl rfl rfl rfl (mk_rok rfl rfl rfl rfl) rfl rfl rfl (w_172 (sc := sc) (d := d + 3) x2 x1 g hvv5) ?_
      have e1 := zb_r1 e
      subst e1
      exact Wp.ret rfl rfl rfl (K _)
    · skip
      refine Wp.cF (pc1 := 28) rfl hc4 rfl ?_
      refine Wp.steps 3 (pc1 := 32) (lo1 := [some (.ref 113), some (.int x1), some (.long x2), none, some (.int x4)]) (st1 := [.int x4, .ref 113, .long x2]) (h1 := mk g) rfl ?_
      obtain ⟨v6, hvv6, e⟩ := zb_bind e
      refine Wp.ca (m := 152) (d1 := d + 3) (as := [.ref 113, .int x4]) (rest := [.long x2]) (st1 := [.int (zb_i v6), .long x2]) (pc1 := 35) rfl rfl rfl rfl rfl rfl rfl rfl (mk_rok rfl rfl rfl rfl) rfl rfl rfl (w_152 (sc := sc) (d := d) x4 g hvv6) ?_
      rcases zb_if e with ⟨hc7, e⟩ | ⟨hc7, e⟩
      · skip
        refine Wp.iF (pc1 := 38) rfl (zb_eqF hc7) rfl ?_
        refine Wp.steps 2 (pc1 := 41) (lo1 := [some (.ref 113), some (.int x1), some (.long x2), none, some (.int x4)]) (st1 := [.int x4, .ref 113, .long x2]) (h1 := mk g) rfl ?_
        obtain ⟨v8, hvv8, e⟩ := zb_bind e
        refine Wp.ca (m := 171) (d1 := d + 3) (as := [.ref 113, .int x4]) (rest := [.long x2]) (st1 := [.long v8, .long x2]) (pc1 := 44) rfl rfl rfl rfl rfl rfl rfl rfl (mk_rok rfl rfl rfl rfl) rfl rfl rfl (w_171 (sc := sc) (d := d + 2) x4 g hvv8) ?_
        refine Wp.steps 5 (pc1 := 19) (lo1 := [some (.ref 113), some (.int x1), some (.long (x2 + v8)), none, some (.int (x4 + 1))]) (st1 := []) (h1 := mk g) rfl ?_
        exact ih _ _ _ e Q K
      · skip
        refine Wp.iT (pc1 := 47) rfl (zb_eqT hc7) rfl ?_
        refine Wp.steps 5 (pc1 := 19) (lo1 := [some (.ref 113), some (.int x1), some (.long (x2 + 0)), none, some (.int (x4 + 1))]) (st1 := []) (h1 := mk g) rfl ?_
        exact ih _ _ _ e Q K
/-- EveningFirstModel.odds(I)J -/
def d_173 (x1 : Int32) (g : G) : Option Int64 :=
  zb_l (d_107 (Int32.toInt64 x1) 0 1) fun v1 =>
  bif v1 then (
    d_173_19 x1 g 300 0 0) else
  some (-1)
set_option maxRecDepth 100000 in
set_option maxHeartbeats 4000000 in
theorem w_173 {sc : Option (List Int32)} {d : Nat} (x1 : Int32) (g : G) {r : Int64} (e : d_173 x1 g = some r) : zB sc (d + 4) 173 0 (zm_ent (z_L 173) [.ref 113, .int x1]) [] (mk g) [.long r] (mk g) := by
  unfold d_173 at e
  intro Q K
  show Wp sc (d + 4) 173 0 [some (.ref 113), some (.int x1), none, none, none] [] (mk g) Q
  refine Wp.steps 4 (pc1 := 4) (lo1 := [some (.ref 113), some (.int x1), none, none, none]) (st1 := [.long 1, .long 0, .long (Int32.toInt64 x1)]) (h1 := mk g) rfl ?_
  obtain ⟨v1, hvv1, e⟩ := zb_let e
  refine Wp.ca (m := 107) (d1 := d + 3) (as := [.long (Int32.toInt64 x1), .long 0, .long 1]) (rest := []) (st1 := [.int (zb_i v1)]) (pc1 := 7) rfl rfl rfl rfl rfl rfl rfl rfl rfl rfl rfl rfl (w_107 (sc := sc) (d := d + 3) (Int32.toInt64 x1) 0 1 g hvv1) ?_
  rcases zb_if e with ⟨hc2, e⟩ | ⟨hc2, e⟩
  · skip
    refine Wp.iT (pc1 := 14) rfl (zb_neT hc2) rfl ?_
    refine Wp.steps 4 (pc1 := 19) (lo1 := [some (.ref 113), some (.int x1), some (.long 0), none, some (.int 0)]) (st1 := []) (h1 := mk g) rfl ?_
    exact w_173_19 (sc := sc) (d := d) x1 g 300 0 0 _ e Q K
  · skip
    refine Wp.iF (pc1 := 10) rfl (zb_neF hc2) rfl ?_
    refine Wp.steps 1 (pc1 := 13) (lo1 := [some (.ref 113), some (.int x1), none, none, none]) (st1 := [.long (-1)]) (h1 := mk g) rfl ?_
    have e1 := zb_r1 e
    subst e1
    exact Wp.ret rfl rfl rfl (K _)
/-- EveningFirst.luck(IIII)J -/
def d_78 (x1 : Int32) (x2 : Int32) (x3 : Int32) (x4 : Int32) (g : G) : Option (Int64 × G) :=
  zb_l (d_96 x1 x2 x3 g) fun v1 =>
  bif v1 then (
    some ((-1), g)) else
  zb_l (d_95 x4) fun v3 =>
  bif v3 then (
    some ((-1), g)) else
  zb_bp (d_102 x1 x2 x3 g) fun v5 g6 =>
  Option.bind (d_104 v5 x4 g6) fun v7 =>
  some (v7, g6)
set_option maxRecDepth 100000 in
set_option maxHeartbeats 4000000 in
theorem w_78 {sc : Option (List Int32)} {d : Nat} (x1 : Int32) (x2 : Int32) (x3 : Int32) (x4 : Int32) (g : G) {r : Int64} {g' : G} (e : d_78 x1 x2 x3 x4 g = some (r, g')) : zB sc (d + 5) 78 0 (zm_ent (z_L 78) [.ref 0, .int x1, .int x2, .int x3, .int x4]) [] (mk g) [.long r] (mk g') := by
  unfold d_78 at e
  intro Q K
  show Wp sc (d + 5) 78 0 [some (.ref 0), some (.int x1), some (.int x2), some (.int x3), some (.int x4)] [] (mk g) Q
  refine Wp.steps 4 (pc1 := 4) (lo1 := [some (.ref 0), some (.int x1), some (.int x2), some (.int x3), some (.int x4)]) (st1 := [.int x3, .int x2, .int x1, .ref 0]) (h1 := mk g) rfl ?_
  obtain ⟨v1, hvv1, e⟩ := zb_let e
  refine Wp.ca (m := 96) (d1 := d + 4) (as := [.ref 0, .int x1, .int x2, .int x3]) (rest := []) (st1 := [.int (zb_i v1)]) (pc1 := 7) rfl rfl rfl rfl rfl rfl rfl rfl (mk_rok rfl rfl rfl rfl) rfl rfl rfl (w_96 (sc := sc) (d := d + 3) x1 x2 x3 g hvv1) ?_
  rcases zb_if e with ⟨hc2, e⟩ | ⟨hc2, e⟩
  · skip
    refine Wp.iT (pc1 := 18) rfl (zb_neT hc2) rfl ?_
    refine Wp.steps 1 (pc1 := 21) (lo1 := [some (.ref 0), some (.int x1), some (.int x2), some (.int x3), some (.int x4)]) (st1 := [.long (-1)]) (h1 := mk g) rfl ?_
    obtain ⟨e1, e2⟩ := zb_r2 e
    subst e1
    subst e2
    exact Wp.ret rfl rfl rfl (K _)
  · skip
    refine Wp.iF (pc1 := 10) rfl (zb_neF hc2) rfl ?_
    refine Wp.steps 1 (pc1 := 12) (lo1 := [some (.ref 0), some (.int x1), some (.int x2), some (.int x3), some (.int x4)]) (st1 := [.int x4]) (h1 := mk g) rfl ?_
    obtain ⟨v3, hvv3, e⟩ := zb_let e
    refine Wp.ca (m := 95) (d1 := d + 4) (as := [.int x4]) (rest := []) (st1 := [.int (zb_i v3)]) (pc1 := 15) rfl rfl rfl rfl rfl rfl rfl rfl rfl rfl rfl rfl (w_95 (sc := sc) (d := d + 4) x4 g hvv3) ?_
    rcases zb_if e with ⟨hc4, e⟩ | ⟨hc4, e⟩
    · skip
      refine Wp.iF (pc1 := 18) rfl (zb_eqF hc4) rfl ?_
      refine Wp.steps 1 (pc1 := 21) (lo1 := [some (.ref 0), some (.int x1), some (.int x2), some (.int x3), some (.int x4)]) (st1 := [.long (-1)]) (h1 := mk g) rfl ?_
      obtain ⟨e1, e2⟩ := zb_r2 e
      subst e1
      subst e2
      exact Wp.ret rfl rfl rfl (K _)
    · skip
      refine Wp.iT (pc1 := 22) rfl (zb_eqT hc4) rfl ?_
      refine Wp.steps 5 (pc1 := 27) (lo1 := [some (.ref 0), some (.int x1), some (.int x2), some (.int x3), some (.int x4)]) (st1 := [.int x3, .int x2, .int x1, .ref 0, .ref 0]) (h1 := mk g) rfl ?_
      obtain ⟨v5, g6, hvv5, e⟩ := zb_bpair e
      refine Wp.ca (m := 102) (d1 := d + 4) (as := [.ref 0, .int x1, .int x2, .int x3]) (rest := [.ref 0]) (st1 := [.long v5, .ref 0]) (pc1 := 30) rfl rfl rfl rfl rfl rfl rfl rfl (mk_rok rfl rfl rfl rfl) rfl rfl rfl (w_102 (sc := sc) (d := d) x1 x2 x3 g hvv5) ?_
      refine Wp.steps 1 (pc1 := 32) (lo1 := [some (.ref 0), some (.int x1), some (.int x2), some (.int x3), some (.int x4)]) (st1 := [.int x4, .long v5, .ref 0]) (h1 := mk g6) rfl ?_
      obtain ⟨v7, hvv7, e⟩ := zb_bind e
      refine Wp.ca (m := 104) (d1 := d + 4) (as := [.ref 0, .long v5, .int x4]) (rest := []) (st1 := [.long v7]) (pc1 := 35) rfl rfl rfl rfl rfl rfl rfl rfl (mk_rok rfl rfl rfl rfl) rfl rfl rfl (w_104 (sc := sc) (d := d + 3) v5 x4 g6 hvv7) ?_
      obtain ⟨e1, e2⟩ := zb_r2 e
      subst e1
      subst e2
      exact Wp.ret rfl rfl rfl (K _)
def d_174_44 (x1 : Int32) (x2 : Int32) (x3 : Int32) (x4 : Int32) (g : G) : Nat → Int64 → Int32 → Option Int64
  | 0, _, _ => none
  | f + 1, x5, x7 =>
    zb_l (d_158 g) fun v9 =>
    bif zm_cmp .gt x7 v9 then (
      Option.bind (d_172 x5 x4 g) fun v11 =>
      some v11) else
    Option.bind (d_152 x7 g) fun v12 =>
    bif v12 then (
      Option.bind (d_150 x1 x3 x7 g) fun v14 =>
      bif zm_cmp .ne ((v14 >>> (x2 &&& 31)) &&& 1) 1 then (
        d_174_44 x1 x2 x3 x4 g f (x5 + 0) (x7 + 1)) else
      Option.bind (d_171 x7 g) fun v16 =>
      d_174_44 x1 x2 x3 x4 g f (x5 + v16) (x7 + 1)) else
    d_174_44 x1 x2 x3 x4 g f (x5 + 0) (x7 + 1)
set_option maxRecDepth 100000 in
set_option maxHeartbeats 4000000 in
theorem w_174_44 {sc : Option (List Int32)} {d : Nat} (x1 : Int32) (x2 : Int32) (x3 : Int32) (x4 : Int32) (g : G) : ∀ (f : Nat) (x5 : Int64) (x7 : Int32) (r : Int64), d_174_44 x1 x2 x3 x4 g f x5 x7 = some r → zB sc (d + 4) 174 44 [some (.ref 113), some (.int x1), some (.int x2), some (.int x3), some (.int x4), some (.long x5), none, some (.int x7)] [] (mk g) [.long r] (mk g) := by
  intro f
  induction f with
  | zero =>
    intro x5 x7 r e
    rw [d_174_44.eq_1] at e
    cases e
  | succ f ih =>
    intro x5 x7 r e
    rw [d_174_44.eq_2] at e
    intro Q K
    refine Wp.steps 2 (pc1 := 47) (lo1 := [some (.ref 113), some (.int x1), some (.int x2), some (.int x3), some (.int x4), some (.long x5), none, some (.int x7)]) (st1 := [.ref 113, .int x7]) (h1 := mk g) rfl ?_
    obtain ⟨v9, hvv9, e⟩ := zb_let e
    refine Wp.ca (m := 158) (d1 := d + 3) (as := [.ref 113]) (rest := [.int x7]) (st1 := [.int v9, .int x7]) (pc1 := 50) rfl rfl rfl rfl rfl rfl rfl rfl (mk_rok rfl rfl rfl rfl) rfl rfl rfl (w_158 (sc := sc) (d := d + 3)  g hvv9) ?_
    rcases zb_if e with ⟨hc10, e⟩ | ⟨hc10, e⟩
    · skip
      refine Wp.cT (pc1 := 99) rfl hc10 rfl ?_
      refine Wp.steps 3 (pc1 := 104) (lo1 := [some (.ref 113), some (.int x1), some (.int x2), some (.int x3), some (.int x4), some (.long x5), none, some (.int x7)]) (st1 := [.int x4, .long x5, .ref 113]) (h1 := mk g) rfl ?_
      obtain ⟨v11, hvv11, e⟩ := zb_bind e
      refine Wp.ca (m := 172) (d1 := d + 3) (as := [.ref 113, .long x5, .int x4]) (rest := []) (st1 := [.long v11]) (pc1 := 107) rfl rfl rfl rfl rfl rfl rfl rfl (mk_rok rfl rfl rfl rfl) rfl rfl rfl (w_172 (sc := sc) (d := d + 3) x5 x4 g hvv11) ?_
      have e1 := zb_r1 e
      subst e1
      exact Wp.ret rfl rfl rfl (K _)
    · skip
      refine Wp.cF (pc1 := 53) rfl hc10 rfl ?_
      refine Wp.steps 3 (pc1 := 58) (lo1 := [some (.ref 113), some (.int x1), some (.int x2), some (.int x3), some (.int x4), some (.long x5), none, some (.int x7)]) (st1 := [.int x7, .ref 113, .long x5]) (h1 := mk g) rfl ?_
      obtain ⟨v12, hvv12, e⟩ := zb_bind e
      refine Wp.ca (m := 152) (d1 := d + 3) (as := [.ref 113, .int x7]) (rest := [.long x5]) (st1 := [.int (zb_i v12), .long x5]) (pc1 := 61) rfl rfl rfl rfl rfl rfl rfl rfl (mk_rok rfl rfl rfl rfl) rfl rfl rfl (w_152 (sc := sc) (d := d) x7 g hvv12) ?_
      rcases zb_if e with ⟨hc13, e⟩ | ⟨hc13, e⟩
      · skip
        refine Wp.iF (pc1 := 64) rfl (zb_eqF hc13) rfl ?_
        refine Wp.steps 4 (pc1 := 69) (lo1 := [some (.ref 113), some (.int x1), some (.int x2), some (.int x3), some (.int x4), some (.long x5), none, some (.int x7)]) (st1 := [.int x7, .int x3, .int x1, .ref 113, .long x5]) (h1 := mk g) rfl ?_
        obtain ⟨v14, hvv14, e⟩ := zb_bind e
        refine Wp.ca (m := 150) (d1 := d + 3) (as := [.ref 113, .int x1, .int x3, .int x7]) (rest := [.long x5]) (st1 := [.int v14, .long x5]) (pc1 := 72) rfl rfl rfl rfl rfl rfl rfl rfl (mk_rok rfl rfl rfl rfl) rfl rfl rfl (w_150 (sc := sc) (d := d + 2) x1 x3 x7 g hvv14) ?_
        refine Wp.steps 5 (pc1 := 77) (lo1 := [some (.ref 113), some (.int x1), some (.int x2), some (.int x3), some (.int x4), some (.long x5), none, some (.int x7)]) (st1 := [.int 1, .int ((v14 >>> (x2 &&& 31)) &&& 1), .long x5]) (h1 := mk g) rfl ?_
        rcases zb_if e with ⟨hc15, e⟩ | ⟨hc15, e⟩
        · skip
          refine Wp.cT (pc1 := 89) rfl hc15 rfl ?_
          refine Wp.steps 5 (pc1 := 44) (lo1 := [some (.ref 113), some (.int x1), some (.int x2), some (.int x3), some (.int x4), some (.long (x5 + 0)), none, some (.int (x7 + 1))]) (st1 := []) (h1 := mk g) rfl ?_
          exact ih _ _ _ e Q K
        · skip
          refine Wp.cF (pc1 := 80) rfl hc15 rfl ?_
          refine Wp.steps 2 (pc1 := 83) (lo1 := [some (.ref 113), some (.int x1), some (.int x2), some (.int x3), some (.int x4), some (.long x5), none, some (.int x7)]) (st1 := [.int x7, .ref 113, .long x5]) (h1 := mk g) rfl ?_
          obtain ⟨v16, hvv16, e⟩ := zb_bind e
          refine Wp.ca (m := 171) (d1 := d + 3) (as := [.ref 113, .int x7]) (rest := [.long x5]) (st1 := [.long v16, .long x5]) (pc1 := 86) rfl rfl rfl rfl rfl rfl rfl rfl (mk_rok rfl rfl rfl rfl) rfl rfl rfl (w_171 (sc := sc) (d := d + 2) x7 g hvv16) ?_
          refine Wp.steps 5 (pc1 := 44) (lo1 := [some (.ref 113), some (.int x1), some (.int x2), some (.int x3), some (.int x4), some (.long (x5 + v16)), none, some (.int (x7 + 1))]) (st1 := []) (h1 := mk g) rfl ?_
          exact ih _ _ _ e Q K
      · skip
        refine Wp.iT (pc1 := 89) rfl (zb_eqT hc13) rfl ?_
        refine Wp.steps 5 (pc1 := 44) (lo1 := [some (.ref 113), some (.int x1), some (.int x2), some (.int x3), some (.int x4), some (.long (x5 + 0)), none, some (.int (x7 + 1))]) (st1 := []) (h1 := mk g) rfl ?_
        exact ih _ _ _ e Q K
/-- EveningFirstModel.luck(IIII)J -/
def d_174 (x1 : Int32) (x2 : Int32) (x3 : Int32) (x4 : Int32) (g : G) : Option Int64 :=
  zb_l (d_131 x1 g) fun v1 =>
  bif v1 then (
    zb_l (d_134 x2) fun v3 =>
    bif v3 then (
      zb_l (d_133 x3 g) fun v5 =>
      bif v5 then (
        zb_l (d_107 (Int32.toInt64 x4) 0 1) fun v7 =>
        bif v7 then (
          d_174_44 x1 x2 x3 x4 g 300 0 0) else
        some (-1)) else
      some (-1)) else
    some (-1)) else
  some (-1)
set_option maxRecDepth 100000 in
set_option maxHeartbeats 4000000 in
theorem w_174 {sc : Option (List Int32)} {d : Nat} (x1 : Int32) (x2 : Int32) (x3 : Int32) (x4 : Int32) (g : G) {r : Int64} (e : d_174 x1 x2 x3 x4 g = some r) : zB sc (d + 4) 174 0 (zm_ent (z_L 174) [.ref 113, .int x1, .int x2, .int x3, .int x4]) [] (mk g) [.long r] (mk g) := by
  unfold d_174 at e
  intro Q K
  show Wp sc (d + 4) 174 0 [some (.ref 113), some (.int x1), some (.int x2), some (.int x3), some (.int x4), none, none, none] [] (mk g) Q
  refine Wp.steps 2 (pc1 := 2) (lo1 := [some (.ref 113), some (.int x1), some (.int x2), some (.int x3), some (.int x4), none, none, none]) (st1 := [.int x1, .ref 113]) (h1 := mk g) rfl ?_
  obtain ⟨v1, hvv1, e⟩ := zb_let e
  refine Wp.ca (m := 131) (d1 := d + 3) (as := [.ref 113, .int x1]) (rest := []) (st1 := [.int (zb_i v1)]) (pc1 := 5) rfl rfl rfl rfl rfl rfl rfl rfl (mk_rok rfl rfl rfl rfl) rfl rfl rfl (w_131 (sc := sc) (d := d + 2) x1 g hvv1) ?_
  rcases zb_if e with ⟨hc2, e⟩ | ⟨hc2, e⟩
  · skip
    refine Wp.iF (pc1 := 8) rfl (zb_eqF hc2) rfl ?_
    refine Wp.steps 1 (pc1 := 9) (lo1 := [some (.ref 113), some (.int x1), some (.int x2), some (.int x3), some (.int x4), none, none, none]) (st1 := [.int x2]) (h1 := mk g) rfl ?_
    obtain ⟨v3, hvv3, e⟩ := zb_let e
    refine Wp.ca (m := 134) (d1 := d + 3) (as := [.int x2]) (rest := []) (st1 := [.int (zb_i v3)]) (pc1 := 12) rfl rfl rfl rfl rfl rfl rfl rfl rfl rfl rfl rfl (w_134 (sc := sc) (d := d + 2) x2 g hvv3) ?_
    rcases zb_if e with ⟨hc4, e⟩ | ⟨hc4, e⟩
    · skip
      refine Wp.iF (pc1 := 15) rfl (zb_eqF hc4) rfl ?_
      refine Wp.steps 2 (pc1 := 17) (lo1 := [some (.ref 113), some (.int x1), some (.int x2), some (.int x3), some (.int x4), none, none, none]) (st1 := [.int x3, .ref 113]) (h1 := mk g) rfl ?_
      obtain ⟨v5, hvv5, e⟩ := zb_let e
      refine Wp.ca (m := 133) (d1 := d + 3) (as := [.ref 113, .int x3]) (rest := []) (st1 := [.int (zb_i v5)]) (pc1 := 20) rfl rfl rfl rfl rfl rfl rfl rfl (mk_rok rfl rfl rfl rfl) rfl rfl rfl (w_133 (sc := sc) (d := d + 2) x3 g hvv5) ?_
      rcases zb_if e with ⟨hc6, e⟩ | ⟨hc6, e⟩
      · skip
        refine Wp.iF (pc1 := 23) rfl (zb_eqF hc6) rfl ?_
        refine Wp.steps 4 (pc1 := 28) (lo1 := [some (.ref 113), some (.int x1), some (.int x2), some (.int x3), some (.int x4), none, none, none]) (st1 := [.long 1, .long 0, .long (Int32.toInt64 x4)]) (h1 := mk g) rfl ?_
        obtain ⟨v7, hvv7, e⟩ := zb_let e
        refine Wp.ca (m := 107) (d1 := d + 3) (as := [.long (Int32.toInt64 x4), .long 0, .long 1]) (rest := []) (st1 := [.int (zb_i v7)]) (pc1 := 31) rfl rfl rfl rfl rfl rfl rfl rfl rfl rfl rfl rfl (w_107 (sc := sc) (d := d + 3) (Int32.toInt64 x4) 0 1 g hvv7) ?_
        rcases zb_if e with ⟨hc8, e⟩ | ⟨hc8, e⟩
        · skip
          refine Wp.iT (pc1 := 38) rfl (zb_neT hc8) rfl ?_
          refine Wp.steps 4 (pc1 := 44) (lo1 := [some (.ref 113), some (.int x1), some (.int x2), some (.int x3), some (.int x4), some (.long 0), none, some (.int 0)]) (st1 := []) (h1 := mk g) rfl ?_
          exact w_174_44 (sc := sc) (d := d) x1 x2 x3 x4 g 300 0 0 _ e Q K
        · skip
          refine Wp.iF (pc1 := 34) rfl (zb_neF hc8) rfl ?_
          refine Wp.steps 1 (pc1 := 37) (lo1 := [some (.ref 113), some (.int x1), some (.int x2), some (.int x3), some (.int x4), none, none, none]) (st1 := [.long (-1)]) (h1 := mk g) rfl ?_
          have e1 := zb_r1 e
          subst e1
          exact Wp.ret rfl rfl rfl (K _)
      · skip
        refine Wp.iT (pc1 := 34) rfl (zb_eqT hc6) rfl ?_
        refine Wp.steps 1 (pc1 := 37) (lo1 := [some (.ref 113), some (.int x1), some (.int x2), some (.int x3), some (.int x4), none, none, none]) (st1 := [.long (-1)]) (h1 := mk g) rfl ?_
        have e1 := zb_r1 e
        subst e1
        exact Wp.ret rfl rfl rfl (K _)
    · skip
      refine Wp.iT (pc1 := 34) rfl (zb_eqT hc4) rfl ?_
      refine Wp.steps 1 (pc1 := 37) (lo1 := [some (.ref 113), some (.int x1), some (.int x2), some (.int x3), some (.int x4), none, none, none]) (st1 := [.long (-1)]) (h1 := mk g) rfl ?_
      have e1 := zb_r1 e
      subst e1
      exact Wp.ret rfl rfl rfl (K _)
  · skip
    refine Wp.iT (pc1 := 34) rfl (zb_eqT hc2) rfl ?_
    refine Wp.steps 1 (pc1 := 37) (lo1 := [some (.ref 113), some (.int x1), some (.int x2), some (.int x3), some (.int x4), none, none, none]) (st1 := [.long (-1)]) (h1 := mk g) rfl ?_
    have e1 := zb_r1 e
    subst e1
    exact Wp.ret rfl rfl rfl (K _)
/-- EveningFirst.see(IIIZ)I -/
def d_79 (x1 : Int32) (x2 : Int32) (x3 : Int32) (x4 : Int32) (g : G) : Option (Int32 × G) :=
  zb_l (d_96 x1 x2 x3 g) fun v1 =>
  bif v1 then (
    some ((-1), g)) else
  bif zm_cmp .lt (g 1 3) 8 then (
    Option.bind (zm_ix (g 1 3) 8) fun k4 =>
    zb_l (zg_up g (17 + k4) 0 x1) fun g5 =>
    zb_l (zg_up g5 (17 + k4) 1 x2) fun g6 =>
    zb_l (zg_up g6 (17 + k4) 2 x3) fun g7 =>
    bif x4 == 0 || x4 == 1 then (
      zb_l (zg_up g7 (17 + k4) 3 x4) fun g8 =>
      zb_l (zg_up g8 1 3 ((g8 1 3) + 1)) fun g10 =>
      some ((g10 1 3), g10)) else none) else
  some ((-3), g)
set_option maxRecDepth 100000 in
set_option maxHeartbeats 4000000 in
theorem w_79 {sc : Option (List Int32)} {d : Nat} (x1 : Int32) (x2 : Int32) (x3 : Int32) (x4 : Int32) (g : G) {r : Int32} {g' : G} (e : d_79 x1 x2 x3 x4 g = some (r, g')) : zB sc (d + 2) 79 0 (zm_ent (z_L 79) [.ref 0, .int x1, .int x2, .int x3, .int x4]) [] (mk g) [.int r] (mk g') := by
  unfold d_79 at e
  intro Q K
  show Wp sc (d + 2) 79 0 [some (.ref 0), some (.int x1), some (.int x2), some (.int x3), some (.int x4), none] [] (mk g) Q
  refine Wp.steps 4 (pc1 := 4) (lo1 := [some (.ref 0), some (.int x1), some (.int x2), some (.int x3), some (.int x4), none]) (st1 := [.int x3, .int x2, .int x1, .ref 0]) (h1 := mk g) rfl ?_
  obtain ⟨v1, hvv1, e⟩ := zb_let e
  refine Wp.ca (m := 96) (d1 := d + 1) (as := [.ref 0, .int x1, .int x2, .int x3]) (rest := []) (st1 := [.int (zb_i v1)]) (pc1 := 7) rfl rfl rfl rfl rfl rfl rfl rfl (mk_rok rfl rfl rfl rfl) rfl rfl rfl (w_96 (sc := sc) (d := d) x1 x2 x3 g hvv1) ?_
  rcases zb_if e with ⟨hc2, e⟩ | ⟨hc2, e⟩
  · skip
    refine Wp.iF (pc1 := 10) rfl (zb_eqF hc2) rfl ?_
    refine Wp.steps 1 (pc1 := 11) (lo1 := [some (.ref 0), some (.int x1), some (.int x2), some (.int x3), some (.int x4), none]) (st1 := [.int (-1)]) (h1 := mk g) rfl ?_
    obtain ⟨e1, e2⟩ := zb_r2 e
    subst e1
    subst e2
    exact Wp.ret rfl rfl rfl (K _)
  · skip
    refine Wp.iT (pc1 := 12) rfl (zb_eqT hc2) rfl ?_
    refine Wp.steps 1 (pc1 := 13) (lo1 := [some (.ref 0), some (.int x1), some (.int x2), some (.int x3), some (.int x4), none]) (st1 := [.ref 0]) (h1 := mk g) rfl ?_
    refine Wp.gf (pc1 := 16) (v := .ref 1) rfl rfl rfl rfl rfl ?_
    refine Wp.gf (pc1 := 19) (v := .int (g 1 3)) rfl rfl rfl rfl rfl ?_
    refine Wp.steps 1 (pc1 := 21) (lo1 := [some (.ref 0), some (.int x1), some (.int x2), some (.int x3), some (.int x4), none]) (st1 := [.int 8, .int (g 1 3)]) (h1 := mk g) rfl ?_
    rcases zb_if e with ⟨hc3, e⟩ | ⟨hc3, e⟩
    · skip
      refine Wp.cT (pc1 := 27) rfl hc3 rfl ?_
      refine Wp.steps 1 (pc1 := 28) (lo1 := [some (.ref 0), some (.int x1), some (.int x2), some (.int x3), some (.int x4), none]) (st1 := [.ref 0]) (h1 := mk g) rfl ?_
      refine Wp.gf (pc1 := 31) (v := .ref 1) rfl rfl rfl rfl rfl ?_
      refine Wp.gf (pc1 := 34) (v := .ref 4) rfl rfl rfl rfl rfl ?_
      refine Wp.steps 1 (pc1 := 35) (lo1 := [some (.ref 0), some (.int x1), some (.int x2), some (.int x3), some (.int x4), none]) (st1 := [.ref 0, .ref 4]) (h1 := mk g) rfl ?_
      refine Wp.gf (pc1 := 38) (v := .ref 1) rfl rfl rfl rfl rfl ?_
      refine Wp.gf (pc1 := 41) (v := .int (g 1 3)) rfl rfl rfl rfl rfl ?_
      obtain ⟨k4, hk4, e⟩ := zb_bind e
      refine Wp.aa (pc1 := 42) (v := (17 + k4)) rfl (zg_rseen (b := 1) rfl) rfl hk4 (by omega) rfl ?_
      refine Wp.steps 3 (pc1 := 47) (lo1 := [some (.ref 0), some (.int x1), some (.int x2), some (.int x3), some (.int x4), some (.ref (17 + k4))]) (st1 := [.int x1, .ref (17 + k4)]) (h1 := mk g) rfl ?_
      obtain ⟨g5, hg5, e⟩ := zb_let e
      refine Wp.pf (pc1 := 50) rfl (zg_seen (b := 1) rfl hk4) rfl rfl rfl rfl hg5 rfl ?_
      refine Wp.steps 2 (pc1 := 53) (lo1 := [some (.ref 0), some (.int x1), some (.int x2), some (.int x3), some (.int x4), some (.ref (17 + k4))]) (st1 := [.int x2, .ref (17 + k4)]) (h1 := mk g5) rfl ?_
      obtain ⟨g6, hg6, e⟩ := zb_let e
      refine Wp.pf (pc1 := 56) rfl (zg_seen (b := 1) rfl hk4) rfl rfl rfl rfl hg6 rfl ?_
      refine Wp.steps 2 (pc1 := 59) (lo1 := [some (.ref 0), some (.int x1), some (.int x2), some (.int x3), some (.int x4), some (.ref (17 + k4))]) (st1 := [.int x3, .ref (17 + k4)]) (h1 := mk g6) rfl ?_
      obtain ⟨g7, hg7, e⟩ := zb_let e
      refine Wp.pf (pc1 := 62) rfl (zg_seen (b := 1) rfl hk4) rfl rfl rfl rfl hg7 rfl ?_
      refine Wp.steps 2 (pc1 := 66) (lo1 := [some (.ref 0), some (.int x1), some (.int x2), some (.int x3), some (.int x4), some (.ref (17 + k4))]) (st1 := [.int x4, .ref (17 + k4)]) (h1 := mk g7) rfl ?_
      rcases zb_if e with ⟨hc9, e⟩ | ⟨hc9, e⟩
      · skip
        obtain ⟨g8, hg8, e⟩ := zb_let e
        refine Wp.pf (pc1 := 69) rfl (zg_seen (b := 1) rfl hk4) rfl rfl rfl hc9 hg8 rfl ?_
        refine Wp.steps 1 (pc1 := 70) (lo1 := [some (.ref 0), some (.int x1), some (.int x2), some (.int x3), some (.int x4), some (.ref (17 + k4))]) (st1 := [.ref 0]) (h1 := mk g8) rfl ?_
        refine Wp.gf (pc1 := 73) (v := .ref 1) rfl rfl rfl rfl rfl ?_
        refine Wp.steps 1 (pc1 := 74) (lo1 := [some (.ref 0), some (.int x1), some (.int x2), some (.int x3), some (.int x4), some (.ref (17 + k4))]) (st1 := [.ref 1, .ref 1]) (h1 := mk g8) rfl ?_
        refine Wp.gf (pc1 := 77) (v := .int (g8 1 3)) rfl rfl rfl rfl rfl ?_
        refine Wp.steps 2 (pc1 := 79) (lo1 := [some (.ref 0), some (.int x1), some (.int x2), some (.int x3), some (.int x4), some (.ref (17 + k4))]) (st1 := [.int ((g8 1 3) + 1), .ref 1]) (h1 := mk g8) rfl ?_
        obtain ⟨g10, hg10, e⟩ := zb_let e
        refine Wp.pf (pc1 := 82) rfl rfl rfl rfl rfl rfl hg10 rfl ?_
        refine Wp.steps 1 (pc1 := 83) (lo1 := [some (.ref 0), some (.int x1), some (.int x2), some (.int x3), some (.int x4), some (.ref (17 + k4))]) (st1 := [.ref 0]) (h1 := mk g10) rfl ?_
        refine Wp.gf (pc1 := 86) (v := .ref 1) rfl rfl rfl rfl rfl ?_
        refine Wp.gf (pc1 := 89) (v := .int (g10 1 3)) rfl rfl rfl rfl rfl ?_
        obtain ⟨e1, e2⟩ := zb_r2 e
        subst e1
        subst e2
        exact Wp.ret rfl rfl rfl (K _)
      · cases e
    · skip
      refine Wp.cF (pc1 := 24) rfl hc3 rfl ?_
      refine Wp.steps 1 (pc1 := 26) (lo1 := [some (.ref 0), some (.int x1), some (.int x2), some (.int x3), some (.int x4), none]) (st1 := [.int (-3)]) (h1 := mk g) rfl ?_
      obtain ⟨e1, e2⟩ := zb_r2 e
      subst e1
      subst e2
      exact Wp.ret rfl rfl rfl (K _)
