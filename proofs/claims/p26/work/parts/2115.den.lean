/-! printed by wip/tools/den.py -/
/-- EveningFirstModel.greatest()I -/
def d_162 (g : G) : Option Int32 :=
  Option.bind (d_161 g) fun v1 =>
  some v1
set_option maxRecDepth 100000 in
set_option maxHeartbeats 4000000 in
theorem w_162 {sc : Option (List Int32)} {d : Nat} (g : G) {r : Int32} (e : d_162 g = some r) : zB sc (d + 4) 162 0 (zm_ent (z_L 162) [.ref 113]) [] (mk g) [.int r] (mk g) := by
  unfold d_162 at e
  intro Q K
  show Wp sc (d + 4) 162 0 [some (.ref 113)] [] (mk g) Q
  refine Wp.steps 1 (pc1 := 1) (lo1 := [some (.ref 113)]) (st1 := [.ref 113]) (h1 := mk g) rfl ?_
  obtain ⟨v1, hvv1, e⟩ := zb_bind e
  refine Wp.ca (m := 161) (d1 := d + 3) (as := [.ref 113]) (rest := []) (st1 := [.int v1]) (pc1 := 4) rfl rfl rfl rfl rfl rfl rfl rfl (mk_rok rfl rfl rfl rfl) rfl rfl rfl (w_161 (sc := sc) (d := d)  g hvv1) ?_
  have e1 := zb_r1 e
  subst e1
  exact Wp.ret rfl rfl rfl (K _)
def d_9_4 (x1 : Int32) (g : G) : Nat → Int32 → Int32 → Option Int32
  | 0, _, _ => none
  | f + 1, x2, x3 =>
    bif zm_cmp .ge x3 8 then (
      some x2) else
    Option.bind (d_5 x2 x1 g) fun v2 =>
    d_9_4 x1 g f v2 (x3 + 1)
set_option maxRecDepth 100000 in
set_option maxHeartbeats 4000000 in
theorem w_9_4 {sc : Option (List Int32)} {d : Nat} (x1 : Int32) (g : G) : ∀ (f : Nat) (x2 : Int32) (x3 : Int32) (r : Int32), d_9_4 x1 g f x2 x3 = some r → zB sc (d + 2) 9 4 [some (.ref 25), some (.int x1), some (.int x2), some (.int x3)] [] (mk g) [.int r] (mk g) := by
  intro f
  induction f with
  | zero =>
    intro x2 x3 r e
    rw [d_9_4.eq_1] at e
    cases e
  | succ f ih =>
    intro x2 x3 r e
    rw [d_9_4.eq_2] at e
    intro Q K
    refine Wp.steps 2 (pc1 := 7) (lo1 := [some (.ref 25), some (.int x1), some (.int x2), some (.int x3)]) (st1 := [.int 8, .int x3]) (h1 := mk g) rfl ?_
    rcases zb_if e with ⟨hc1, e⟩ | ⟨hc1, e⟩
    · skip
      refine Wp.cT (pc1 := 23) rfl hc1 rfl ?_
      refine Wp.steps 1 (pc1 := 24) (lo1 := [some (.ref 25), some (.int x1), some (.int x2), some (.int x3)]) (st1 := [.int x2]) (h1 := mk g) rfl ?_
      have e1 := zb_r1 e
      subst e1
      exact Wp.ret rfl rfl rfl (K _)
    · skip
      refine Wp.cF (pc1 := 10) rfl hc1 rfl ?_
      refine Wp.steps 3 (pc1 := 13) (lo1 := [some (.ref 25), some (.int x1), some (.int x2), some (.int x3)]) (st1 := [.int x1, .int x2, .ref 25]) (h1 := mk g) rfl ?_
      obtain ⟨v2, hvv2, e⟩ := zb_bind e
      refine Wp.ca (m := 5) (d1 := d + 1) (as := [.ref 25, .int x2, .int x1]) (rest := []) (st1 := [.int v2]) (pc1 := 16) rfl rfl rfl rfl rfl rfl rfl rfl (mk_rok rfl rfl rfl rfl) rfl rfl rfl (w_5 (sc := sc) (d := d) x2 x1 g hvv2) ?_
      refine Wp.steps 3 (pc1 := 4) (lo1 := [some (.ref 25), some (.int x1), some (.int v2), some (.int (x3 + 1))]) (st1 := []) (h1 := mk g) rfl ?_
      exact ih _ _ _ e Q K
/-- EveningFirst$Bonds.madeOf(I)I -/
def d_9 (x1 : Int32) (g : G) : Option Int32 :=
  d_9_4 x1 g 300 0 0
set_option maxRecDepth 100000 in
set_option maxHeartbeats 4000000 in
theorem w_9 {sc : Option (List Int32)} {d : Nat} (x1 : Int32) (g : G) {r : Int32} (e : d_9 x1 g = some r) : zB sc (d + 2) 9 0 (zm_ent (z_L 9) [.ref 25, .int x1]) [] (mk g) [.int r] (mk g) := by
  unfold d_9 at e
  intro Q K
  show Wp sc (d + 2) 9 0 [some (.ref 25), some (.int x1), none, none] [] (mk g) Q
  refine Wp.steps 4 (pc1 := 4) (lo1 := [some (.ref 25), some (.int x1), some (.int 0), some (.int 0)]) (st1 := []) (h1 := mk g) rfl ?_
  exact w_9_4 (sc := sc) (d := d) x1 g 300 0 0 _ e Q K
def d_10_4 (x1 : Int32) (g : G) : Nat → Int32 → Int32 → Option Int32
  | 0, _, _ => none
  | f + 1, x2, x3 =>
    bif zm_cmp .ge x3 8 then (
      some 8) else
    Option.bind (d_5 x2 x1 g) fun v2 =>
    bif zm_cmp .ne v2 x2 then (
      d_10_4 x1 g f v2 (x3 + 1)) else
    some x3
set_option maxRecDepth 100000 in
set_option maxHeartbeats 4000000 in
theorem w_10_4 {sc : Option (List Int32)} {d : Nat} (x1 : Int32) (g : G) : ∀ (f : Nat) (x2 : Int32) (x3 : Int32) (r : Int32), d_10_4 x1 g f x2 x3 = some r → zB sc (d + 2) 10 4 [some (.ref 25), some (.int x1), some (.int x2), some (.int x3), none] [] (mk g) [.int r] (mk g) := by
  intro f
  induction f with
  | zero =>
    intro x2 x3 r e
    rw [d_10_4.eq_1] at e
    cases e
  | succ f ih =>
    intro x2 x3 r e
    rw [d_10_4.eq_2] at e
    intro Q K
    refine Wp.steps 2 (pc1 := 7) (lo1 := [some (.ref 25), some (.int x1), some (.int x2), some (.int x3), none]) (st1 := [.int 8, .int x3]) (h1 := mk g) rfl ?_
    rcases zb_if e with ⟨hc1, e⟩ | ⟨hc1, e⟩
    · skip
      refine Wp.cT (pc1 := 35) rfl hc1 rfl ?_
      refine Wp.steps 1 (pc1 := 37) (lo1 := [some (.ref 25), some (.int x1), some (.int x2), some (.int x3), none]) (st1 := [.int 8]) (h1 := mk g) rfl ?_
      have e1 := zb_r1 e
      subst e1
      exact Wp.ret rfl rfl rfl (K _)
    · skip
      refine Wp.cF (pc1 := 10) rfl hc1 rfl ?_
      refine Wp.steps 3 (pc1 := 13) (lo1 := [some (.ref 25), some (.int x1), some (.int x2), some (.int x3), none]) (st1 := [.int x1, .int x2, .ref 25]) (h1 := mk g) rfl ?_
      obtain ⟨v2, hvv2, e⟩ := zb_bind e
      refine Wp.ca (m := 5) (d1 := d + 1) (as := [.ref 25, .int x2, .int x1]) (rest := []) (st1 := [.int v2]) (pc1 := 16) rfl rfl rfl rfl rfl rfl rfl rfl (mk_rok rfl rfl rfl rfl) rfl rfl rfl (w_5 (sc := sc) (d := d) x2 x1 g hvv2) ?_
      refine Wp.steps 3 (pc1 := 21) (lo1 := [some (.ref 25), some (.int x1), some (.int x2), some (.int x3), some (.int v2)]) (st1 := [.int x2, .int v2]) (h1 := mk g) rfl ?_
      rcases zb_if e with ⟨hc3, e⟩ | ⟨hc3, e⟩
      · skip
        refine Wp.cT (pc1 := 26) rfl hc3 rfl ?_
        refine Wp.steps 4 (pc1 := 4) (lo1 := [some (.ref 25), some (.int x1), some (.int v2), some (.int (x3 + 1)), some (.int v2)]) (st1 := []) (h1 := mk g) rfl ?_
        refine Wp.fg [some (.ref 25), some (.int x1), some (.int v2), some (.int (x3 + 1)), none] (zm_lle_s (zm_lle_s (zm_lle_s (zm_lle_s (zm_lle_n zm_lle_0))))) ?_
        exact ih _ _ _ e Q K
      · skip
        refine Wp.cF (pc1 := 24) rfl hc3 rfl ?_
        refine Wp.steps 1 (pc1 := 25) (lo1 := [some (.ref 25), some (.int x1), some (.int x2), some (.int x3), some (.int v2)]) (st1 := [.int x3]) (h1 := mk g) rfl ?_
        have e1 := zb_r1 e
        subst e1
        exact Wp.ret rfl rfl rfl (K _)
/-- EveningFirst$Bonds.stepsOf(I)I -/
def d_10 (x1 : Int32) (g : G) : Option Int32 :=
  d_10_4 x1 g 300 0 0
set_option maxRecDepth 100000 in
set_option maxHeartbeats 4000000 in
theorem w_10 {sc : Option (List Int32)} {d : Nat} (x1 : Int32) (g : G) {r : Int32} (e : d_10 x1 g = some r) : zB sc (d + 2) 10 0 (zm_ent (z_L 10) [.ref 25, .int x1]) [] (mk g) [.int r] (mk g) := by
  unfold d_10 at e
  intro Q K
  show Wp sc (d + 2) 10 0 [some (.ref 25), some (.int x1), none, none, none] [] (mk g) Q
  refine Wp.steps 4 (pc1 := 4) (lo1 := [some (.ref 25), some (.int x1), some (.int 0), some (.int 0), none]) (st1 := []) (h1 := mk g) rfl ?_
  exact w_10_4 (sc := sc) (d := d) x1 g 300 0 0 _ e Q K
/-- EveningFirst.made(I)I -/
def d_72 (x1 : Int32) (g : G) : Option (Int32 × G) :=
  bif zm_cmp .lt x1 0 then (
    some ((-1), g)) else
  bif zm_cmp .le x1 2 then (
    Option.bind (d_2 1 g) fun g3 =>
    Option.bind (d_8 (g3 25 2) g3) fun v4 =>
    bif x1 == 0 then (
      Option.bind (d_9 v4 g3) fun v6 =>
      some (v6, g3)) else
    bif x1 == 1 then (
      Option.bind (d_9 v4 g3) fun v8 =>
      some ((v4 &&& (v8 ^^^ (-1))), g3)) else
    Option.bind (d_10 v4 g3) fun v9 =>
    some (v9, g3)) else
  some ((-1), g)
set_option maxRecDepth 100000 in
set_option maxHeartbeats 4000000 in
theorem w_72 {sc : Option (List Int32)} {d : Nat} (x1 : Int32) (g : G) {r : Int32} {g' : G} (e : d_72 x1 g = some (r, g')) : zB sc (d + 4) 72 0 (zm_ent (z_L 72) [.ref 0, .int x1]) [] (mk g) [.int r] (mk g') := by
  unfold d_72 at e
  intro Q K
  show Wp sc (d + 4) 72 0 [some (.ref 0), some (.int x1), none] [] (mk g) Q
  refine Wp.steps 1 (pc1 := 1) (lo1 := [some (.ref 0), some (.int x1), none]) (st1 := [.int x1]) (h1 := mk g) rfl ?_
  rcases zb_if e with ⟨hc1, e⟩ | ⟨hc1, e⟩
  · skip
    refine Wp.iT (pc1 := 9) rfl hc1 rfl ?_
    refine Wp.steps 1 (pc1 := 10) (lo1 := [some (.ref 0), some (.int x1), none]) (st1 := [.int (-1)]) (h1 := mk g) rfl ?_
    obtain ⟨e1, e2⟩ := zb_r2 e
    subst e1
    subst e2
    exact Wp.ret rfl rfl rfl (K _)
  · skip
    refine Wp.iF (pc1 := 4) rfl hc1 rfl ?_
    refine Wp.steps 2 (pc1 := 6) (lo1 := [some (.ref 0), some (.int x1), none]) (st1 := [.int 2, .int x1]) (h1 := mk g) rfl ?_
    rcases zb_if e with ⟨hc2, e⟩ | ⟨hc2, e⟩
    · skip
      refine Wp.cT (pc1 := 11) rfl hc2 rfl ?_
      refine Wp.steps 1 (pc1 := 12) (lo1 := [some (.ref 0), some (.int x1), none]) (st1 := [.ref 0]) (h1 := mk g) rfl ?_
      refine Wp.gf (pc1 := 15) (v := .ref 25) rfl rfl rfl rfl rfl ?_
      refine Wp.steps 1 (pc1 := 16) (lo1 := [some (.ref 0), some (.int x1), none]) (st1 := [.ref 0, .ref 25]) (h1 := mk g) rfl ?_
      refine Wp.gf (pc1 := 19) (v := .ref 1) rfl rfl rfl rfl rfl ?_
      obtain ⟨g3, hvg3, e⟩ := zb_bind e
      refine Wp.ca (m := 2) (d1 := d + 3) (as := [.ref 25, .ref 1]) (rest := []) (st1 := []) (pc1 := 22) rfl rfl rfl rfl rfl rfl rfl rfl (mk_rok rfl rfl rfl rfl) rfl rfl rfl (w_2 (sc := sc) (d := d) 1 rfl g hvg3) ?_
      refine Wp.steps 1 (pc1 := 23) (lo1 := [some (.ref 0), some (.int x1), none]) (st1 := [.ref 0]) (h1 := mk g3) rfl ?_
      refine Wp.gf (pc1 := 26) (v := .ref 25) rfl rfl rfl rfl rfl ?_
      refine Wp.steps 1 (pc1 := 27) (lo1 := [some (.ref 0), some (.int x1), none]) (st1 := [.ref 0, .ref 25]) (h1 := mk g3) rfl ?_
      refine Wp.gf (pc1 := 30) (v := .ref 25) rfl rfl rfl rfl rfl ?_
      refine Wp.gf (pc1 := 33) (v := .int (g3 25 2)) rfl rfl rfl rfl rfl ?_
      obtain ⟨v4, hvv4, e⟩ := zb_bind e
      refine Wp.ca (m := 8) (d1 := d + 3) (as := [.ref 25, .int (g3 25 2)]) (rest := []) (st1 := [.int v4]) (pc1 := 36) rfl rfl rfl rfl rfl rfl rfl rfl (mk_rok rfl rfl rfl rfl) rfl rfl rfl (w_8 (sc := sc) (d := d + 1) (g3 25 2) g3 hvv4) ?_
      refine Wp.steps 2 (pc1 := 38) (lo1 := [some (.ref 0), some (.int x1), some (.int v4)]) (st1 := [.int x1]) (h1 := mk g3) rfl ?_
      rcases zb_if e with ⟨hc5, e⟩ | ⟨hc5, e⟩
      · skip
        refine Wp.lsT (pc1 := 64) (w := 0) rfl hc5 rfl ?_
        refine Wp.steps 1 (pc1 := 65) (lo1 := [some (.ref 0), some (.int x1), some (.int v4)]) (st1 := [.ref 0]) (h1 := mk g3) rfl ?_
        refine Wp.gf (pc1 := 68) (v := .ref 25) rfl rfl rfl rfl rfl ?_
        refine Wp.steps 1 (pc1 := 69) (lo1 := [some (.ref 0), some (.int x1), some (.int v4)]) (st1 := [.int v4, .ref 25]) (h1 := mk g3) rfl ?_
        obtain ⟨v6, hvv6, e⟩ := zb_bind e
        refine Wp.ca (m := 9) (d1 := d + 3) (as := [.ref 25, .int v4]) (rest := []) (st1 := [.int v6]) (pc1 := 72) rfl rfl rfl rfl rfl rfl rfl rfl (mk_rok rfl rfl rfl rfl) rfl rfl rfl (w_9 (sc := sc) (d := d + 1) v4 g3 hvv6) ?_
        obtain ⟨e1, e2⟩ := zb_r2 e
        subst e1
        subst e2
        exact Wp.ret rfl rfl rfl (K _)
      · skip
        rcases zb_if e with ⟨hc7, e⟩ | ⟨hc7, e⟩
        · skip
          refine Wp.lsT (pc1 := 73) (w := 1) rfl hc7 rfl ?_
          refine Wp.steps 2 (pc1 := 75) (lo1 := [some (.ref 0), some (.int x1), some (.int v4)]) (st1 := [.ref 0, .int v4]) (h1 := mk g3) rfl ?_
          refine Wp.gf (pc1 := 78) (v := .ref 25) rfl rfl rfl rfl rfl ?_
          refine Wp.steps 1 (pc1 := 79) (lo1 := [some (.ref 0), some (.int x1), some (.int v4)]) (st1 := [.int v4, .ref 25, .int v4]) (h1 := mk g3) rfl ?_
          obtain ⟨v8, hvv8, e⟩ := zb_bind e
          refine Wp.ca (m := 9) (d1 := d + 3) (as := [.ref 25, .int v4]) (rest := [.int v4]) (st1 := [.int v8, .int v4]) (pc1 := 82) rfl rfl rfl rfl rfl rfl rfl rfl (mk_rok rfl rfl rfl rfl) rfl rfl rfl (w_9 (sc := sc) (d := d + 1) v4 g3 hvv8) ?_
          refine Wp.steps 3 (pc1 := 85) (lo1 := [some (.ref 0), some (.int x1), some (.int v4)]) (st1 := [.int (v4 &&& (v8 ^^^ (-1)))]) (h1 := mk g3) rfl ?_
          obtain ⟨e1, e2⟩ := zb_r2 e
          subst e1
          subst e2
          exact Wp.ret rfl rfl rfl (K _)
        · skip
          refine Wp.lsD (pc1 := 86) rfl (zls_2 (by decide) (by decide) hc5 hc7) rfl ?_
          refine Wp.steps 1 (pc1 := 87) (lo1 := [some (.ref 0), some (.int x1), some (.int v4)]) (st1 := [.ref 0]) (h1 := mk g3) rfl ?_
          refine Wp.gf (pc1 := 90) (v := .ref 25) rfl rfl rfl rfl rfl ?_
          refine Wp.steps 1 (pc1 := 91) (lo1 := [some (.ref 0), some (.int x1), some (.int v4)]) (st1 := [.int v4, .ref 25]) (h1 := mk g3) rfl ?_
          obtain ⟨v9, hvv9, e⟩ := zb_bind e
          refine Wp.ca (m := 10) (d1 := d + 3) (as := [.ref 25, .int v4]) (rest := []) (st1 := [.int v9]) (pc1 := 94) rfl rfl rfl rfl rfl rfl rfl rfl (mk_rok rfl rfl rfl rfl) rfl rfl rfl (w_10 (sc := sc) (d := d + 1) v4 g3 hvv9) ?_
          obtain ⟨e1, e2⟩ := zb_r2 e
          subst e1
          subst e2
          exact Wp.ret rfl rfl rfl (K _)
    · skip
      refine Wp.cF (pc1 := 9) rfl hc2 rfl ?_
      refine Wp.steps 1 (pc1 := 10) (lo1 := [some (.ref 0), some (.int x1), none]) (st1 := [.int (-1)]) (h1 := mk g) rfl ?_
      obtain ⟨e1, e2⟩ := zb_r2 e
      subst e1
      subst e2
      exact Wp.ret rfl rfl rfl (K _)
def d_163_19 (x1 : Int32) (x2 : Int32) (g : G) (k9 : Int32 → Bool → G → Option (Int32 × G)) : Nat → Int32 → Int32 → Option (Int32 × G)
  | 0, _, _ => none
  | f + 1, x4, x5 =>
    bif zm_cmp .ge x5 (g 114 8) then (
      bif zm_cmp .eq x4 0 then (
        zb_l (d_108 0) fun v5 =>
        zb_l (zg_up g 113 21 ((g 113 21) + v5)) fun g6 =>
        k9 (x2 ||| x4) false g6) else
      zb_l (d_108 1) fun v7 =>
      zb_l (zg_up g 113 21 ((g 113 21) + v7)) fun g8 =>
      k9 (x2 ||| x4) true g8) else
    bif zm_cmp .ne ((x1 >>> (x5 &&& 31)) &&& 1) 1 then (
      zb_l (d_108 0) fun v10 =>
      d_163_19 x1 x2 g k9 f (x4 ||| (v10 <<< (x5 &&& 31))) (x5 + 1)) else
    bif zm_cmp .ne ((x2 >>> (x5 &&& 31)) &&& 1) 0 then (
      zb_l (d_108 0) fun v12 =>
      d_163_19 x1 x2 g k9 f (x4 ||| (v12 <<< (x5 &&& 31))) (x5 + 1)) else
    Option.bind (d_151 x5 x2 g) fun v13 =>
    bif zm_cmp .ne v13 0 then (
      zb_l (d_108 0) fun v15 =>
      d_163_19 x1 x2 g k9 f (x4 ||| (v15 <<< (x5 &&& 31))) (x5 + 1)) else
    zb_l (d_108 1) fun v16 =>
    d_163_19 x1 x2 g k9 f (x4 ||| (v16 <<< (x5 &&& 31))) (x5 + 1)
set_option maxRecDepth 100000 in
set_option maxHeartbeats 4000000 in
theorem w_163_19 {sc : Option (List Int32)} {d : Nat} (x1 : Int32) (x2 : Int32) (g : G) (k9 : Int32 → Bool → G → Option (Int32 × G)) (hk9 : ∀ (x2 : Int32) (x3 : Bool) (g : G) (r : Int32) (g' : G), k9 x2 x3 g = some (r, g') → zB sc (d + 3) 163 9 [some (.ref 113), some (.int x1), some (.int x2), some (.int (zb_i x3)), none, none] [] (mk g) [.int r] (mk g')) : ∀ (f : Nat) (x4 : Int32) (x5 : Int32) (r : Int32) (g' : G), d_163_19 x1 x2 g k9 f x4 x5 = some (r, g') → zB sc (d + 3) 163 19 [some (.ref 113), some (.int x1), some (.int x2), none, some (.int x4), some (.int x5)] [] (mk g) [.int r] (mk g') := by
  intro f
  induction f with
  | zero =>
    intro x4 x5 r g' e
    rw [d_163_19.eq_1] at e
    cases e
  | succ f ih =>
    intro x4 x5 r g' e
    rw [d_163_19.eq_2] at e
    intro Q K
    refine Wp.steps 2 (pc1 := 22) (lo1 := [some (.ref 113), some (.int x1), some (.int x2), none, some (.int x4), some (.int x5)]) (st1 := [.ref 113, .int x5]) (h1 := mk g) rfl ?_
    refine Wp.gf (pc1 := 25) (v := .ref 114) rfl rfl rfl rfl rfl ?_
    refine Wp.steps 1 (pc1 := 27) (lo1 := [some (.ref 113), some (.int x1), some (.int x2), none, some (.int x4), some (.int x5)]) (st1 := [.int 8, .ref 114, .int x5]) (h1 := mk g) rfl ?_
    refine Wp.ia (pc1 := 28) (k := 8) rfl rfl rfl rfl rfl ?_
    rcases zb_if e with ⟨hc3, e⟩ | ⟨hc3, e⟩
    · skip
      refine Wp.cT (pc1 := 82) rfl hc3 rfl ?_
      refine Wp.steps 5 (pc1 := 89) (lo1 := [some (.ref 113), some (.int x1), some (.int (x2 ||| x4)), none, some (.int x4), some (.int x5)]) (st1 := [.int x4]) (h1 := mk g) rfl ?_
      rcases zb_if e with ⟨hc4, e⟩ | ⟨hc4, e⟩
      · skip
        refine Wp.iT (pc1 := 96) rfl hc4 rfl ?_
        refine Wp.steps 4 (pc1 := 100) (lo1 := [some (.ref 113), some (.int x1), some (.int (x2 ||| x4)), some (.int 0), some (.int x4), some (.int x5)]) (st1 := [.ref 113, .ref 113]) (h1 := mk g) rfl ?_
        refine Wp.gf (pc1 := 103) (v := .int (g 113 21)) rfl rfl rfl rfl rfl ?_
        refine Wp.steps 1 (pc1 := 104) (lo1 := [some (.ref 113), some (.int x1), some (.int (x2 ||| x4)), some (.int 0), some (.int x4), some (.int x5)]) (st1 := [.int 0, .int (g 113 21), .ref 113]) (h1 := mk g) rfl ?_
        obtain ⟨v5, hvv5, e⟩ := zb_let e
        refine Wp.ca (m := 108) (d1 := d + 2) (as := [.int 0]) (rest := [.int (g 113 21), .ref 113]) (st1 := [.int v5, .int (g 113 21), .ref 113]) (pc1 := 107) rfl rfl rfl rfl rfl rfl rfl rfl rfl rfl rfl rfl (w_108 (sc := sc) (d := d + 2) 0 g hvv5) ?_
        refine Wp.steps 1 (pc1 := 108) (lo1 := [some (.ref 113), some (.int x1), some (.int (x2 ||| x4)), some (.int 0), some (.int x4), some (.int x5)]) (st1 := [.int ((g 113 21) + v5), .ref 113]) (h1 := mk g) rfl ?_
        obtain ⟨g6, hg6, e⟩ := zb_let e
        refine Wp.pf (pc1 := 111) rfl rfl rfl rfl rfl rfl hg6 rfl ?_
        refine Wp.steps 1 (pc1 := 9) (lo1 := [some (.ref 113), some (.int x1), some (.int (x2 ||| x4)), some (.int 0), some (.int x4), some (.int x5)]) (st1 := []) (h1 := mk g6) rfl ?_
        refine Wp.fg [some (.ref 113), some (.int x1), some (.int (x2 ||| x4)), some (.int 0), none, none] (zm_lle_s (zm_lle_s (zm_lle_s (zm_lle_s (zm_lle_n (zm_lle_n zm_lle_0)))))) ?_
        exact hk9 _ _ _ _ _ e Q K
      · skip
        refine Wp.iF (pc1 := 92) rfl hc4 rfl ?_
        refine Wp.steps 5 (pc1 := 100) (lo1 := [some (.ref 113), some (.int x1), some (.int (x2 ||| x4)), some (.int 1), some (.int x4), some (.int x5)]) (st1 := [.ref 113, .ref 113]) (h1 := mk g) rfl ?_
        refine Wp.gf (pc1 := 103) (v := .int (g 113 21)) rfl rfl rfl rfl rfl ?_
        refine Wp.steps 1 (pc1 := 104) (lo1 := [some (.ref 113), some (.int x1), some (.int (x2 ||| x4)), some (.int 1), some (.int x4), some (.int x5)]) (st1 := [.int 1, .int (g 113 21), .ref 113]) (h1 := mk g) rfl ?_
        obtain ⟨v7, hvv7, e⟩ := zb_let e
        refine Wp.ca (m := 108) (d1 := d + 2) (as := [.int 1]) (rest := [.int (g 113 21), .ref 113]) (st1 := [.int v7, .int (g 113 21), .ref 113]) (pc1 := 107) rfl rfl rfl rfl rfl rfl rfl rfl rfl rfl rfl rfl (w_108 (sc := sc) (d := d + 2) 1 g hvv7) ?_
        refine Wp.steps 1 (pc1 := 108) (lo1 := [some (.ref 113), some (.int x1), some (.int (x2 ||| x4)), some (.int 1), some (.int x4), some (.int x5)]) (st1 := [.int ((g 113 21) + v7), .ref 113]) (h1 := mk g) rfl ?_
        obtain ⟨g8, hg8, e⟩ := zb_let e
        refine Wp.pf (pc1 := 111) rfl rfl rfl rfl rfl rfl hg8 rfl ?_
        refine Wp.steps 1 (pc1 := 9) (lo1 := [some (.ref 113), some (.int x1), some (.int (x2 ||| x4)), some (.int 1), some (.int x4), some (.int x5)]) (st1 := []) (h1 := mk g8) rfl ?_
        refine Wp.fg [some (.ref 113), some (.int x1), some (.int (x2 ||| x4)), some (.int 1), none, none] (zm_lle_s (zm_lle_s (zm_lle_s (zm_lle_s (zm_lle_n (zm_lle_n zm_lle_0)))))) ?_
        exact hk9 _ _ _ _ _ e Q K
    · skip
      refine Wp.cF (pc1 := 31) rfl hc3 rfl ?_
      refine Wp.steps 7 (pc1 := 40) (lo1 := [some (.ref 113), some (.int x1), some (.int x2), none, some (.int x4), some (.int x5)]) (st1 := [.int 1, .int ((x1 >>> (x5 &&& 31)) &&& 1), .int x4]) (h1 := mk g) rfl ?_
      rcases zb_if e with ⟨hc9, e⟩ | ⟨hc9, e⟩
      · skip
        refine Wp.cT (pc1 := 66) rfl hc9 rfl ?_
        refine Wp.steps 1 (pc1 := 67) (lo1 := [some (.ref 113), some (.int x1), some (.int x2), none, some (.int x4), some (.int x5)]) (st1 := [.int 0, .int x4]) (h1 := mk g) rfl ?_
        obtain ⟨v10, hvv10, e⟩ := zb_let e
        refine Wp.ca (m := 108) (d1 := d + 2) (as := [.int 0]) (rest := [.int x4]) (st1 := [.int v10, .int x4]) (pc1 := 70) rfl rfl rfl rfl rfl rfl rfl rfl rfl rfl rfl rfl (w_108 (sc := sc) (d := d + 2) 0 g hvv10) ?_
        refine Wp.steps 6 (pc1 := 19) (lo1 := [some (.ref 113), some (.int x1), some (.int x2), none, some (.int (x4 ||| (v10 <<< (x5 &&& 31)))), some (.int (x5 + 1))]) (st1 := []) (h1 := mk g) rfl ?_
        exact ih _ _ _ _ e Q K
      · skip
        refine Wp.cF (pc1 := 43) rfl hc9 rfl ?_
        refine Wp.steps 5 (pc1 := 49) (lo1 := [some (.ref 113), some (.int x1), some (.int x2), none, some (.int x4), some (.int x5)]) (st1 := [.int ((x2 >>> (x5 &&& 31)) &&& 1), .int x4]) (h1 := mk g) rfl ?_
        rcases zb_if e with ⟨hc11, e⟩ | ⟨hc11, e⟩
        · skip
          refine Wp.iT (pc1 := 66) rfl hc11 rfl ?_
          refine Wp.steps 1 (pc1 := 67) (lo1 := [some (.ref 113), some (.int x1), some (.int x2), none, some (.int x4), some (.int x5)]) (st1 := [.int 0, .int x4]) (h1 := mk g) rfl ?_
          obtain ⟨v12, hvv12, e⟩ := zb_let e
          refine Wp.ca (m := 108) (d1 := d + 2) (as := [.int 0]) (rest := [.int x4]) (st1 := [.int v12, .int x4]) (pc1 := 70) rfl rfl rfl rfl rfl rfl rfl rfl rfl rfl rfl rfl (w_108 (sc := sc) (d := d + 2) 0 g hvv12) ?_
          refine Wp.steps 6 (pc1 := 19) (lo1 := [some (.ref 113), some (.int x1), some (.int x2), none, some (.int (x4 ||| (v12 <<< (x5 &&& 31)))), some (.int (x5 + 1))]) (st1 := []) (h1 := mk g) rfl ?_
          exact ih _ _ _ _ e Q K
        · skip
          refine Wp.iF (pc1 := 52) rfl hc11 rfl ?_
          refine Wp.steps 3 (pc1 := 56) (lo1 := [some (.ref 113), some (.int x1), some (.int x2), none, some (.int x4), some (.int x5)]) (st1 := [.int x2, .int x5, .ref 113, .int x4]) (h1 := mk g) rfl ?_
          obtain ⟨v13, hvv13, e⟩ := zb_bind e
          refine Wp.ca (m := 151) (d1 := d + 2) (as := [.ref 113, .int x5, .int x2]) (rest := [.int x4]) (st1 := [.int v13, .int x4]) (pc1 := 59) rfl rfl rfl rfl rfl rfl rfl rfl (mk_rok rfl rfl rfl rfl) rfl rfl rfl (w_151 (sc := sc) (d := d) x5 x2 g hvv13) ?_
          rcases zb_if e with ⟨hc14, e⟩ | ⟨hc14, e⟩
          · skip
            refine Wp.iT (pc1 := 66) rfl hc14 rfl ?_
            refine Wp.steps 1 (pc1 := 67) (lo1 := [some (.ref 113), some (.int x1), some (.int x2), none, some (.int x4), some (.int x5)]) (st1 := [.int 0, .int x4]) (h1 := mk g) rfl ?_
            obtain ⟨v15, hvv15, e⟩ := zb_let e
            refine Wp.ca (m := 108) (d1 := d + 2) (as := [.int 0]) (rest := [.int x4]) (st1 := [.int v15, .int x4]) (pc1 := 70) rfl rfl rfl rfl rfl rfl rfl rfl rfl rfl rfl rfl (w_108 (sc := sc) (d := d + 2) 0 g hvv15) ?_
            refine Wp.steps 6 (pc1 := 19) (lo1 := [some (.ref 113), some (.int x1), some (.int x2), none, some (.int (x4 ||| (v15 <<< (x5 &&& 31)))), some (.int (x5 + 1))]) (st1 := []) (h1 := mk g) rfl ?_
            exact ih _ _ _ _ e Q K
          · skip
            refine Wp.iF (pc1 := 62) rfl hc14 rfl ?_
            refine Wp.steps 2 (pc1 := 67) (lo1 := [some (.ref 113), some (.int x1), some (.int x2), none, some (.int x4), some (.int x5)]) (st1 := [.int 1, .int x4]) (h1 := mk g) rfl ?_
            obtain ⟨v16, hvv16, e⟩ := zb_let e
            refine Wp.ca (m := 108) (d1 := d + 2) (as := [.int 1]) (rest := [.int x4]) (st1 := [.int v16, .int x4]) (pc1 := 70) rfl rfl rfl rfl rfl rfl rfl rfl rfl rfl rfl rfl (w_108 (sc := sc) (d := d + 2) 1 g hvv16) ?_
            refine Wp.steps 6 (pc1 := 19) (lo1 := [some (.ref 113), some (.int x1), some (.int x2), none, some (.int (x4 ||| (v16 <<< (x5 &&& 31)))), some (.int (x5 + 1))]) (st1 := []) (h1 := mk g) rfl ?_
            exact ih _ _ _ _ e Q K
def d_163_9 (x1 : Int32) : Nat → Int32 → Bool → G → Option (Int32 × G)
  | 0, _, _, _ => none
  | f + 1, x2, x3, g =>
    bif x3 then (
      d_163_19 x1 x2 g (d_163_9 x1 f) 300 0 0) else
    some (x2, g)
set_option maxRecDepth 100000 in
set_option maxHeartbeats 4000000 in
theorem w_163_9 {sc : Option (List Int32)} {d : Nat} (x1 : Int32) : ∀ (f : Nat) (x2 : Int32) (x3 : Bool) (g : G) (r : Int32) (g' : G), d_163_9 x1 f x2 x3 g = some (r, g') → zB sc (d + 3) 163 9 [some (.ref 113), some (.int x1), some (.int x2), some (.int (zb_i x3)), none, none] [] (mk g) [.int r] (mk g') := by
  intro f
  induction f with
  | zero =>
    intro x2 x3 g r g' e
    rw [d_163_9.eq_1] at e
    cases e
  | succ f ih =>
    intro x2 x3 g r g' e
    rw [d_163_9.eq_2] at e
    intro Q K
    refine Wp.steps 1 (pc1 := 10) (lo1 := [some (.ref 113), some (.int x1), some (.int x2), some (.int (zb_i x3)), none, none]) (st1 := [.int (zb_i x3)]) (h1 := mk g) rfl ?_
    rcases zb_if e with ⟨hc2, e⟩ | ⟨hc2, e⟩
    · skip
      refine Wp.iF (pc1 := 13) rfl (zb_eqF hc2) rfl ?_
      refine Wp.steps 4 (pc1 := 19) (lo1 := [some (.ref 113), some (.int x1), some (.int x2), some (.int (zb_i x3)), some (.int 0), some (.int 0)]) (st1 := []) (h1 := mk g) rfl ?_
      refine Wp.fg [some (.ref 113), some (.int x1), some (.int x2), none, some (.int 0), some (.int 0)] (zm_lle_s (zm_lle_s (zm_lle_s (zm_lle_n (zm_lle_s (zm_lle_s zm_lle_0)))))) ?_
      exact w_163_19 (sc := sc) (d := d) x1 x2 g (d_163_9 x1 f) ih 300 0 0 _ _ e Q K
    · skip
      refine Wp.iT (pc1 := 114) rfl (zb_eqT hc2) rfl ?_
      refine Wp.steps 1 (pc1 := 115) (lo1 := [some (.ref 113), some (.int x1), some (.int x2), some (.int (zb_i x3)), none, none]) (st1 := [.int x2]) (h1 := mk g) rfl ?_
      obtain ⟨e1, e2⟩ := zb_r2 e
      subst e1
      subst e2
      exact Wp.ret rfl rfl rfl (K _)
/-- EveningFirstModel.findMade(I)I -/
def d_163 (x1 : Int32) (g : G) : Option (Int32 × G) :=
  zb_l (zg_up g 113 21 0) fun g1 =>
  d_163_9 x1 300 0 true g1
set_option maxRecDepth 100000 in
set_option maxHeartbeats 4000000 in
theorem w_163 {sc : Option (List Int32)} {d : Nat} (x1 : Int32) (g : G) {r : Int32} {g' : G} (e : d_163 x1 g = some (r, g')) : zB sc (d + 3) 163 0 (zm_ent (z_L 163) [.ref 113, .int x1]) [] (mk g) [.int r] (mk g') := by
  unfold d_163 at e
  intro Q K
  show Wp sc (d + 3) 163 0 [some (.ref 113), some (.int x1), none, none, none, none] [] (mk g) Q
  refine Wp.steps 6 (pc1 := 6) (lo1 := [some (.ref 113), some (.int x1), some (.int 0), some (.int 1), none, none]) (st1 := [.int 0, .ref 113]) (h1 := mk g) rfl ?_
  obtain ⟨g1, hg1, e⟩ := zb_let e
  refine Wp.pf (pc1 := 9) rfl rfl rfl rfl rfl rfl hg1 rfl ?_
  exact w_163_9 (sc := sc) (d := d) x1 300 0 true g1 _ _ e Q K
/-- EveningFirstModel.made(I)I -/
def d_165 (x1 : Int32) (g : G) : Option (Int32 × G) :=
  zb_l (d_107 (Int32.toInt64 x1) 0 2) fun v1 =>
  bif v1 then (
    Option.bind (d_161 g) fun v3 =>
    zb_bp (d_163 v3 g) fun v4 g5 =>
    bif zm_cmp .ne x1 0 then (
      bif zm_cmp .ne x1 1 then (
        some ((g5 113 21), g5)) else
      some ((v3 &&& (v4 ^^^ (-1))), g5)) else
    some (v4, g5)) else
  some ((-1), g)
set_option maxRecDepth 100000 in
set_option maxHeartbeats 4000000 in
theorem w_165 {sc : Option (List Int32)} {d : Nat} (x1 : Int32) (g : G) {r : Int32} {g' : G} (e : d_165 x1 g = some (r, g')) : zB sc (d + 4) 165 0 (zm_ent (z_L 165) [.ref 113, .int x1]) [] (mk g) [.int r] (mk g') := by
  unfold d_165 at e
  intro Q K
  show Wp sc (d + 4) 165 0 [some (.ref 113), some (.int x1), none, none] [] (mk g) Q
  refine Wp.steps 4 (pc1 := 6) (lo1 := [some (.ref 113), some (.int x1), none, none]) (st1 := [.long 2, .long 0, .long (Int32.toInt64 x1)]) (h1 := mk g) rfl ?_
  obtain ⟨v1, hvv1, e⟩ := zb_let e
  refine Wp.ca (m := 107) (d1 := d + 3) (as := [.long (Int32.toInt64 x1), .long 0, .long 2]) (rest := []) (st1 := [.int (zb_i v1)]) (pc1 := 9) rfl rfl rfl rfl rfl rfl rfl rfl rfl rfl rfl rfl (w_107 (sc := sc) (d := d + 3) (Int32.toInt64 x1) 0 2 g hvv1) ?_
  rcases zb_if e with ⟨hc2, e⟩ | ⟨hc2, e⟩
  · skip
    refine Wp.iT (pc1 := 14) rfl (zb_neT hc2) rfl ?_
    refine Wp.steps 1 (pc1 := 15) (lo1 := [some (.ref 113), some (.int x1), none, none]) (st1 := [.ref 113]) (h1 := mk g) rfl ?_
    obtain ⟨v3, hvv3, e⟩ := zb_bind e
    refine Wp.ca (m := 161) (d1 := d + 3) (as := [.ref 113]) (rest := []) (st1 := [.int v3]) (pc1 := 18) rfl rfl rfl rfl rfl rfl rfl rfl (mk_rok rfl rfl rfl rfl) rfl rfl rfl (w_161 (sc := sc) (d := d)  g hvv3) ?_
    refine Wp.steps 3 (pc1 := 21) (lo1 := [some (.ref 113), some (.int x1), some (.int v3), none]) (st1 := [.int v3, .ref 113]) (h1 := mk g) rfl ?_
    obtain ⟨v4, g5, hvv4, e⟩ := zb_bpair e
    refine Wp.ca (m := 163) (d1 := d + 3) (as := [.ref 113, .int v3]) (rest := []) (st1 := [.int v4]) (pc1 := 24) rfl rfl rfl rfl rfl rfl rfl rfl (mk_rok rfl rfl rfl rfl) rfl rfl rfl (w_163 (sc := sc) (d := d) v3 g hvv4) ?_
    refine Wp.steps 2 (pc1 := 26) (lo1 := [some (.ref 113), some (.int x1), some (.int v3), some (.int v4)]) (st1 := [.int x1]) (h1 := mk g5) rfl ?_
    rcases zb_if e with ⟨hc6, e⟩ | ⟨hc6, e⟩
    · skip
      refine Wp.iT (pc1 := 33) rfl hc6 rfl ?_
      refine Wp.steps 2 (pc1 := 35) (lo1 := [some (.ref 113), some (.int x1), some (.int v3), some (.int v4)]) (st1 := [.int 1, .int x1]) (h1 := mk g5) rfl ?_
      rcases zb_if e with ⟨hc7, e⟩ | ⟨hc7, e⟩
      · skip
        refine Wp.cT (pc1 := 46) rfl hc7 rfl ?_
        refine Wp.steps 1 (pc1 := 47) (lo1 := [some (.ref 113), some (.int x1), some (.int v3), some (.int v4)]) (st1 := [.ref 113]) (h1 := mk g5) rfl ?_
        refine Wp.gf (pc1 := 50) (v := .int (g5 113 21)) rfl rfl rfl rfl rfl ?_
        obtain ⟨e1, e2⟩ := zb_r2 e
        subst e1
        subst e2
        exact Wp.ret rfl rfl rfl (K _)
      · skip
        refine Wp.cF (pc1 := 38) rfl hc7 rfl ?_
        refine Wp.steps 6 (pc1 := 50) (lo1 := [some (.ref 113), some (.int x1), some (.int v3), some (.int v4)]) (st1 := [.int (v3 &&& (v4 ^^^ (-1)))]) (h1 := mk g5) rfl ?_
        obtain ⟨e1, e2⟩ := zb_r2 e
        subst e1
        subst e2
        exact Wp.ret rfl rfl rfl (K _)
    · skip
      refine Wp.iF (pc1 := 29) rfl hc6 rfl ?_
      refine Wp.steps 2 (pc1 := 50) (lo1 := [some (.ref 113), some (.int x1), some (.int v3), some (.int v4)]) (st1 := [.int v4]) (h1 := mk g5) rfl ?_
      obtain ⟨e1, e2⟩ := zb_r2 e
      subst e1
      subst e2
      exact Wp.ret rfl rfl rfl (K _)
  · skip
    refine Wp.iF (pc1 := 12) rfl (zb_neF hc2) rfl ?_
    refine Wp.steps 1 (pc1 := 13) (lo1 := [some (.ref 113), some (.int x1), none, none]) (st1 := [.int (-1)]) (h1 := mk g) rfl ?_
    obtain ⟨e1, e2⟩ := zb_r2 e
    subst e1
    subst e2
    exact Wp.ret rfl rfl rfl (K _)
/-- java/lang/Integer.bitCount(I)I -/
def d_190 (x0 : Int32) : Int32 :=
  ((((((((x0 - (((Int32.toUInt32 x0 >>> (Int32.toUInt32 1 &&& Int32.toUInt32 31)).toInt32) &&& 1431655765)) &&& 858993459) + (((Int32.toUInt32 (x0 - (((Int32.toUInt32 x0 >>> (Int32.toUInt32 1 &&& Int32.toUInt32 31)).toInt32) &&& 1431655765)) >>> (Int32.toUInt32 2 &&& Int32.toUInt32 31)).toInt32) &&& 858993459)) + ((Int32.toUInt32 (((x0 - (((Int32.toUInt32 x0 >>> (Int32.toUInt32 1 &&& Int32.toUInt32 31)).toInt32) &&& 1431655765)) &&& 858993459) + (((Int32.toUInt32 (x0 - (((Int32.toUInt32 x0 >>> (Int32.toUInt32 1 &&& Int32.toUInt32 31)).toInt32) &&& 1431655765)) >>> (Int32.toUInt32 2 &&& Int32.toUInt32 31)).toInt32) &&& 858993459)) >>> (Int32.toUInt32 4 &&& Int32.toUInt32 31)).toInt32)) &&& 252645135) + ((Int32.toUInt32 (((((x0 - (((Int32.toUInt32 x0 >>> (Int32.toUInt32 1 &&& Int32.toUInt32 31)).toInt32) &&& 1431655765)) &&& 858993459) + (((Int32.toUInt32 (x0 - (((Int32.toUInt32 x0 >>> (Int32.toUInt32 1 &&& Int32.toUInt32 31)).toInt32) &&& 1431655765)) >>> (Int32.toUInt32 2 &&& Int32.toUInt32 31)).toInt32) &&& 858993459)) + ((Int32.toUInt32 (((x0 - (((Int32.toUInt32 x0 >>> (Int32.toUInt32 1 &&& Int32.toUInt32 31)).toInt32) &&& 1431655765)) &&& 858993459) + (((Int32.toUInt32 (x0 - (((Int32.toUInt32 x0 >>> (Int32.toUInt32 1 &&& Int32.toUInt32 31)).toInt32) &&& 1431655765)) >>> (Int32.toUInt32 2 &&& Int32.toUInt32 31)).toInt32) &&& 858993459)) >>> (Int32.toUInt32 4 &&& Int32.toUInt32 31)).toInt32)) &&& 252645135) >>> (Int32.toUInt32 8 &&& Int32.toUInt32 31)).toInt32)) + ((Int32.toUInt32 ((((((x0 - (((Int32.toUInt32 x0 >>> (Int32.toUInt32 1 &&& Int32.toUInt32 31)).toInt32) &&& 1431655765)) &&& 858993459) + (((Int32.toUInt32 (x0 - (((Int32.toUInt32 x0 >>> (Int32.toUInt32 1 &&& Int32.toUInt32 31)).toInt32) &&& 1431655765)) >>> (Int32.toUInt32 2 &&& Int32.toUInt32 31)).toInt32) &&& 858993459)) + ((Int32.toUInt32 (((x0 - (((Int32.toUInt32 x0 >>> (Int32.toUInt32 1 &&& Int32.toUInt32 31)).toInt32) &&& 1431655765)) &&& 858993459) + (((Int32.toUInt32 (x0 - (((Int32.toUInt32 x0 >>> (Int32.toUInt32 1 &&& Int32.toUInt32 31)).toInt32) &&& 1431655765)) >>> (Int32.toUInt32 2 &&& Int32.toUInt32 31)).toInt32) &&& 858993459)) >>> (Int32.toUInt32 4 &&& Int32.toUInt32 31)).toInt32)) &&& 252645135) + ((Int32.toUInt32 (((((x0 - (((Int32.toUInt32 x0 >>> (Int32.toUInt32 1 &&& Int32.toUInt32 31)).toInt32) &&& 1431655765)) &&& 858993459) + (((Int32.toUInt32 (x0 - (((Int32.toUInt32 x0 >>> (Int32.toUInt32 1 &&& Int32.toUInt32 31)).toInt32) &&& 1431655765)) >>> (Int32.toUInt32 2 &&& Int32.toUInt32 31)).toInt32) &&& 858993459)) + ((Int32.toUInt32 (((x0 - (((Int32.toUInt32 x0 >>> (Int32.toUInt32 1 &&& Int32.toUInt32 31)).toInt32) &&& 1431655765)) &&& 858993459) + (((Int32.toUInt32 (x0 - (((Int32.toUInt32 x0 >>> (Int32.toUInt32 1 &&& Int32.toUInt32 31)).toInt32) &&& 1431655765)) >>> (Int32.toUInt32 2 &&& Int32.toUInt32 31)).toInt32) &&& 858993459)) >>> (Int32.toUInt32 4 &&& Int32.toUInt32 31)).toInt32)) &&& 252645135) >>> (Int32.toUInt32 8 &&& Int32.toUInt32 31)).toInt32)) >>> (Int32.toUInt32 16 &&& Int32.toUInt32 31)).toInt32)) &&& 63)
set_option maxRecDepth 100000 in
set_option maxHeartbeats 4000000 in
theorem w_190 {sc : Option (List Int32)} {d : Nat} (x0 : Int32) (g : G) {r : Int32} (e : d_190 x0 = r) : zB sc (d) 190 0 (zm_ent (z_L 190) [.int x0]) [] (mk g) [.int r] (mk g) := by
  unfold d_190 at e
  intro Q K
  show Wp sc (d) 190 0 [some (.int x0)] [] (mk g) Q
  refine Wp.steps 8 (pc1 := 10) (lo1 := [some (.int (x0 - (((Int32.toUInt32 x0 >>> (Int32.toUInt32 1 &&& Int32.toUInt32 31)).toInt32) &&& 1431655765)))]) (st1 := []) (h1 := mk g) rfl ?_
  refine Wp.steps 8 (pc1 := 22) (lo1 := [some (.int (x0 - (((Int32.toUInt32 x0 >>> (Int32.toUInt32 1 &&& Int32.toUInt32 31)).toInt32) &&& 1431655765)))]) (st1 := [.int (((Int32.toUInt32 (x0 - (((Int32.toUInt32 x0 >>> (Int32.toUInt32 1 &&& Int32.toUInt32 31)).toInt32) &&& 1431655765)) >>> (Int32.toUInt32 2 &&& Int32.toUInt32 31)).toInt32) &&& 858993459), .int ((x0 - (((Int32.toUInt32 x0 >>> (Int32.toUInt32 1 &&& Int32.toUInt32 31)).toInt32) &&& 1431655765)) &&& 858993459)]) (h1 := mk g) rfl ?_
  refine Wp.steps 8 (pc1 := 32) (lo1 := [some (.int (((x0 - (((Int32.toUInt32 x0 >>> (Int32.toUInt32 1 &&& Int32.toUInt32 31)).toInt32) &&& 1431655765)) &&& 858993459) + (((Int32.toUInt32 (x0 - (((Int32.toUInt32 x0 >>> (Int32.toUInt32 1 &&& Int32.toUInt32 31)).toInt32) &&& 1431655765)) >>> (Int32.toUInt32 2 &&& Int32.toUInt32 31)).toInt32) &&& 858993459)))]) (st1 := [.int 252645135, .int ((((x0 - (((Int32.toUInt32 x0 >>> (Int32.toUInt32 1 &&& Int32.toUInt32 31)).toInt32) &&& 1431655765)) &&& 858993459) + (((Int32.toUInt32 (x0 - (((Int32.toUInt32 x0 >>> (Int32.toUInt32 1 &&& Int32.toUInt32 31)).toInt32) &&& 1431655765)) >>> (Int32.toUInt32 2 &&& Int32.toUInt32 31)).toInt32) &&& 858993459)) + ((Int32.toUInt32 (((x0 - (((Int32.toUInt32 x0 >>> (Int32.toUInt32 1 &&& Int32.toUInt32 31)).toInt32) &&& 1431655765)) &&& 858993459) + (((Int32.toUInt32 (x0 - (((Int32.toUInt32 x0 >>> (Int32.toUInt32 1 &&& Int32.toUInt32 31)).toInt32) &&& 1431655765)) >>> (Int32.toUInt32 2 &&& Int32.toUInt32 31)).toInt32) &&& 858993459)) >>> (Int32.toUInt32 4 &&& Int32.toUInt32 31)).toInt32))]) (h1 := mk g) rfl ?_
  refine Wp.steps 8 (pc1 := 41) (lo1 := [some (.int ((((((x0 - (((Int32.toUInt32 x0 >>> (Int32.toUInt32 1 &&& Int32.toUInt32 31)).toInt32) &&& 1431655765)) &&& 858993459) + (((Int32.toUInt32 (x0 - (((Int32.toUInt32 x0 >>> (Int32.toUInt32 1 &&& Int32.toUInt32 31)).toInt32) &&& 1431655765)) >>> (Int32.toUInt32 2 &&& Int32.toUInt32 31)).toInt32) &&& 858993459)) + ((Int32.toUInt32 (((x0 - (((Int32.toUInt32 x0 >>> (Int32.toUInt32 1 &&& Int32.toUInt32 31)).toInt32) &&& 1431655765)) &&& 858993459) + (((Int32.toUInt32 (x0 - (((Int32.toUInt32 x0 >>> (Int32.toUInt32 1 &&& Int32.toUInt32 31)).toInt32) &&& 1431655765)) >>> (Int32.toUInt32 2 &&& Int32.toUInt32 31)).toInt32) &&& 858993459)) >>> (Int32.toUInt32 4 &&& Int32.toUInt32 31)).toInt32)) &&& 252645135) + ((Int32.toUInt32 (((((x0 - (((Int32.toUInt32 x0 >>> (Int32.toUInt32 1 &&& Int32.toUInt32 31)).toInt32) &&& 1431655765)) &&& 858993459) + (((Int32.toUInt32 (x0 - (((Int32.toUInt32 x0 >>> (Int32.toUInt32 1 &&& Int32.toUInt32 31)).toInt32) &&& 1431655765)) >>> (Int32.toUInt32 2 &&& Int32.toUInt32 31)).toInt32) &&& 858993459)) + ((Int32.toUInt32 (((x0 - (((Int32.toUInt32 x0 >>> (Int32.toUInt32 1 &&& Int32.toUInt32 31)).toInt32) &&& 1431655765)) &&& 858993459) + (((Int32.toUInt32 (x0 - (((Int32.toUInt32 x0 >>> (Int32.toUInt32 1 &&& Int32.toUInt32 31)).toInt32) &&& 1431655765)) >>> (Int32.toUInt32 2 &&& Int32.toUInt32 31)).toInt32) &&& 858993459)) >>> (Int32.toUInt32 4 &&& Int32.toUInt32 31)).toInt32)) &&& 252645135) >>> (Int32.toUInt32 8 &&& Int32.toUInt32 31)).toInt32)))]) (st1 := []) (h1 := mk g) rfl ?_
  refine Wp.steps 8 (pc1 := 51) (lo1 := [some (.int (((((((x0 - (((Int32.toUInt32 x0 >>> (Int32.toUInt32 1 &&& Int32.toUInt32 31)).toInt32) &&& 1431655765)) &&& 858993459) + (((Int32.toUInt32 (x0 - (((Int32.toUInt32 x0 >>> (Int32.toUInt32 1 &&& Int32.toUInt32 31)).toInt32) &&& 1431655765)) >>> (Int32.toUInt32 2 &&& Int32.toUInt32 31)).toInt32) &&& 858993459)) + ((Int32.toUInt32 (((x0 - (((Int32.toUInt32 x0 >>> (Int32.toUInt32 1 &&& Int32.toUInt32 31)).toInt32) &&& 1431655765)) &&& 858993459) + (((Int32.toUInt32 (x0 - (((Int32.toUInt32 x0 >>> (Int32.toUInt32 1 &&& Int32.toUInt32 31)).toInt32) &&& 1431655765)) >>> (Int32.toUInt32 2 &&& Int32.toUInt32 31)).toInt32) &&& 858993459)) >>> (Int32.toUInt32 4 &&& Int32.toUInt32 31)).toInt32)) &&& 252645135) + ((Int32.toUInt32 (((((x0 - (((Int32.toUInt32 x0 >>> (Int32.toUInt32 1 &&& Int32.toUInt32 31)).toInt32) &&& 1431655765)) &&& 858993459) + (((Int32.toUInt32 (x0 - (((Int32.toUInt32 x0 >>> (Int32.toUInt32 1 &&& Int32.toUInt32 31)).toInt32) &&& 1431655765)) >>> (Int32.toUInt32 2 &&& Int32.toUInt32 31)).toInt32) &&& 858993459)) + ((Int32.toUInt32 (((x0 - (((Int32.toUInt32 x0 >>> (Int32.toUInt32 1 &&& Int32.toUInt32 31)).toInt32) &&& 1431655765)) &&& 858993459) + (((Int32.toUInt32 (x0 - (((Int32.toUInt32 x0 >>> (Int32.toUInt32 1 &&& Int32.toUInt32 31)).toInt32) &&& 1431655765)) >>> (Int32.toUInt32 2 &&& Int32.toUInt32 31)).toInt32) &&& 858993459)) >>> (Int32.toUInt32 4 &&& Int32.toUInt32 31)).toInt32)) &&& 252645135) >>> (Int32.toUInt32 8 &&& Int32.toUInt32 31)).toInt32)) + ((Int32.toUInt32 ((((((x0 - (((Int32.toUInt32 x0 >>> (Int32.toUInt32 1 &&& Int32.toUInt32 31)).toInt32) &&& 1431655765)) &&& 858993459) + (((Int32.toUInt32 (x0 - (((Int32.toUInt32 x0 >>> (Int32.toUInt32 1 &&& Int32.toUInt32 31)).toInt32) &&& 1431655765)) >>> (Int32.toUInt32 2 &&& Int32.toUInt32 31)).toInt32) &&& 858993459)) + ((Int32.toUInt32 (((x0 - (((Int32.toUInt32 x0 >>> (Int32.toUInt32 1 &&& Int32.toUInt32 31)).toInt32) &&& 1431655765)) &&& 858993459) + (((Int32.toUInt32 (x0 - (((Int32.toUInt32 x0 >>> (Int32.toUInt32 1 &&& Int32.toUInt32 31)).toInt32) &&& 1431655765)) >>> (Int32.toUInt32 2 &&& Int32.toUInt32 31)).toInt32) &&& 858993459)) >>> (Int32.toUInt32 4 &&& Int32.toUInt32 31)).toInt32)) &&& 252645135) + ((Int32.toUInt32 (((((x0 - (((Int32.toUInt32 x0 >>> (Int32.toUInt32 1 &&& Int32.toUInt32 31)).toInt32) &&& 1431655765)) &&& 858993459) + (((Int32.toUInt32 (x0 - (((Int32.toUInt32 x0 >>> (Int32.toUInt32 1 &&& Int32.toUInt32 31)).toInt32) &&& 1431655765)) >>> (Int32.toUInt32 2 &&& Int32.toUInt32 31)).toInt32) &&& 858993459)) + ((Int32.toUInt32 (((x0 - (((Int32.toUInt32 x0 >>> (Int32.toUInt32 1 &&& Int32.toUInt32 31)).toInt32) &&& 1431655765)) &&& 858993459) + (((Int32.toUInt32 (x0 - (((Int32.toUInt32 x0 >>> (Int32.toUInt32 1 &&& Int32.toUInt32 31)).toInt32) &&& 1431655765)) >>> (Int32.toUInt32 2 &&& Int32.toUInt32 31)).toInt32) &&& 858993459)) >>> (Int32.toUInt32 4 &&& Int32.toUInt32 31)).toInt32)) &&& 252645135) >>> (Int32.toUInt32 8 &&& Int32.toUInt32 31)).toInt32)) >>> (Int32.toUInt32 16 &&& Int32.toUInt32 31)).toInt32)))]) (st1 := [.int 63, .int (((((((x0 - (((Int32.toUInt32 x0 >>> (Int32.toUInt32 1 &&& Int32.toUInt32 31)).toInt32) &&& 1431655765)) &&& 858993459) + (((Int32.toUInt32 (x0 - (((Int32.toUInt32 x0 >>> (Int32.toUInt32 1 &&& Int32.toUInt32 31)).toInt32) &&& 1431655765)) >>> (Int32.toUInt32 2 &&& Int32.toUInt32 31)).toInt32) &&& 858993459)) + ((Int32.toUInt32 (((x0 - (((Int32.toUInt32 x0 >>> (Int32.toUInt32 1 &&& Int32.toUInt32 31)).toInt32) &&& 1431655765)) &&& 858993459) + (((Int32.toUInt32 (x0 - (((Int32.toUInt32 x0 >>> (Int32.toUInt32 1 &&& Int32.toUInt32 31)).toInt32) &&& 1431655765)) >>> (Int32.toUInt32 2 &&& Int32.toUInt32 31)).toInt32) &&& 858993459)) >>> (Int32.toUInt32 4 &&& Int32.toUInt32 31)).toInt32)) &&& 252645135) + ((Int32.toUInt32 (((((x0 - (((Int32.toUInt32 x0 >>> (Int32.toUInt32 1 &&& Int32.toUInt32 31)).toInt32) &&& 1431655765)) &&& 858993459) + (((Int32.toUInt32 (x0 - (((Int32.toUInt32 x0 >>> (Int32.toUInt32 1 &&& Int32.toUInt32 31)).toInt32) &&& 1431655765)) >>> (Int32.toUInt32 2 &&& Int32.toUInt32 31)).toInt32) &&& 858993459)) + ((Int32.toUInt32 (((x0 - (((Int32.toUInt32 x0 >>> (Int32.toUInt32 1 &&& Int32.toUInt32 31)).toInt32) &&& 1431655765)) &&& 858993459) + (((Int32.toUInt32 (x0 - (((Int32.toUInt32 x0 >>> (Int32.toUInt32 1 &&& Int32.toUInt32 31)).toInt32) &&& 1431655765)) >>> (Int32.toUInt32 2 &&& Int32.toUInt32 31)).toInt32) &&& 858993459)) >>> (Int32.toUInt32 4 &&& Int32.toUInt32 31)).toInt32)) &&& 252645135) >>> (Int32.toUInt32 8 &&& Int32.toUInt32 31)).toInt32)) + ((Int32.toUInt32 ((((((x0 - (((Int32.toUInt32 x0 >>> (Int32.toUInt32 1 &&& Int32.toUInt32 31)).toInt32) &&& 1431655765)) &&& 858993459) + (((Int32.toUInt32 (x0 - (((Int32.toUInt32 x0 >>> (Int32.toUInt32 1 &&& Int32.toUInt32 31)).toInt32) &&& 1431655765)) >>> (Int32.toUInt32 2 &&& Int32.toUInt32 31)).toInt32) &&& 858993459)) + ((Int32.toUInt32 (((x0 - (((Int32.toUInt32 x0 >>> (Int32.toUInt32 1 &&& Int32.toUInt32 31)).toInt32) &&& 1431655765)) &&& 858993459) + (((Int32.toUInt32 (x0 - (((Int32.toUInt32 x0 >>> (Int32.toUInt32 1 &&& Int32.toUInt32 31)).toInt32) &&& 1431655765)) >>> (Int32.toUInt32 2 &&& Int32.toUInt32 31)).toInt32) &&& 858993459)) >>> (Int32.toUInt32 4 &&& Int32.toUInt32 31)).toInt32)) &&& 252645135) + ((Int32.toUInt32 (((((x0 - (((Int32.toUInt32 x0 >>> (Int32.toUInt32 1 &&& Int32.toUInt32 31)).toInt32) &&& 1431655765)) &&& 858993459) + (((Int32.toUInt32 (x0 - (((Int32.toUInt32 x0 >>> (Int32.toUInt32 1 &&& Int32.toUInt32 31)).toInt32) &&& 1431655765)) >>> (Int32.toUInt32 2 &&& Int32.toUInt32 31)).toInt32) &&& 858993459)) + ((Int32.toUInt32 (((x0 - (((Int32.toUInt32 x0 >>> (Int32.toUInt32 1 &&& Int32.toUInt32 31)).toInt32) &&& 1431655765)) &&& 858993459) + (((Int32.toUInt32 (x0 - (((Int32.toUInt32 x0 >>> (Int32.toUInt32 1 &&& Int32.toUInt32 31)).toInt32) &&& 1431655765)) >>> (Int32.toUInt32 2 &&& Int32.toUInt32 31)).toInt32) &&& 858993459)) >>> (Int32.toUInt32 4 &&& Int32.toUInt32 31)).toInt32)) &&& 252645135) >>> (Int32.toUInt32 8 &&& Int32.toUInt32 31)).toInt32)) >>> (Int32.toUInt32 16 &&& Int32.toUInt32 31)).toInt32))]) (h1 := mk g) rfl ?_
  refine Wp.steps 1 (pc1 := 52) (lo1 := [some (.int (((((((x0 - (((Int32.toUInt32 x0 >>> (Int32.toUInt32 1 &&& Int32.toUInt32 31)).toInt32) &&& 1431655765)) &&& 858993459) + (((Int32.toUInt32 (x0 - (((Int32.toUInt32 x0 >>> (Int32.toUInt32 1 &&& Int32.toUInt32 31)).toInt32) &&& 1431655765)) >>> (Int32.toUInt32 2 &&& Int32.toUInt32 31)).toInt32) &&& 858993459)) + ((Int32.toUInt32 (((x0 - (((Int32.toUInt32 x0 >>> (Int32.toUInt32 1 &&& Int32.toUInt32 31)).toInt32) &&& 1431655765)) &&& 858993459) + (((Int32.toUInt32 (x0 - (((Int32.toUInt32 x0 >>> (Int32.toUInt32 1 &&& Int32.toUInt32 31)).toInt32) &&& 1431655765)) >>> (Int32.toUInt32 2 &&& Int32.toUInt32 31)).toInt32) &&& 858993459)) >>> (Int32.toUInt32 4 &&& Int32.toUInt32 31)).toInt32)) &&& 252645135) + ((Int32.toUInt32 (((((x0 - (((Int32.toUInt32 x0 >>> (Int32.toUInt32 1 &&& Int32.toUInt32 31)).toInt32) &&& 1431655765)) &&& 858993459) + (((Int32.toUInt32 (x0 - (((Int32.toUInt32 x0 >>> (Int32.toUInt32 1 &&& Int32.toUInt32 31)).toInt32) &&& 1431655765)) >>> (Int32.toUInt32 2 &&& Int32.toUInt32 31)).toInt32) &&& 858993459)) + ((Int32.toUInt32 (((x0 - (((Int32.toUInt32 x0 >>> (Int32.toUInt32 1 &&& Int32.toUInt32 31)).toInt32) &&& 1431655765)) &&& 858993459) + (((Int32.toUInt32 (x0 - (((Int32.toUInt32 x0 >>> (Int32.toUInt32 1 &&& Int32.toUInt32 31)).toInt32) &&& 1431655765)) >>> (Int32.toUInt32 2 &&& Int32.toUInt32 31)).toInt32) &&& 858993459)) >>> (Int32.toUInt32 4 &&& Int32.toUInt32 31)).toInt32)) &&& 252645135) >>> (Int32.toUInt32 8 &&& Int32.toUInt32 31)).toInt32)) + ((Int32.toUInt32 ((((((x0 - (((Int32.toUInt32 x0 >>> (Int32.toUInt32 1 &&& Int32.toUInt32 31)).toInt32) &&& 1431655765)) &&& 858993459) + (((Int32.toUInt32 (x0 - (((Int32.toUInt32 x0 >>> (Int32.toUInt32 1 &&& Int32.toUInt32 31)).toInt32) &&& 1431655765)) >>> (Int32.toUInt32 2 &&& Int32.toUInt32 31)).toInt32) &&& 858993459)) + ((Int32.toUInt32 (((x0 - (((Int32.toUInt32 x0 >>> (Int32.toUInt32 1 &&& Int32.toUInt32 31)).toInt32) &&& 1431655765)) &&& 858993459) + (((Int32.toUInt32 (x0 - (((Int32.toUInt32 x0 >>> (Int32.toUInt32 1 &&& Int32.toUInt32 31)).toInt32) &&& 1431655765)) >>> (Int32.toUInt32 2 &&& Int32.toUInt32 31)).toInt32) &&& 858993459)) >>> (Int32.toUInt32 4 &&& Int32.toUInt32 31)).toInt32)) &&& 252645135) + ((Int32.toUInt32 (((((x0 - (((Int32.toUInt32 x0 >>> (Int32.toUInt32 1 &&& Int32.toUInt32 31)).toInt32) &&& 1431655765)) &&& 858993459) + (((Int32.toUInt32 (x0 - (((Int32.toUInt32 x0 >>> (Int32.toUInt32 1 &&& Int32.toUInt32 31)).toInt32) &&& 1431655765)) >>> (Int32.toUInt32 2 &&& Int32.toUInt32 31)).toInt32) &&& 858993459)) + ((Int32.toUInt32 (((x0 - (((Int32.toUInt32 x0 >>> (Int32.toUInt32 1 &&& Int32.toUInt32 31)).toInt32) &&& 1431655765)) &&& 858993459) + (((Int32.toUInt32 (x0 - (((Int32.toUInt32 x0 >>> (Int32.toUInt32 1 &&& Int32.toUInt32 31)).toInt32) &&& 1431655765)) >>> (Int32.toUInt32 2 &&& Int32.toUInt32 31)).toInt32) &&& 858993459)) >>> (Int32.toUInt32 4 &&& Int32.toUInt32 31)).toInt32)) &&& 252645135) >>> (Int32.toUInt32 8 &&& Int32.toUInt32 31)).toInt32)) >>> (Int32.toUInt32 16 &&& Int32.toUInt32 31)).toInt32)))]) (st1 := [.int ((((((((x0 - (((Int32.toUInt32 x0 >>> (Int32.toUInt32 1 &&& Int32.toUInt32 31)).toInt32) &&& 1431655765)) &&& 858993459) + (((Int32.toUInt32 (x0 - (((Int32.toUInt32 x0 >>> (Int32.toUInt32 1 &&& Int32.toUInt32 31)).toInt32) &&& 1431655765)) >>> (Int32.toUInt32 2 &&& Int32.toUInt32 31)).toInt32) &&& 858993459)) + ((Int32.toUInt32 (((x0 - (((Int32.toUInt32 x0 >>> (Int32.toUInt32 1 &&& Int32.toUInt32 31)).toInt32) &&& 1431655765)) &&& 858993459) + (((Int32.toUInt32 (x0 - (((Int32.toUInt32 x0 >>> (Int32.toUInt32 1 &&& Int32.toUInt32 31)).toInt32) &&& 1431655765)) >>> (Int32.toUInt32 2 &&& Int32.toUInt32 31)).toInt32) &&& 858993459)) >>> (Int32.toUInt32 4 &&& Int32.toUInt32 31)).toInt32)) &&& 252645135) + ((Int32.toUInt32 (((((x0 - (((Int32.toUInt32 x0 >>> (Int32.toUInt32 1 &&& Int32.toUInt32 31)).toInt32) &&& 1431655765)) &&& 858993459) + (((Int32.toUInt32 (x0 - (((Int32.toUInt32 x0 >>> (Int32.toUInt32 1 &&& Int32.toUInt32 31)).toInt32) &&& 1431655765)) >>> (Int32.toUInt32 2 &&& Int32.toUInt32 31)).toInt32) &&& 858993459)) + ((Int32.toUInt32 (((x0 - (((Int32.toUInt32 x0 >>> (Int32.toUInt32 1 &&& Int32.toUInt32 31)).toInt32) &&& 1431655765)) &&& 858993459) + (((Int32.toUInt32 (x0 - (((Int32.toUInt32 x0 >>> (Int32.toUInt32 1 &&& Int32.toUInt32 31)).toInt32) &&& 1431655765)) >>> (Int32.toUInt32 2 &&& Int32.toUInt32 31)).toInt32) &&& 858993459)) >>> (Int32.toUInt32 4 &&& Int32.toUInt32 31)).toInt32)) &&& 252645135) >>> (Int32.toUInt32 8 &&& Int32.toUInt32 31)).toInt32)) + ((Int32.toUInt32 ((((((x0 - (((Int32.toUInt32 x0 >>> (Int32.toUInt32 1 &&& Int32.toUInt32 31)).toInt32) &&& 1431655765)) &&& 858993459) + (((Int32.toUInt32 (x0 - (((Int32.toUInt32 x0 >>> (Int32.toUInt32 1 &&& Int32.toUInt32 31)).toInt32) &&& 1431655765)) >>> (Int32.toUInt32 2 &&& Int32.toUInt32 31)).toInt32) &&& 858993459)) + ((Int32.toUInt32 (((x0 - (((Int32.toUInt32 x0 >>> (Int32.toUInt32 1 &&& Int32.toUInt32 31)).toInt32) &&& 1431655765)) &&& 858993459) + (((Int32.toUInt32 (x0 - (((Int32.toUInt32 x0 >>> (Int32.toUInt32 1 &&& Int32.toUInt32 31)).toInt32) &&& 1431655765)) >>> (Int32.toUInt32 2 &&& Int32.toUInt32 31)).toInt32) &&& 858993459)) >>> (Int32.toUInt32 4 &&& Int32.toUInt32 31)).toInt32)) &&& 252645135) + ((Int32.toUInt32 (((((x0 - (((Int32.toUInt32 x0 >>> (Int32.toUInt32 1 &&& Int32.toUInt32 31)).toInt32) &&& 1431655765)) &&& 858993459) + (((Int32.toUInt32 (x0 - (((Int32.toUInt32 x0 >>> (Int32.toUInt32 1 &&& Int32.toUInt32 31)).toInt32) &&& 1431655765)) >>> (Int32.toUInt32 2 &&& Int32.toUInt32 31)).toInt32) &&& 858993459)) + ((Int32.toUInt32 (((x0 - (((Int32.toUInt32 x0 >>> (Int32.toUInt32 1 &&& Int32.toUInt32 31)).toInt32) &&& 1431655765)) &&& 858993459) + (((Int32.toUInt32 (x0 - (((Int32.toUInt32 x0 >>> (Int32.toUInt32 1 &&& Int32.toUInt32 31)).toInt32) &&& 1431655765)) >>> (Int32.toUInt32 2 &&& Int32.toUInt32 31)).toInt32) &&& 858993459)) >>> (Int32.toUInt32 4 &&& Int32.toUInt32 31)).toInt32)) &&& 252645135) >>> (Int32.toUInt32 8 &&& Int32.toUInt32 31)).toInt32)) >>> (Int32.toUInt32 16 &&& Int32.toUInt32 31)).toInt32)) &&& 63)]) (h1 := mk g) rfl ?_
  have e1 := e
  subst e1
  exact Wp.ret rfl rfl rfl (K _)
