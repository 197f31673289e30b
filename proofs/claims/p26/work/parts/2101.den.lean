/-! printed by wip/tools/den.py -/
def d_41_28 (w1 : Nat) (g : G) : Nat → Int32 → Option Bool
  | 0, _ => none
  | f + 1, x2 =>
    zb_l (zs_ln w1) fun v4 =>
    bif zm_cmp .ge x2 v4 then (
      some true) else
    Option.bind (zm_ix ((g 28 9) + x2) 160) fun k6 =>
    Option.bind (zs_ch w1 x2) fun v7 =>
    bif zm_cmp .eq (g 29 k6) v7 then (
      d_41_28 w1 g f (x2 + 1)) else
    some false
set_option maxRecDepth 100000 in
set_option maxHeartbeats 4000000 in
theorem w_41_28 {sc : Option (List Int32)} {d : Nat} (w1 : Nat) (hw1 : w1 < 9) (g : G) : ∀ (f : Nat) (x2 : Int32) (r : Bool), d_41_28 w1 g f x2 = some r → zB sc (d + 5) 41 28 [some (.ref 28), some (.ref (zm_SP + 1 + w1)), some (.int x2)] [] (mk g) [.int (zb_i r)] (mk g) := by
  intro f
  induction f with
  | zero =>
    intro x2 r e
    rw [d_41_28.eq_1] at e
    cases e
  | succ f ih =>
    intro x2 r e
    rw [d_41_28.eq_2] at e
    intro Q K
    refine Wp.steps 2 (pc1 := 30) (lo1 := [some (.ref 28), some (.ref (zm_SP + 1 + w1)), some (.int x2)]) (st1 := [.ref (zm_SP + 1 + w1), .int x2]) (h1 := mk g) rfl ?_
    obtain ⟨v4, hv4, e⟩ := zb_let e
    refine Wp.ca (m := 191) (d1 := d + 4) (as := [.ref (zm_SP + 1 + w1)]) (rest := [.int x2]) (st1 := [.int v4, .int x2]) (pc1 := 33) rfl rfl rfl rfl rfl rfl rfl rfl (zs_rok hw1 rfl) rfl rfl rfl (zs_wln (sc := sc) (d := d) (h := mk g) hw1 hv4) ?_
    rcases zb_if e with ⟨hc5, e⟩ | ⟨hc5, e⟩
    · skip
      refine Wp.cT (pc1 := 63) rfl hc5 rfl ?_
      refine Wp.steps 1 (pc1 := 64) (lo1 := [some (.ref 28), some (.ref (zm_SP + 1 + w1)), some (.int x2)]) (st1 := [.int 1]) (h1 := mk g) rfl ?_
      have e1 := zb_r1 e
      subst e1
      exact Wp.ret rfl rfl rfl (K _)
    · skip
      refine Wp.cF (pc1 := 36) rfl hc5 rfl ?_
      refine Wp.steps 1 (pc1 := 37) (lo1 := [some (.ref 28), some (.ref (zm_SP + 1 + w1)), some (.int x2)]) (st1 := [.ref 28]) (h1 := mk g) rfl ?_
      refine Wp.gf (pc1 := 40) (v := .ref 29) rfl rfl rfl rfl rfl ?_
      refine Wp.steps 1 (pc1 := 41) (lo1 := [some (.ref 28), some (.ref (zm_SP + 1 + w1)), some (.int x2)]) (st1 := [.ref 28, .ref 29]) (h1 := mk g) rfl ?_
      refine Wp.gf (pc1 := 44) (v := .int (g 28 9)) rfl rfl rfl rfl rfl ?_
      refine Wp.steps 2 (pc1 := 46) (lo1 := [some (.ref 28), some (.ref (zm_SP + 1 + w1)), some (.int x2)]) (st1 := [.int ((g 28 9) + x2), .ref 29]) (h1 := mk g) rfl ?_
      obtain ⟨k6, hk6, e⟩ := zb_bind e
      refine Wp.ba (pc1 := 47) rfl rfl rfl hk6 rfl ?_
      refine Wp.steps 2 (pc1 := 49) (lo1 := [some (.ref 28), some (.ref (zm_SP + 1 + w1)), some (.int x2)]) (st1 := [.int x2, .ref (zm_SP + 1 + w1), .int (g 29 k6)]) (h1 := mk g) rfl ?_
      obtain ⟨v7, hv7, e⟩ := zb_bind e
      refine Wp.ca (m := 192) (d1 := d + 4) (as := [.ref (zm_SP + 1 + w1), .int x2]) (rest := [.int (g 29 k6)]) (st1 := [.int v7, .int (g 29 k6)]) (pc1 := 52) rfl rfl rfl rfl rfl rfl rfl rfl (zs_rok hw1 rfl) rfl rfl rfl (zs_wch (sc := sc) (d := d) (h := mk g) hw1 hv7) ?_
      rcases zb_if e with ⟨hc8, e⟩ | ⟨hc8, e⟩
      · skip
        refine Wp.cT (pc1 := 57) rfl hc8 rfl ?_
        refine Wp.steps 2 (pc1 := 28) (lo1 := [some (.ref 28), some (.ref (zm_SP + 1 + w1)), some (.int (x2 + 1))]) (st1 := []) (h1 := mk g) rfl ?_
        exact ih _ _ e Q K
      · skip
        refine Wp.cF (pc1 := 55) rfl hc8 rfl ?_
        refine Wp.steps 1 (pc1 := 56) (lo1 := [some (.ref 28), some (.ref (zm_SP + 1 + w1)), some (.int x2)]) (st1 := [.int 0]) (h1 := mk g) rfl ?_
        have e1 := zb_r1 e
        subst e1
        exact Wp.ret rfl rfl rfl (K _)
/-- EveningFirst$Reader.isName(Ljava/lang/String;)Z -/
def d_41 (w1 : Nat) (g : G) : Option Bool :=
  bif zm_cmp .ne (g 28 8) 1 then (
    some false) else
  zb_l (zs_ln w1) fun v2 =>
  bif zm_cmp .eq ((g 28 10) - (g 28 9)) v2 then (
    d_41_28 w1 g 300 0) else
  some false
set_option maxRecDepth 100000 in
set_option maxHeartbeats 4000000 in
theorem w_41 {sc : Option (List Int32)} {d : Nat} (w1 : Nat) (hw1 : w1 < 9) (g : G) {r : Bool} (e : d_41 w1 g = some r) : zB sc (d + 5) 41 0 (zm_ent (z_L 41) [.ref 28, .ref (zm_SP + 1 + w1)]) [] (mk g) [.int (zb_i r)] (mk g) := by
  unfold d_41 at e
  intro Q K
  show Wp sc (d + 5) 41 0 [some (.ref 28), some (.ref (zm_SP + 1 + w1)), none] [] (mk g) Q
  refine Wp.steps 1 (pc1 := 1) (lo1 := [some (.ref 28), some (.ref (zm_SP + 1 + w1)), none]) (st1 := [.ref 28]) (h1 := mk g) rfl ?_
  refine Wp.gf (pc1 := 4) (v := .int (g 28 8)) rfl rfl rfl rfl rfl ?_
  refine Wp.steps 1 (pc1 := 5) (lo1 := [some (.ref 28), some (.ref (zm_SP + 1 + w1)), none]) (st1 := [.int 1, .int (g 28 8)]) (h1 := mk g) rfl ?_
  rcases zb_if e with ⟨hc1, e⟩ | ⟨hc1, e⟩
  · skip
    refine Wp.cT (pc1 := 24) rfl hc1 rfl ?_
    refine Wp.steps 1 (pc1 := 25) (lo1 := [some (.ref 28), some (.ref (zm_SP + 1 + w1)), none]) (st1 := [.int 0]) (h1 := mk g) rfl ?_
    have e1 := zb_r1 e
    subst e1
    exact Wp.ret rfl rfl rfl (K _)
  · skip
    refine Wp.cF (pc1 := 8) rfl hc1 rfl ?_
    refine Wp.steps 1 (pc1 := 9) (lo1 := [some (.ref 28), some (.ref (zm_SP + 1 + w1)), none]) (st1 := [.ref 28]) (h1 := mk g) rfl ?_
    refine Wp.gf (pc1 := 12) (v := .int (g 28 10)) rfl rfl rfl rfl rfl ?_
    refine Wp.steps 1 (pc1 := 13) (lo1 := [some (.ref 28), some (.ref (zm_SP + 1 + w1)), none]) (st1 := [.ref 28, .int (g 28 10)]) (h1 := mk g) rfl ?_
    refine Wp.gf (pc1 := 16) (v := .int (g 28 9)) rfl rfl rfl rfl rfl ?_
    refine Wp.steps 2 (pc1 := 18) (lo1 := [some (.ref 28), some (.ref (zm_SP + 1 + w1)), none]) (st1 := [.ref (zm_SP + 1 + w1), .int ((g 28 10) - (g 28 9))]) (h1 := mk g) rfl ?_
    obtain ⟨v2, hv2, e⟩ := zb_let e
    refine Wp.ca (m := 191) (d1 := d + 4) (as := [.ref (zm_SP + 1 + w1)]) (rest := [.int ((g 28 10) - (g 28 9))]) (st1 := [.int v2, .int ((g 28 10) - (g 28 9))]) (pc1 := 21) rfl rfl rfl rfl rfl rfl rfl rfl (zs_rok hw1 rfl) rfl rfl rfl (zs_wln (sc := sc) (d := d) (h := mk g) hw1 hv2) ?_
    rcases zb_if e with ⟨hc3, e⟩ | ⟨hc3, e⟩
    · skip
      refine Wp.cT (pc1 := 26) rfl hc3 rfl ?_
      refine Wp.steps 2 (pc1 := 28) (lo1 := [some (.ref 28), some (.ref (zm_SP + 1 + w1)), some (.int 0)]) (st1 := []) (h1 := mk g) rfl ?_
      exact w_41_28 (sc := sc) (d := d) w1 hw1 g 300 0 _ e Q K
    · skip
      refine Wp.cF (pc1 := 24) rfl hc3 rfl ?_
      refine Wp.steps 1 (pc1 := 25) (lo1 := [some (.ref 28), some (.ref (zm_SP + 1 + w1)), none]) (st1 := [.int 0]) (h1 := mk g) rfl ?_
      have e1 := zb_r1 e
      subst e1
      exact Wp.ret rfl rfl rfl (K _)
/-- EveningFirst$Reader.isNumber(II)Z -/
def d_40 (x1 : Int32) (x2 : Int32) (g : G) : Bool × G :=
  bif zm_cmp .eq (g 28 8) 2 then (
    bif zm_cmp .lt (g 28 11) x1 then (
      zb_p (d_44 3 (g 28 9) g) fun v3 g4 =>
      bif v3 then (
        (true, g4)) else
      (false, g4)) else
    bif zm_cmp .le (g 28 11) x2 then (
      (true, g)) else
    zb_p (d_44 3 (g 28 9) g) fun v7 g8 =>
    bif v7 then (
      (true, g8)) else
    (false, g8)) else
  zb_p (d_44 2 (g 28 9) g) fun v10 g11 =>
  (v10, g11)
set_option maxRecDepth 100000 in
set_option maxHeartbeats 4000000 in
theorem w_40 {sc : Option (List Int32)} {d : Nat} (x1 : Int32) (x2 : Int32) (g : G) {r : Bool} {g' : G} (e : d_40 x1 x2 g = (r, g')) : zB sc (d + 1) 40 0 (zm_ent (z_L 40) [.ref 28, .int x1, .int x2]) [] (mk g) [.int (zb_i r)] (mk g') := by
  unfold d_40 at e
  intro Q K
  show Wp sc (d + 1) 40 0 [some (.ref 28), some (.int x1), some (.int x2)] [] (mk g) Q
  refine Wp.steps 1 (pc1 := 1) (lo1 := [some (.ref 28), some (.int x1), some (.int x2)]) (st1 := [.ref 28]) (h1 := mk g) rfl ?_
  refine Wp.gf (pc1 := 4) (v := .int (g 28 8)) rfl rfl rfl rfl rfl ?_
  refine Wp.steps 1 (pc1 := 5) (lo1 := [some (.ref 28), some (.int x1), some (.int x2)]) (st1 := [.int 2, .int (g 28 8)]) (h1 := mk g) rfl ?_
  rcases zb_if e with ⟨hc1, e⟩ | ⟨hc1, e⟩
  · skip
    refine Wp.cT (pc1 := 18) rfl hc1 rfl ?_
    refine Wp.steps 1 (pc1 := 19) (lo1 := [some (.ref 28), some (.int x1), some (.int x2)]) (st1 := [.ref 28]) (h1 := mk g) rfl ?_
    refine Wp.gf (pc1 := 22) (v := .int (g 28 11)) rfl rfl rfl rfl rfl ?_
    refine Wp.steps 1 (pc1 := 23) (lo1 := [some (.ref 28), some (.int x1), some (.int x2)]) (st1 := [.int x1, .int (g 28 11)]) (h1 := mk g) rfl ?_
    rcases zb_if e with ⟨hc2, e⟩ | ⟨hc2, e⟩
    · skip
      refine Wp.cT (pc1 := 34) rfl hc2 rfl ?_
      refine Wp.steps 3 (pc1 := 37) (lo1 := [some (.ref 28), some (.int x1), some (.int x2)]) (st1 := [.ref 28, .int 3, .ref 28]) (h1 := mk g) rfl ?_
      refine Wp.gf (pc1 := 40) (v := .int (g 28 9)) rfl rfl rfl rfl rfl ?_
      obtain ⟨v3, g4, hvv3, e⟩ := zb_pair e
      refine Wp.ca (m := 44) (d1 := d) (as := [.ref 28, .int 3, .int (g 28 9)]) (rest := []) (st1 := [.int (zb_i v3)]) (pc1 := 43) rfl rfl rfl rfl rfl rfl rfl rfl (mk_rok rfl rfl rfl rfl) rfl rfl rfl (w_44 (sc := sc) (d := d) 3 (g 28 9) g hvv3) ?_
      rcases zb_if e with ⟨hc5, e⟩ | ⟨hc5, e⟩
      · skip
        refine Wp.iF (pc1 := 46) rfl (zb_eqF hc5) rfl ?_
        refine Wp.steps 2 (pc1 := 51) (lo1 := [some (.ref 28), some (.int x1), some (.int x2)]) (st1 := [.int 1]) (h1 := mk g4) rfl ?_
        obtain ⟨e1, e2⟩ := zb_q2 e
        subst e1
        subst e2
        exact Wp.ret rfl rfl rfl (K _)
      · skip
        refine Wp.iT (pc1 := 50) rfl (zb_eqT hc5) rfl ?_
        refine Wp.steps 1 (pc1 := 51) (lo1 := [some (.ref 28), some (.int x1), some (.int x2)]) (st1 := [.int 0]) (h1 := mk g4) rfl ?_
        obtain ⟨e1, e2⟩ := zb_q2 e
        subst e1
        subst e2
        exact Wp.ret rfl rfl rfl (K _)
    · skip
      refine Wp.cF (pc1 := 26) rfl hc2 rfl ?_
      refine Wp.steps 1 (pc1 := 27) (lo1 := [some (.ref 28), some (.int x1), some (.int x2)]) (st1 := [.ref 28]) (h1 := mk g) rfl ?_
      refine Wp.gf (pc1 := 30) (v := .int (g 28 11)) rfl rfl rfl rfl rfl ?_
      refine Wp.steps 1 (pc1 := 31) (lo1 := [some (.ref 28), some (.int x1), some (.int x2)]) (st1 := [.int x2, .int (g 28 11)]) (h1 := mk g) rfl ?_
      rcases zb_if e with ⟨hc6, e⟩ | ⟨hc6, e⟩
      · skip
        refine Wp.cT (pc1 := 46) rfl hc6 rfl ?_
        refine Wp.steps 2 (pc1 := 51) (lo1 := [some (.ref 28), some (.int x1), some (.int x2)]) (st1 := [.int 1]) (h1 := mk g) rfl ?_
        obtain ⟨e1, e2⟩ := zb_q2 e
        subst e1
        subst e2
        exact Wp.ret rfl rfl rfl (K _)
      · skip
        refine Wp.cF (pc1 := 34) rfl hc6 rfl ?_
        refine Wp.steps 3 (pc1 := 37) (lo1 := [some (.ref 28), some (.int x1), some (.int x2)]) (st1 := [.ref 28, .int 3, .ref 28]) (h1 := mk g) rfl ?_
        refine Wp.gf (pc1 := 40) (v := .int (g 28 9)) rfl rfl rfl rfl rfl ?_
        obtain ⟨v7, g8, hvv7, e⟩ := zb_pair e
        refine Wp.ca (m := 44) (d1 := d) (as := [.ref 28, .int 3, .int (g 28 9)]) (rest := []) (st1 := [.int (zb_i v7)]) (pc1 := 43) rfl rfl rfl rfl rfl rfl rfl rfl (mk_rok rfl rfl rfl rfl) rfl rfl rfl (w_44 (sc := sc) (d := d) 3 (g 28 9) g hvv7) ?_
        rcases zb_if e with ⟨hc9, e⟩ | ⟨hc9, e⟩
        · skip
          refine Wp.iF (pc1 := 46) rfl (zb_eqF hc9) rfl ?_
          refine Wp.steps 2 (pc1 := 51) (lo1 := [some (.ref 28), some (.int x1), some (.int x2)]) (st1 := [.int 1]) (h1 := mk g8) rfl ?_
          obtain ⟨e1, e2⟩ := zb_q2 e
          subst e1
          subst e2
          exact Wp.ret rfl rfl rfl (K _)
        · skip
          refine Wp.iT (pc1 := 50) rfl (zb_eqT hc9) rfl ?_
          refine Wp.steps 1 (pc1 := 51) (lo1 := [some (.ref 28), some (.int x1), some (.int x2)]) (st1 := [.int 0]) (h1 := mk g8) rfl ?_
          obtain ⟨e1, e2⟩ := zb_q2 e
          subst e1
          subst e2
          exact Wp.ret rfl rfl rfl (K _)
  · skip
    refine Wp.cF (pc1 := 8) rfl hc1 rfl ?_
    refine Wp.steps 3 (pc1 := 11) (lo1 := [some (.ref 28), some (.int x1), some (.int x2)]) (st1 := [.ref 28, .int 2, .ref 28]) (h1 := mk g) rfl ?_
    refine Wp.gf (pc1 := 14) (v := .int (g 28 9)) rfl rfl rfl rfl rfl ?_
    obtain ⟨v10, g11, hvv10, e⟩ := zb_pair e
    refine Wp.ca (m := 44) (d1 := d) (as := [.ref 28, .int 2, .int (g 28 9)]) (rest := []) (st1 := [.int (zb_i v10)]) (pc1 := 17) rfl rfl rfl rfl rfl rfl rfl rfl (mk_rok rfl rfl rfl rfl) rfl rfl rfl (w_44 (sc := sc) (d := d) 2 (g 28 9) g hvv10) ?_
    obtain ⟨e1, e2⟩ := zb_q2 e
    subst e1
    subst e2
    exact Wp.ret rfl rfl (zb_ok _) (K _)
/-- EveningFirst$Reader.takeNumber(II)Z -/
def d_38 (x1 : Int32) (x2 : Int32) (g : G) : Option (Bool × G) :=
  zb_bp (d_42 g) fun v1 g2 =>
  bif v1 then (
    zb_p (d_40 x1 x2 g2) fun v4 g5 =>
    bif v4 then (
      some (true, g5)) else
    some (false, g5)) else
  some (false, g2)
set_option maxRecDepth 100000 in
set_option maxHeartbeats 4000000 in
theorem w_38 {sc : Option (List Int32)} {d : Nat} (x1 : Int32) (x2 : Int32) (g : G) {r : Bool} {g' : G} (e : d_38 x1 x2 g = some (r, g')) : zB sc (d + 2) 38 0 (zm_ent (z_L 38) [.ref 28, .int x1, .int x2]) [] (mk g) [.int (zb_i r)] (mk g') := by
  unfold d_38 at e
  intro Q K
  show Wp sc (d + 2) 38 0 [some (.ref 28), some (.int x1), some (.int x2)] [] (mk g) Q
  refine Wp.steps 1 (pc1 := 1) (lo1 := [some (.ref 28), some (.int x1), some (.int x2)]) (st1 := [.ref 28]) (h1 := mk g) rfl ?_
  obtain ⟨v1, g2, hvv1, e⟩ := zb_bpair e
  refine Wp.ca (m := 42) (d1 := d + 1) (as := [.ref 28]) (rest := []) (st1 := [.int (zb_i v1)]) (pc1 := 4) rfl rfl rfl rfl rfl rfl rfl rfl (mk_rok rfl rfl rfl rfl) rfl rfl rfl (w_42 (sc := sc) (d := d)  g hvv1) ?_
  rcases zb_if e with ⟨hc3, e⟩ | ⟨hc3, e⟩
  · skip
    refine Wp.iF (pc1 := 7) rfl (zb_eqF hc3) rfl ?_
    refine Wp.steps 3 (pc1 := 10) (lo1 := [some (.ref 28), some (.int x1), some (.int x2)]) (st1 := [.int x2, .int x1, .ref 28]) (h1 := mk g2) rfl ?_
    obtain ⟨v4, g5, hvv4, e⟩ := zb_pair e
    refine Wp.ca (m := 40) (d1 := d + 1) (as := [.ref 28, .int x1, .int x2]) (rest := []) (st1 := [.int (zb_i v4)]) (pc1 := 13) rfl rfl rfl rfl rfl rfl rfl rfl (mk_rok rfl rfl rfl rfl) rfl rfl rfl (w_40 (sc := sc) (d := d) x1 x2 g2 hvv4) ?_
    rcases zb_if e with ⟨hc6, e⟩ | ⟨hc6, e⟩
    · skip
      refine Wp.iF (pc1 := 16) rfl (zb_eqF hc6) rfl ?_
      refine Wp.steps 2 (pc1 := 21) (lo1 := [some (.ref 28), some (.int x1), some (.int x2)]) (st1 := [.int 1]) (h1 := mk g5) rfl ?_
      obtain ⟨e1, e2⟩ := zb_r2 e
      subst e1
      subst e2
      exact Wp.ret rfl rfl rfl (K _)
    · skip
      refine Wp.iT (pc1 := 20) rfl (zb_eqT hc6) rfl ?_
      refine Wp.steps 1 (pc1 := 21) (lo1 := [some (.ref 28), some (.int x1), some (.int x2)]) (st1 := [.int 0]) (h1 := mk g5) rfl ?_
      obtain ⟨e1, e2⟩ := zb_r2 e
      subst e1
      subst e2
      exact Wp.ret rfl rfl rfl (K _)
  · skip
    refine Wp.iT (pc1 := 20) rfl (zb_eqT hc3) rfl ?_
    refine Wp.steps 1 (pc1 := 21) (lo1 := [some (.ref 28), some (.int x1), some (.int x2)]) (st1 := [.int 0]) (h1 := mk g2) rfl ?_
    obtain ⟨e1, e2⟩ := zb_r2 e
    subst e1
    subst e2
    exact Wp.ret rfl rfl rfl (K _)
/-- EveningFirst$Reader.takeSemicolon()Z -/
def d_39 (g : G) : Option (Bool × G) :=
  zb_bp (d_42 g) fun v1 g2 =>
  bif v1 then (
    bif zm_cmp .eq (g2 28 8) 3 then (
      some (true, g2)) else
    zb_p (d_44 2 (g2 28 9) g2) fun v5 g6 =>
    bif v5 then (
      some (true, g6)) else
    some (false, g6)) else
  some (false, g2)
set_option maxRecDepth 100000 in
set_option maxHeartbeats 4000000 in
theorem w_39 {sc : Option (List Int32)} {d : Nat} (g : G) {r : Bool} {g' : G} (e : d_39 g = some (r, g')) : zB sc (d + 2) 39 0 (zm_ent (z_L 39) [.ref 28]) [] (mk g) [.int (zb_i r)] (mk g') := by
  unfold d_39 at e
  intro Q K
  show Wp sc (d + 2) 39 0 [some (.ref 28)] [] (mk g) Q
  refine Wp.steps 1 (pc1 := 1) (lo1 := [some (.ref 28)]) (st1 := [.ref 28]) (h1 := mk g) rfl ?_
  obtain ⟨v1, g2, hvv1, e⟩ := zb_bpair e
  refine Wp.ca (m := 42) (d1 := d + 1) (as := [.ref 28]) (rest := []) (st1 := [.int (zb_i v1)]) (pc1 := 4) rfl rfl rfl rfl rfl rfl rfl rfl (mk_rok rfl rfl rfl rfl) rfl rfl rfl (w_42 (sc := sc) (d := d)  g hvv1) ?_
  rcases zb_if e with ⟨hc3, e⟩ | ⟨hc3, e⟩
  · skip
    refine Wp.iF (pc1 := 7) rfl (zb_eqF hc3) rfl ?_
    refine Wp.steps 1 (pc1 := 8) (lo1 := [some (.ref 28)]) (st1 := [.ref 28]) (h1 := mk g2) rfl ?_
    refine Wp.gf (pc1 := 11) (v := .int (g2 28 8)) rfl rfl rfl rfl rfl ?_
    refine Wp.steps 1 (pc1 := 12) (lo1 := [some (.ref 28)]) (st1 := [.int 3, .int (g2 28 8)]) (h1 := mk g2) rfl ?_
    rcases zb_if e with ⟨hc4, e⟩ | ⟨hc4, e⟩
    · skip
      refine Wp.cT (pc1 := 27) rfl hc4 rfl ?_
      refine Wp.steps 2 (pc1 := 32) (lo1 := [some (.ref 28)]) (st1 := [.int 1]) (h1 := mk g2) rfl ?_
      obtain ⟨e1, e2⟩ := zb_r2 e
      subst e1
      subst e2
      exact Wp.ret rfl rfl rfl (K _)
    · skip
      refine Wp.cF (pc1 := 15) rfl hc4 rfl ?_
      refine Wp.steps 3 (pc1 := 18) (lo1 := [some (.ref 28)]) (st1 := [.ref 28, .int 2, .ref 28]) (h1 := mk g2) rfl ?_
      refine Wp.gf (pc1 := 21) (v := .int (g2 28 9)) rfl rfl rfl rfl rfl ?_
      obtain ⟨v5, g6, hvv5, e⟩ := zb_pair e
      refine Wp.ca (m := 44) (d1 := d + 1) (as := [.ref 28, .int 2, .int (g2 28 9)]) (rest := []) (st1 := [.int (zb_i v5)]) (pc1 := 24) rfl rfl rfl rfl rfl rfl rfl rfl (mk_rok rfl rfl rfl rfl) rfl rfl rfl (w_44 (sc := sc) (d := d + 1) 2 (g2 28 9) g2 hvv5) ?_
      rcases zb_if e with ⟨hc7, e⟩ | ⟨hc7, e⟩
      · skip
        refine Wp.iF (pc1 := 27) rfl (zb_eqF hc7) rfl ?_
        refine Wp.steps 2 (pc1 := 32) (lo1 := [some (.ref 28)]) (st1 := [.int 1]) (h1 := mk g6) rfl ?_
        obtain ⟨e1, e2⟩ := zb_r2 e
        subst e1
        subst e2
        exact Wp.ret rfl rfl rfl (K _)
      · skip
        refine Wp.iT (pc1 := 31) rfl (zb_eqT hc7) rfl ?_
        refine Wp.steps 1 (pc1 := 32) (lo1 := [some (.ref 28)]) (st1 := [.int 0]) (h1 := mk g6) rfl ?_
        obtain ⟨e1, e2⟩ := zb_r2 e
        subst e1
        subst e2
        exact Wp.ret rfl rfl rfl (K _)
  · skip
    refine Wp.iT (pc1 := 31) rfl (zb_eqT hc3) rfl ?_
    refine Wp.steps 1 (pc1 := 32) (lo1 := [some (.ref 28)]) (st1 := [.int 0]) (h1 := mk g2) rfl ?_
    obtain ⟨e1, e2⟩ := zb_r2 e
    subst e1
    subst e2
    exact Wp.ret rfl rfl rfl (K _)
/-- EveningFirst$Reader.takeHours()Z -/
def d_32 (g : G) : Option (Bool × G) :=
  bif zm_cmp .eq (g 28 5) 0 then (
    zb_l (zg_up g 28 5 1) fun g2 =>
    zb_bp (d_38 2 8 g2) fun v3 g4 =>
    bif v3 then (
      zb_l (zg_up g4 30 0 (g4 28 11)) fun g6 =>
      zb_bp (d_39 g6) fun v7 g8 =>
      some (v7, g8)) else
    some (false, g4)) else
  zb_p (d_44 4 (g 28 9) g) fun v9 g10 =>
  some (v9, g10)
set_option maxRecDepth 100000 in
set_option maxHeartbeats 4000000 in
theorem w_32 {sc : Option (List Int32)} {d : Nat} (g : G) {r : Bool} {g' : G} (e : d_32 g = some (r, g')) : zB sc (d + 3) 32 0 (zm_ent (z_L 32) [.ref 28]) [] (mk g) [.int (zb_i r)] (mk g') := by
  unfold d_32 at e
  intro Q K
  show Wp sc (d + 3) 32 0 [some (.ref 28)] [] (mk g) Q
  refine Wp.steps 1 (pc1 := 1) (lo1 := [some (.ref 28)]) (st1 := [.ref 28]) (h1 := mk g) rfl ?_
  refine Wp.gf (pc1 := 4) (v := .int (g 28 5)) rfl rfl rfl rfl rfl ?_
  rcases zb_if e with ⟨hc1, e⟩ | ⟨hc1, e⟩
  · skip
    refine Wp.iT (pc1 := 17) rfl hc1 rfl ?_
    refine Wp.steps 2 (pc1 := 19) (lo1 := [some (.ref 28)]) (st1 := [.int 1, .ref 28]) (h1 := mk g) rfl ?_
    obtain ⟨g2, hg2, e⟩ := zb_let e
    refine Wp.pf (pc1 := 22) rfl rfl rfl rfl rfl rfl hg2 rfl ?_
    refine Wp.steps 3 (pc1 := 26) (lo1 := [some (.ref 28)]) (st1 := [.int 8, .int 2, .ref 28]) (h1 := mk g2) rfl ?_
    obtain ⟨v3, g4, hvv3, e⟩ := zb_bpair e
    refine Wp.ca (m := 38) (d1 := d + 2) (as := [.ref 28, .int 2, .int 8]) (rest := []) (st1 := [.int (zb_i v3)]) (pc1 := 29) rfl rfl rfl rfl rfl rfl rfl rfl (mk_rok rfl rfl rfl rfl) rfl rfl rfl (w_38 (sc := sc) (d := d) 2 8 g2 hvv3) ?_
    rcases zb_if e with ⟨hc5, e⟩ | ⟨hc5, e⟩
    · skip
      refine Wp.iT (pc1 := 34) rfl (zb_neT hc5) rfl ?_
      refine Wp.steps 1 (pc1 := 35) (lo1 := [some (.ref 28)]) (st1 := [.ref 28]) (h1 := mk g4) rfl ?_
      refine Wp.gf (pc1 := 38) (v := .ref 30) rfl rfl rfl rfl rfl ?_
      refine Wp.steps 1 (pc1 := 39) (lo1 := [some (.ref 28)]) (st1 := [.ref 28, .ref 30]) (h1 := mk g4) rfl ?_
      refine Wp.gf (pc1 := 42) (v := .int (g4 28 11)) rfl rfl rfl rfl rfl ?_
      obtain ⟨g6, hg6, e⟩ := zb_let e
      refine Wp.pf (pc1 := 45) rfl rfl rfl rfl rfl rfl hg6 rfl ?_
      refine Wp.steps 1 (pc1 := 46) (lo1 := [some (.ref 28)]) (st1 := [.ref 28]) (h1 := mk g6) rfl ?_
      obtain ⟨v7, g8, hvv7, e⟩ := zb_bpair e
      refine Wp.ca (m := 39) (d1 := d + 2) (as := [.ref 28]) (rest := []) (st1 := [.int (zb_i v7)]) (pc1 := 49) rfl rfl rfl rfl rfl rfl rfl rfl (mk_rok rfl rfl rfl rfl) rfl rfl rfl (w_39 (sc := sc) (d := d)  g6 hvv7) ?_
      obtain ⟨e1, e2⟩ := zb_r2 e
      subst e1
      subst e2
      exact Wp.ret rfl rfl (zb_ok _) (K _)
    · skip
      refine Wp.iF (pc1 := 32) rfl (zb_neF hc5) rfl ?_
      refine Wp.steps 1 (pc1 := 33) (lo1 := [some (.ref 28)]) (st1 := [.int 0]) (h1 := mk g4) rfl ?_
      obtain ⟨e1, e2⟩ := zb_r2 e
      subst e1
      subst e2
      exact Wp.ret rfl rfl rfl (K _)
  · skip
    refine Wp.iF (pc1 := 7) rfl hc1 rfl ?_
    refine Wp.steps 3 (pc1 := 10) (lo1 := [some (.ref 28)]) (st1 := [.ref 28, .int 4, .ref 28]) (h1 := mk g) rfl ?_
    refine Wp.gf (pc1 := 13) (v := .int (g 28 9)) rfl rfl rfl rfl rfl ?_
    obtain ⟨v9, g10, hvv9, e⟩ := zb_pair e
    refine Wp.ca (m := 44) (d1 := d + 2) (as := [.ref 28, .int 4, .int (g 28 9)]) (rest := []) (st1 := [.int (zb_i v9)]) (pc1 := 16) rfl rfl rfl rfl rfl rfl rfl rfl (mk_rok rfl rfl rfl rfl) rfl rfl rfl (w_44 (sc := sc) (d := d + 2) 4 (g 28 9) g hvv9) ?_
    obtain ⟨e1, e2⟩ := zb_r2 e
    subst e1
    subst e2
    exact Wp.ret rfl rfl (zb_ok _) (K _)
/-- EveningFirst.bit(II)Z -/
def d_90 (x0 : Int32) (x1 : Int32) : Bool :=
  bif zm_cmp .eq ((x0 >>> (x1 &&& 31)) &&& 1) 0 then (
    false) else
  true
set_option maxRecDepth 100000 in
set_option maxHeartbeats 4000000 in
theorem w_90 {sc : Option (List Int32)} {d : Nat} (x0 : Int32) (x1 : Int32) (g : G) {r : Bool} (e : d_90 x0 x1 = r) : zB sc (d) 90 0 (zm_ent (z_L 90) [.int x0, .int x1]) [] (mk g) [.int (zb_i r)] (mk g) := by
  unfold d_90 at e
  intro Q K
  show Wp sc (d) 90 0 [some (.int x0), some (.int x1)] [] (mk g) Q
  refine Wp.steps 5 (pc1 := 5) (lo1 := [some (.int x0), some (.int x1)]) (st1 := [.int ((x0 >>> (x1 &&& 31)) &&& 1)]) (h1 := mk g) rfl ?_
  rcases zb_if e with ⟨hc1, e⟩ | ⟨hc1, e⟩
  · skip
    refine Wp.iT (pc1 := 12) rfl hc1 rfl ?_
    refine Wp.steps 1 (pc1 := 13) (lo1 := [some (.int x0), some (.int x1)]) (st1 := [.int 0]) (h1 := mk g) rfl ?_
    have e1 := e
    subst e1
    exact Wp.ret rfl rfl rfl (K _)
  · skip
    refine Wp.iF (pc1 := 8) rfl hc1 rfl ?_
    refine Wp.steps 2 (pc1 := 13) (lo1 := [some (.int x0), some (.int x1)]) (st1 := [.int 1]) (h1 := mk g) rfl ?_
    have e1 := e
    subst e1
    exact Wp.ret rfl rfl rfl (K _)
def d_37_4 : Nat → Int32 → Int32 → G → Option (Int32 × G)
  | 0, _, _, _ => none
  | f + 1, x1, x2, g =>
    bif zm_cmp .gt x2 6 then (
      some (x1, g)) else
    zb_bp (d_42 g) fun v2 g3 =>
    bif v2 then (
      bif zm_cmp .eq (g3 28 8) 3 then (
        some (x1, g3)) else
      zb_p (d_40 0 5 g3) fun v6 g7 =>
      bif v6 then (
        zb_l (d_90 x1 (g7 28 11)) fun v9 =>
        bif v9 then (
          zb_p (d_44 4 (g7 28 9) g7) fun v11 g12 =>
          some (x1, g12)) else
        d_37_4 f (x1 ||| ((1 : Int32) <<< ((g7 28 11) &&& 31))) (x2 + 1) g7) else
      some (x1, g7)) else
    some (x1, g3)
set_option maxRecDepth 100000 in
set_option maxHeartbeats 4000000 in
theorem w_37_4 {sc : Option (List Int32)} {d : Nat} : ∀ (f : Nat) (x1 : Int32) (x2 : Int32) (g : G) (r : Int32) (g' : G), d_37_4 f x1 x2 g = some (r, g') → zB sc (d + 2) 37 4 [some (.ref 28), some (.int x1), some (.int x2)] [] (mk g) [.int r] (mk g') := by
  intro f
  induction f with
  | zero =>
    intro x1 x2 g r g' e
    rw [d_37_4.eq_1] at e
    cases e
  | succ f ih =>
    intro x1 x2 g r g' e
    rw [d_37_4.eq_2] at e
    intro Q K
    refine Wp.steps 2 (pc1 := 7) (lo1 := [some (.ref 28), some (.int x1), some (.int x2)]) (st1 := [.int 6, .int x2]) (h1 := mk g) rfl ?_
    rcases zb_if e with ⟨hc1, e⟩ | ⟨hc1, e⟩
    · skip
      refine Wp.cT (pc1 := 74) rfl hc1 rfl ?_
      refine Wp.steps 1 (pc1 := 75) (lo1 := [some (.ref 28), some (.int x1), some (.int x2)]) (st1 := [.int x1]) (h1 := mk g) rfl ?_
      obtain ⟨e1, e2⟩ := zb_r2 e
      subst e1
      subst e2
      exact Wp.ret rfl rfl rfl (K _)
    · skip
      refine Wp.cF (pc1 := 10) rfl hc1 rfl ?_
      refine Wp.steps 1 (pc1 := 11) (lo1 := [some (.ref 28), some (.int x1), some (.int x2)]) (st1 := [.ref 28]) (h1 := mk g) rfl ?_
      obtain ⟨v2, g3, hvv2, e⟩ := zb_bpair e
      refine Wp.ca (m := 42) (d1 := d + 1) (as := [.ref 28]) (rest := []) (st1 := [.int (zb_i v2)]) (pc1 := 14) rfl rfl rfl rfl rfl rfl rfl rfl (mk_rok rfl rfl rfl rfl) rfl rfl rfl (w_42 (sc := sc) (d := d)  g hvv2) ?_
      rcases zb_if e with ⟨hc4, e⟩ | ⟨hc4, e⟩
      · skip
        refine Wp.iF (pc1 := 17) rfl (zb_eqF hc4) rfl ?_
        refine Wp.steps 1 (pc1 := 18) (lo1 := [some (.ref 28), some (.int x1), some (.int x2)]) (st1 := [.ref 28]) (h1 := mk g3) rfl ?_
        refine Wp.gf (pc1 := 21) (v := .int (g3 28 8)) rfl rfl rfl rfl rfl ?_
        refine Wp.steps 1 (pc1 := 22) (lo1 := [some (.ref 28), some (.int x1), some (.int x2)]) (st1 := [.int 3, .int (g3 28 8)]) (h1 := mk g3) rfl ?_
        rcases zb_if e with ⟨hc5, e⟩ | ⟨hc5, e⟩
        · skip
          refine Wp.cT (pc1 := 34) rfl hc5 rfl ?_
          refine Wp.steps 1 (pc1 := 35) (lo1 := [some (.ref 28), some (.int x1), some (.int x2)]) (st1 := [.int x1]) (h1 := mk g3) rfl ?_
          obtain ⟨e1, e2⟩ := zb_r2 e
          subst e1
          subst e2
          exact Wp.ret rfl rfl rfl (K _)
        · skip
          refine Wp.cF (pc1 := 25) rfl hc5 rfl ?_
          refine Wp.steps 3 (pc1 := 28) (lo1 := [some (.ref 28), some (.int x1), some (.int x2)]) (st1 := [.int 5, .int 0, .ref 28]) (h1 := mk g3) rfl ?_
          obtain ⟨v6, g7, hvv6, e⟩ := zb_pair e
          refine Wp.ca (m := 40) (d1 := d + 1) (as := [.ref 28, .int 0, .int 5]) (rest := []) (st1 := [.int (zb_i v6)]) (pc1 := 31) rfl rfl rfl rfl rfl rfl rfl rfl (mk_rok rfl rfl rfl rfl) rfl rfl rfl (w_40 (sc := sc) (d := d) 0 5 g3 hvv6) ?_
          rcases zb_if e with ⟨hc8, e⟩ | ⟨hc8, e⟩
          · skip
            refine Wp.iT (pc1 := 36) rfl (zb_neT hc8) rfl ?_
            refine Wp.steps 2 (pc1 := 38) (lo1 := [some (.ref 28), some (.int x1), some (.int x2)]) (st1 := [.ref 28, .int x1]) (h1 := mk g7) rfl ?_
            refine Wp.gf (pc1 := 41) (v := .int (g7 28 11)) rfl rfl rfl rfl rfl ?_
            obtain ⟨v9, hvv9, e⟩ := zb_let e
            refine Wp.ca (m := 90) (d1 := d + 1) (as := [.int x1, .int (g7 28 11)]) (rest := []) (st1 := [.int (zb_i v9)]) (pc1 := 44) rfl rfl rfl rfl rfl rfl rfl rfl rfl rfl rfl rfl (w_90 (sc := sc) (d := d + 1) x1 (g7 28 11) g7 hvv9) ?_
            rcases zb_if e with ⟨hc10, e⟩ | ⟨hc10, e⟩
            · skip
              refine Wp.iF (pc1 := 47) rfl (zb_eqF hc10) rfl ?_
              refine Wp.steps 3 (pc1 := 50) (lo1 := [some (.ref 28), some (.int x1), some (.int x2)]) (st1 := [.ref 28, .int 4, .ref 28]) (h1 := mk g7) rfl ?_
              refine Wp.gf (pc1 := 53) (v := .int (g7 28 9)) rfl rfl rfl rfl rfl ?_
              obtain ⟨v11, g12, hvv11, e⟩ := zb_pair e
              refine Wp.ca (m := 44) (d1 := d + 1) (as := [.ref 28, .int 4, .int (g7 28 9)]) (rest := []) (st1 := [.int (zb_i v11)]) (pc1 := 56) rfl rfl rfl rfl rfl rfl rfl rfl (mk_rok rfl rfl rfl rfl) rfl rfl rfl (w_44 (sc := sc) (d := d + 1) 4 (g7 28 9) g7 hvv11) ?_
              refine Wp.steps 2 (pc1 := 58) (lo1 := [some (.ref 28), some (.int x1), some (.int x2)]) (st1 := [.int x1]) (h1 := mk g12) rfl ?_
              obtain ⟨e1, e2⟩ := zb_r2 e
              subst e1
              subst e2
              exact Wp.ret rfl rfl rfl (K _)
            · skip
              refine Wp.iT (pc1 := 59) rfl (zb_eqT hc10) rfl ?_
              refine Wp.steps 3 (pc1 := 62) (lo1 := [some (.ref 28), some (.int x1), some (.int x2)]) (st1 := [.ref 28, .int 1, .int x1]) (h1 := mk g7) rfl ?_
              refine Wp.gf (pc1 := 65) (v := .int (g7 28 11)) rfl rfl rfl rfl rfl ?_
              refine Wp.steps 5 (pc1 := 4) (lo1 := [some (.ref 28), some (.int (x1 ||| ((1 : Int32) <<< ((g7 28 11) &&& 31)))), some (.int (x2 + 1))]) (st1 := []) (h1 := mk g7) rfl ?_
              exact ih _ _ _ _ _ e Q K
          · skip
            refine Wp.iF (pc1 := 34) rfl (zb_neF hc8) rfl ?_
            refine Wp.steps 1 (pc1 := 35) (lo1 := [some (.ref 28), some (.int x1), some (.int x2)]) (st1 := [.int x1]) (h1 := mk g7) rfl ?_
            obtain ⟨e1, e2⟩ := zb_r2 e
            subst e1
            subst e2
            exact Wp.ret rfl rfl rfl (K _)
      · skip
        refine Wp.iT (pc1 := 34) rfl (zb_eqT hc4) rfl ?_
        refine Wp.steps 1 (pc1 := 35) (lo1 := [some (.ref 28), some (.int x1), some (.int x2)]) (st1 := [.int x1]) (h1 := mk g3) rfl ?_
        obtain ⟨e1, e2⟩ := zb_r2 e
        subst e1
        subst e2
        exact Wp.ret rfl rfl rfl (K _)
/-- EveningFirst$Reader.takeThings()I -/
def d_37 (g : G) : Option (Int32 × G) :=
  d_37_4 300 0 0 g
set_option maxRecDepth 100000 in
set_option maxHeartbeats 4000000 in
theorem w_37 {sc : Option (List Int32)} {d : Nat} (g : G) {r : Int32} {g' : G} (e : d_37 g = some (r, g')) : zB sc (d + 2) 37 0 (zm_ent (z_L 37) [.ref 28]) [] (mk g) [.int r] (mk g') := by
  unfold d_37 at e
  intro Q K
  show Wp sc (d + 2) 37 0 [some (.ref 28), none, none] [] (mk g) Q
  refine Wp.steps 4 (pc1 := 4) (lo1 := [some (.ref 28), some (.int 0), some (.int 0)]) (st1 := []) (h1 := mk g) rfl ?_
  exact w_37_4 (sc := sc) (d := d) 300 0 0 g _ _ e Q K
/-- EveningFirst$Reader.takeOne()Z -/
def d_33 (g : G) : Option (Bool × G) :=
  bif zm_cmp .lt (g 30 1) 4 then (
    Option.bind (zm_ix (g 30 1) 4) fun k2 =>
    zb_l (zg_up g 30 1 ((g 30 1) + 1)) fun g3 =>
    zb_bp (d_42 g3) fun v4 g5 =>
    bif v4 then (
      Option.bind (d_41 6 g5) fun v7 =>
      bif v7 then (
        zb_l (zg_up g5 (34 + k2) 0 0) fun g25 =>
        zb_bp (d_37 g25) fun v26 g27 =>
        zb_l (zg_up g27 (34 + k2) 1 v26) fun g28 =>
        bif zm_cmp .ne (g28 28 2) 0 then (
          some (false, g28)) else
        some (true, g28)) else
      Option.bind (d_41 7 g5) fun v9 =>
      bif v9 then (
        zb_l (zg_up g5 (34 + k2) 0 1) fun g20 =>
        zb_bp (d_37 g20) fun v21 g22 =>
        zb_l (zg_up g22 (34 + k2) 1 v21) fun g23 =>
        bif zm_cmp .ne (g23 28 2) 0 then (
          some (false, g23)) else
        some (true, g23)) else
      Option.bind (d_41 8 g5) fun v11 =>
      bif v11 then (
        zb_l (zg_up g5 (34 + k2) 0 2) fun g15 =>
        zb_bp (d_37 g15) fun v16 g17 =>
        zb_l (zg_up g17 (34 + k2) 1 v16) fun g18 =>
        bif zm_cmp .ne (g18 28 2) 0 then (
          some (false, g18)) else
        some (true, g18)) else
      zb_p (d_44 2 (g5 28 9) g5) fun v13 g14 =>
      some (v13, g14)) else
    some (false, g5)) else
  zb_p (d_44 5 (g 28 9) g) fun v30 g31 =>
  some (v30, g31)
set_option maxRecDepth 100000 in
set_option maxHeartbeats 4000000 in
theorem w_33 {sc : Option (List Int32)} {d : Nat} (g : G) {r : Bool} {g' : G} (e : d_33 g = some (r, g')) : zB sc (d + 6) 33 0 (zm_ent (z_L 33) [.ref 28]) [] (mk g) [.int (zb_i r)] (mk g') := by
  unfold d_33 at e
  intro Q K
  show Wp sc (d + 6) 33 0 [some (.ref 28), none] [] (mk g) Q
  refine Wp.steps 1 (pc1 := 1) (lo1 := [some (.ref 28), none]) (st1 := [.ref 28]) (h1 := mk g) rfl ?_
  refine Wp.gf (pc1 := 4) (v := .ref 30) rfl rfl rfl rfl rfl ?_
  refine Wp.gf (pc1 := 7) (v := .int (g 30 1)) rfl rfl rfl rfl rfl ?_
  refine Wp.steps 1 (pc1 := 8) (lo1 := [some (.ref 28), none]) (st1 := [.int 4, .int (g 30 1)]) (h1 := mk g) rfl ?_
  rcases zb_if e with ⟨hc1, e⟩ | ⟨hc1, e⟩
  · skip
    refine Wp.cT (pc1 := 21) rfl hc1 rfl ?_
    refine Wp.steps 1 (pc1 := 22) (lo1 := [some (.ref 28), none]) (st1 := [.ref 28]) (h1 := mk g) rfl ?_
    refine Wp.gf (pc1 := 25) (v := .ref 30) rfl rfl rfl rfl rfl ?_
    refine Wp.gf (pc1 := 28) (v := .ref 31) rfl rfl rfl rfl rfl ?_
    refine Wp.steps 1 (pc1 := 29) (lo1 := [some (.ref 28), none]) (st1 := [.ref 28, .ref 31]) (h1 := mk g) rfl ?_
    refine Wp.gf (pc1 := 32) (v := .ref 30) rfl rfl rfl rfl rfl ?_
    refine Wp.gf (pc1 := 35) (v := .int (g 30 1)) rfl rfl rfl rfl rfl ?_
    obtain ⟨k2, hk2, e⟩ := zb_bind e
    refine Wp.aa (pc1 := 36) (v := (34 + k2)) rfl (zg_rones (b := 30) rfl) rfl hk2 (by omega) rfl ?_
    refine Wp.steps 2 (pc1 := 38) (lo1 := [some (.ref 28), some (.ref (34 + k2))]) (st1 := [.ref 28]) (h1 := mk g) rfl ?_
    refine Wp.gf (pc1 := 41) (v := .ref 30) rfl rfl rfl rfl rfl ?_
    refine Wp.steps 1 (pc1 := 42) (lo1 := [some (.ref 28), some (.ref (34 + k2))]) (st1 := [.ref 30, .ref 30]) (h1 := mk g) rfl ?_
    refine Wp.gf (pc1 := 45) (v := .int (g 30 1)) rfl rfl rfl rfl rfl ?_
    refine Wp.steps 2 (pc1 := 47) (lo1 := [some (.ref 28), some (.ref (34 + k2))]) (st1 := [.int ((g 30 1) + 1), .ref 30]) (h1 := mk g) rfl ?_
    obtain ⟨g3, hg3, e⟩ := zb_let e
    refine Wp.pf (pc1 := 50) rfl rfl rfl rfl rfl rfl hg3 rfl ?_
    refine Wp.steps 1 (pc1 := 51) (lo1 := [some (.ref 28), some (.ref (34 + k2))]) (st1 := [.ref 28]) (h1 := mk g3) rfl ?_
    obtain ⟨v4, g5, hvv4, e⟩ := zb_bpair e
    refine Wp.ca (m := 42) (d1 := d + 5) (as := [.ref 28]) (rest := []) (st1 := [.int (zb_i v4)]) (pc1 := 54) rfl rfl rfl rfl rfl rfl rfl rfl (mk_rok rfl rfl rfl rfl) rfl rfl rfl (w_42 (sc := sc) (d := d + 4)  g3 hvv4) ?_
    rcases zb_if e with ⟨hc6, e⟩ | ⟨hc6, e⟩
    · skip
      refine Wp.iT (pc1 := 59) rfl (zb_neT hc6) rfl ?_
      refine Wp.steps 2 (pc1 := 62) (lo1 := [some (.ref 28), some (.ref (34 + k2))]) (st1 := [.ref (zm_SP + 1 + 6), .ref 28]) (h1 := mk g5) rfl ?_
      obtain ⟨v7, hvv7, e⟩ := zb_bind e
      refine Wp.ca (m := 41) (d1 := d + 5) (as := [.ref 28, .ref (zm_SP + 1 + 6)]) (rest := []) (st1 := [.int (zb_i v7)]) (pc1 := 65) rfl rfl rfl rfl rfl rfl rfl rfl (mk_rok rfl rfl rfl rfl) rfl rfl rfl (w_41 (sc := sc) (d := d) 6 (by decide) g5 hvv7) ?_
      rcases zb_if e with ⟨hc8, e⟩ | ⟨hc8, e⟩
      · skip
        refine Wp.iF (pc1 := 68) rfl (zb_eqF hc8) rfl ?_
        refine Wp.steps 2 (pc1 := 70) (lo1 := [some (.ref 28), some (.ref (34 + k2))]) (st1 := [.int 0, .ref (34 + k2)]) (h1 := mk g5) rfl ?_
        obtain ⟨g25, hg25, e⟩ := zb_let e
        refine Wp.pf (pc1 := 73) rfl (zg_one (b := 30) rfl hk2) rfl rfl rfl rfl hg25 rfl ?_
        refine Wp.steps 3 (pc1 := 122) (lo1 := [some (.ref 28), some (.ref (34 + k2))]) (st1 := [.ref 28, .ref (34 + k2)]) (h1 := mk g25) rfl ?_
        obtain ⟨v26, g27, hvv26, e⟩ := zb_bpair e
        refine Wp.ca (m := 37) (d1 := d + 5) (as := [.ref 28]) (rest := [.ref (34 + k2)]) (st1 := [.int v26, .ref (34 + k2)]) (pc1 := 125) rfl rfl rfl rfl rfl rfl rfl rfl (mk_rok rfl rfl rfl rfl) rfl rfl rfl (w_37 (sc := sc) (d := d + 3)  g25 hvv26) ?_
        obtain ⟨g28, hg28, e⟩ := zb_let e
        refine Wp.pf (pc1 := 128) rfl (zg_one (b := 30) rfl hk2) rfl rfl rfl rfl hg28 rfl ?_
        refine Wp.steps 1 (pc1 := 129) (lo1 := [some (.ref 28), some (.ref (34 + k2))]) (st1 := [.ref 28]) (h1 := mk g28) rfl ?_
        refine Wp.gf (pc1 := 132) (v := .int (g28 28 2)) rfl rfl rfl rfl rfl ?_
        rcases zb_if e with ⟨hc29, e⟩ | ⟨hc29, e⟩
        · skip
          refine Wp.iT (pc1 := 139) rfl hc29 rfl ?_
          refine Wp.steps 1 (pc1 := 140) (lo1 := [some (.ref 28), some (.ref (34 + k2))]) (st1 := [.int 0]) (h1 := mk g28) rfl ?_
          obtain ⟨e1, e2⟩ := zb_r2 e
          subst e1
          subst e2
          exact Wp.ret rfl rfl rfl (K _)
        · skip
          refine Wp.iF (pc1 := 135) rfl hc29 rfl ?_
          refine Wp.steps 2 (pc1 := 140) (lo1 := [some (.ref 28), some (.ref (34 + k2))]) (st1 := [.int 1]) (h1 := mk g28) rfl ?_
          obtain ⟨e1, e2⟩ := zb_r2 e
          subst e1
          subst e2
          exact Wp.ret rfl rfl rfl (K _)
      · skip
        refine Wp.iT (pc1 := 76) rfl (zb_eqT hc8) rfl ?_
        refine Wp.steps 2 (pc1 := 79) (lo1 := [some (.ref 28), some (.ref (34 + k2))]) (st1 := [.ref (zm_SP + 1 + 7), .ref 28]) (h1 := mk g5) rfl ?_
        obtain ⟨v9, hvv9, e⟩ := zb_bind e
        refine Wp.ca (m := 41) (d1 := d + 5) (as := [.ref 28, .ref (zm_SP + 1 + 7)]) (rest := []) (st1 := [.int (zb_i v9)]) (pc1 := 82) rfl rfl rfl rfl rfl rfl rfl rfl (mk_rok rfl rfl rfl rfl) rfl rfl rfl (w_41 (sc := sc) (d := d) 7 (by decide) g5 hvv9) ?_
        rcases zb_if e with ⟨hc10, e⟩ | ⟨hc10, e⟩
        · skip
          refine Wp.iF (pc1 := 85) rfl (zb_eqF hc10) rfl ?_
          refine Wp.steps 2 (pc1 := 87) (lo1 := [some (.ref 28), some (.ref (34 + k2))]) (st1 := [.int 1, .ref (34 + k2)]) (h1 := mk g5) rfl ?_
          obtain ⟨g20, hg20, e⟩ := zb_let e
          refine Wp.pf (pc1 := 90) rfl (zg_one (b := 30) rfl hk2) rfl rfl rfl rfl hg20 rfl ?_
          refine Wp.steps 3 (pc1 := 122) (lo1 := [some (.ref 28), some (.ref (34 + k2))]) (st1 := [.ref 28, .ref (34 + k2)]) (h1 := mk g20) rfl ?_
          obtain ⟨v21, g22, hvv21, e⟩ := zb_bpair e
          refine Wp.ca (m := 37) (d1 := d + 5) (as := [.ref 28]) (rest := [.ref (34 + k2)]) (st1 := [.int v21, .ref (34 + k2)]) (pc1 := 125) rfl rfl rfl rfl rfl rfl rfl rfl (mk_rok rfl rfl rfl rfl) rfl rfl rfl (w_37 (sc := sc) (d := d + 3)  g20 hvv21) ?_
          obtain ⟨g23, hg23, e⟩ := zb_let e
          refine Wp.pf (pc1 := 128) rfl (zg_one (b := 30) rfl hk2) rfl rfl rfl rfl hg23 rfl ?_
          refine Wp.steps 1 (pc1 := 129) (lo1 := [some (.ref 28), some (.ref (34 + k2))]) (st1 := [.ref 28]) (h1 := mk g23) rfl ?_
          refine Wp.gf (pc1 := 132) (v := .int (g23 28 2)) rfl rfl rfl rfl rfl ?_
          rcases zb_if e with ⟨hc24, e⟩ | ⟨hc24, e⟩
          · skip
            refine Wp.iT (pc1 := 139) rfl hc24 rfl ?_
            refine Wp.steps 1 (pc1 := 140) (lo1 := [some (.ref 28), some (.ref (34 + k2))]) (st1 := [.int 0]) (h1 := mk g23) rfl ?_
            obtain ⟨e1, e2⟩ := zb_r2 e
            subst e1
            subst e2
            exact Wp.ret rfl rfl rfl (K _)
          · skip
            refine Wp.iF (pc1 := 135) rfl hc24 rfl ?_
            refine Wp.steps 2 (pc1 := 140) (lo1 := [some (.ref 28), some (.ref (34 + k2))]) (st1 := [.int 1]) (h1 := mk g23) rfl ?_
            obtain ⟨e1, e2⟩ := zb_r2 e
            subst e1
            subst e2
            exact Wp.ret rfl rfl rfl (K _)
        · skip
          refine Wp.iT (pc1 := 93) rfl (zb_eqT hc10) rfl ?_
          refine Wp.steps 2 (pc1 := 96) (lo1 := [some (.ref 28), some (.ref (34 + k2))]) (st1 := [.ref (zm_SP + 1 + 8), .ref 28]) (h1 := mk g5) rfl ?_
          obtain ⟨v11, hvv11, e⟩ := zb_bind e
          refine Wp.ca (m := 41) (d1 := d + 5) (as := [.ref 28, .ref (zm_SP + 1 + 8)]) (rest := []) (st1 := [.int (zb_i v11)]) (pc1 := 99) rfl rfl rfl rfl rfl rfl rfl rfl (mk_rok rfl rfl rfl rfl) rfl rfl rfl (w_41 (sc := sc) (d := d) 8 (by decide) g5 hvv11) ?_
          rcases zb_if e with ⟨hc12, e⟩ | ⟨hc12, e⟩
          · skip
            refine Wp.iF (pc1 := 102) rfl (zb_eqF hc12) rfl ?_
            refine Wp.steps 2 (pc1 := 104) (lo1 := [some (.ref 28), some (.ref (34 + k2))]) (st1 := [.int 2, .ref (34 + k2)]) (h1 := mk g5) rfl ?_
            obtain ⟨g15, hg15, e⟩ := zb_let e
            refine Wp.pf (pc1 := 107) rfl (zg_one (b := 30) rfl hk2) rfl rfl rfl rfl hg15 rfl ?_
            refine Wp.steps 3 (pc1 := 122) (lo1 := [some (.ref 28), some (.ref (34 + k2))]) (st1 := [.ref 28, .ref (34 + k2)]) (h1 := mk g15) rfl ?_
            obtain ⟨v16, g17, hvv16, e⟩ := zb_bpair e
            refine Wp.ca (m := 37) (d1 := d + 5) (as := [.ref 28]) (rest := [.ref (34 + k2)]) (st1 := [.int v16, .ref (34 + k2)]) (pc1 := 125) rfl rfl rfl rfl rfl rfl rfl rfl (mk_rok rfl rfl rfl rfl) rfl rfl rfl (w_37 (sc := sc) (d := d + 3)  g15 hvv16) ?_
            obtain ⟨g18, hg18, e⟩ := zb_let e
            refine Wp.pf (pc1 := 128) rfl (zg_one (b := 30) rfl hk2) rfl rfl rfl rfl hg18 rfl ?_
            refine Wp.steps 1 (pc1 := 129) (lo1 := [some (.ref 28), some (.ref (34 + k2))]) (st1 := [.ref 28]) (h1 := mk g18) rfl ?_
            refine Wp.gf (pc1 := 132) (v := .int (g18 28 2)) rfl rfl rfl rfl rfl ?_
            rcases zb_if e with ⟨hc19, e⟩ | ⟨hc19, e⟩
            · skip
              refine Wp.iT (pc1 := 139) rfl hc19 rfl ?_
              refine Wp.steps 1 (pc1 := 140) (lo1 := [some (.ref 28), some (.ref (34 + k2))]) (st1 := [.int 0]) (h1 := mk g18) rfl ?_
              obtain ⟨e1, e2⟩ := zb_r2 e
              subst e1
              subst e2
              exact Wp.ret rfl rfl rfl (K _)
            · skip
              refine Wp.iF (pc1 := 135) rfl hc19 rfl ?_
              refine Wp.steps 2 (pc1 := 140) (lo1 := [some (.ref 28), some (.ref (34 + k2))]) (st1 := [.int 1]) (h1 := mk g18) rfl ?_
              obtain ⟨e1, e2⟩ := zb_r2 e
              subst e1
              subst e2
              exact Wp.ret rfl rfl rfl (K _)
          · skip
            refine Wp.iT (pc1 := 110) rfl (zb_eqT hc12) rfl ?_
            refine Wp.steps 3 (pc1 := 113) (lo1 := [some (.ref 28), some (.ref (34 + k2))]) (st1 := [.ref 28, .int 2, .ref 28]) (h1 := mk g5) rfl ?_
            refine Wp.gf (pc1 := 116) (v := .int (g5 28 9)) rfl rfl rfl rfl rfl ?_
            obtain ⟨v13, g14, hvv13, e⟩ := zb_pair e
            refine Wp.ca (m := 44) (d1 := d + 5) (as := [.ref 28, .int 2, .int (g5 28 9)]) (rest := []) (st1 := [.int (zb_i v13)]) (pc1 := 119) rfl rfl rfl rfl rfl rfl rfl rfl (mk_rok rfl rfl rfl rfl) rfl rfl rfl (w_44 (sc := sc) (d := d + 5) 2 (g5 28 9) g5 hvv13) ?_
            obtain ⟨e1, e2⟩ := zb_r2 e
            subst e1
            subst e2
            exact Wp.ret rfl rfl (zb_ok _) (K _)
    · skip
      refine Wp.iF (pc1 := 57) rfl (zb_neF hc6) rfl ?_
      refine Wp.steps 1 (pc1 := 58) (lo1 := [some (.ref 28), some (.ref (34 + k2))]) (st1 := [.int 0]) (h1 := mk g5) rfl ?_
      obtain ⟨e1, e2⟩ := zb_r2 e
      subst e1
      subst e2
      exact Wp.ret rfl rfl rfl (K _)
  · skip
    refine Wp.cF (pc1 := 11) rfl hc1 rfl ?_
    refine Wp.steps 3 (pc1 := 14) (lo1 := [some (.ref 28), none]) (st1 := [.ref 28, .int 5, .ref 28]) (h1 := mk g) rfl ?_
    refine Wp.gf (pc1 := 17) (v := .int (g 28 9)) rfl rfl rfl rfl rfl ?_
    obtain ⟨v30, g31, hvv30, e⟩ := zb_pair e
    refine Wp.ca (m := 44) (d1 := d + 5) (as := [.ref 28, .int 5, .int (g 28 9)]) (rest := []) (st1 := [.int (zb_i v30)]) (pc1 := 20) rfl rfl rfl rfl rfl rfl rfl rfl (mk_rok rfl rfl rfl rfl) rfl rfl rfl (w_44 (sc := sc) (d := d + 5) 5 (g 28 9) g hvv30) ?_
    obtain ⟨e1, e2⟩ := zb_r2 e
    subst e1
    subst e2
    exact Wp.ret rfl rfl (zb_ok _) (K _)
