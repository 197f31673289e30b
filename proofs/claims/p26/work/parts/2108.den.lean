/-! printed by wip/tools/den.py -/
/-- EveningFirst.fault()I -/
def d_57 (g : G) : Int32 :=
  (g 28 2)
set_option maxRecDepth 100000 in
set_option maxHeartbeats 4000000 in
theorem w_57 {sc : Option (List Int32)} {d : Nat} (g : G) {r : Int32} (e : d_57 g = r) : zB sc (d) 57 0 (zm_ent (z_L 57) [.ref 0]) [] (mk g) [.int r] (mk g) := by
  unfold d_57 at e
  intro Q K
  show Wp sc (d) 57 0 [some (.ref 0)] [] (mk g) Q
  refine Wp.steps 1 (pc1 := 1) (lo1 := [some (.ref 0)]) (st1 := [.ref 0]) (h1 := mk g) rfl ?_
  refine Wp.gf (pc1 := 4) (v := .ref 28) rfl rfl rfl rfl rfl ?_
  refine Wp.gf (pc1 := 7) (v := .int (g 28 2)) rfl rfl rfl rfl rfl ?_
  have e1 := e
  subst e1
  exact Wp.ret rfl rfl rfl (K _)
/-- EveningFirstModel.fault()I -/
def d_130 (g : G) : Int32 :=
  (g 113 19)
set_option maxRecDepth 100000 in
set_option maxHeartbeats 4000000 in
theorem w_130 {sc : Option (List Int32)} {d : Nat} (g : G) {r : Int32} (e : d_130 g = r) : zB sc (d) 130 0 (zm_ent (z_L 130) [.ref 113]) [] (mk g) [.int r] (mk g) := by
  unfold d_130 at e
  intro Q K
  show Wp sc (d) 130 0 [some (.ref 113)] [] (mk g) Q
  refine Wp.steps 1 (pc1 := 1) (lo1 := [some (.ref 113)]) (st1 := [.ref 113]) (h1 := mk g) rfl ?_
  refine Wp.gf (pc1 := 4) (v := .int (g 113 19)) rfl rfl rfl rfl rfl ?_
  have e1 := e
  subst e1
  exact Wp.ret rfl rfl rfl (K _)
/-- EveningFirst.rule(I)I -/
def d_58 (x1 : Int32) (g : G) : Int32 :=
  bif x1 == 0 then (
    (g 1 0)) else
  bif x1 == 1 then (
    (g 1 1)) else
  bif x1 == 2 then (
    (g 1 2)) else
  (-1)
set_option maxRecDepth 100000 in
set_option maxHeartbeats 4000000 in
theorem w_58 {sc : Option (List Int32)} {d : Nat} (x1 : Int32) (g : G) {r : Int32} (e : d_58 x1 g = r) : zB sc (d) 58 0 (zm_ent (z_L 58) [.ref 0, .int x1]) [] (mk g) [.int r] (mk g) := by
  unfold d_58 at e
  intro Q K
  show Wp sc (d) 58 0 [some (.ref 0), some (.int x1)] [] (mk g) Q
  refine Wp.steps 1 (pc1 := 1) (lo1 := [some (.ref 0), some (.int x1)]) (st1 := [.int x1]) (h1 := mk g) rfl ?_
  rcases zb_if e with ⟨hc1, e⟩ | ⟨hc1, e⟩
  · skip
    refine Wp.swT (pc1 := 28) (w := 0) rfl hc1 rfl ?_
    refine Wp.steps 1 (pc1 := 29) (lo1 := [some (.ref 0), some (.int x1)]) (st1 := [.ref 0]) (h1 := mk g) rfl ?_
    refine Wp.gf (pc1 := 32) (v := .ref 1) rfl rfl rfl rfl rfl ?_
    refine Wp.gf (pc1 := 35) (v := .int (g 1 0)) rfl rfl rfl rfl rfl ?_
    have e1 := e
    subst e1
    exact Wp.ret rfl rfl rfl (K _)
  · skip
    rcases zb_if e with ⟨hc2, e⟩ | ⟨hc2, e⟩
    · skip
      refine Wp.swT (pc1 := 36) (w := 1) rfl hc2 rfl ?_
      refine Wp.steps 1 (pc1 := 37) (lo1 := [some (.ref 0), some (.int x1)]) (st1 := [.ref 0]) (h1 := mk g) rfl ?_
      refine Wp.gf (pc1 := 40) (v := .ref 1) rfl rfl rfl rfl rfl ?_
      refine Wp.gf (pc1 := 43) (v := .int (g 1 1)) rfl rfl rfl rfl rfl ?_
      have e1 := e
      subst e1
      exact Wp.ret rfl rfl rfl (K _)
    · skip
      rcases zb_if e with ⟨hc3, e⟩ | ⟨hc3, e⟩
      · skip
        refine Wp.swT (pc1 := 44) (w := 2) rfl hc3 rfl ?_
        refine Wp.steps 1 (pc1 := 45) (lo1 := [some (.ref 0), some (.int x1)]) (st1 := [.ref 0]) (h1 := mk g) rfl ?_
        refine Wp.gf (pc1 := 48) (v := .ref 1) rfl rfl rfl rfl rfl ?_
        refine Wp.gf (pc1 := 51) (v := .int (g 1 2)) rfl rfl rfl rfl rfl ?_
        have e1 := e
        subst e1
        exact Wp.ret rfl rfl rfl (K _)
      · skip
        refine Wp.swD (pc1 := 52) [0, 1, 2] rfl (by simp only [List.all_cons, List.all_nil, hc1, hc2, hc3, Bool.not_false, Bool.and_true]) (by decide) rfl ?_
        refine Wp.steps 1 (pc1 := 53) (lo1 := [some (.ref 0), some (.int x1)]) (st1 := [.int (-1)]) (h1 := mk g) rfl ?_
        have e1 := e
        subst e1
        exact Wp.ret rfl rfl rfl (K _)
/-- EveningFirstModel.rule(I)I -/
def d_139 (x1 : Int32) (g : G) : Int32 :=
  bif x1 == 0 then (
    (g 113 2)) else
  bif x1 == 1 then (
    (g 113 3)) else
  bif x1 == 2 then (
    (g 114 8)) else
  (-1)
set_option maxRecDepth 100000 in
set_option maxHeartbeats 4000000 in
theorem w_139 {sc : Option (List Int32)} {d : Nat} (x1 : Int32) (g : G) {r : Int32} (e : d_139 x1 g = r) : zB sc (d) 139 0 (zm_ent (z_L 139) [.ref 113, .int x1]) [] (mk g) [.int r] (mk g) := by
  unfold d_139 at e
  intro Q K
  show Wp sc (d) 139 0 [some (.ref 113), some (.int x1)] [] (mk g) Q
  refine Wp.steps 1 (pc1 := 1) (lo1 := [some (.ref 113), some (.int x1)]) (st1 := [.int x1]) (h1 := mk g) rfl ?_
  rcases zb_if e with ⟨hc1, e⟩ | ⟨hc1, e⟩
  · skip
    refine Wp.swT (pc1 := 28) (w := 0) rfl hc1 rfl ?_
    refine Wp.steps 1 (pc1 := 29) (lo1 := [some (.ref 113), some (.int x1)]) (st1 := [.ref 113]) (h1 := mk g) rfl ?_
    refine Wp.gf (pc1 := 32) (v := .int (g 113 2)) rfl rfl rfl rfl rfl ?_
    have e1 := e
    subst e1
    exact Wp.ret rfl rfl rfl (K _)
  · skip
    rcases zb_if e with ⟨hc2, e⟩ | ⟨hc2, e⟩
    · skip
      refine Wp.swT (pc1 := 33) (w := 1) rfl hc2 rfl ?_
      refine Wp.steps 1 (pc1 := 34) (lo1 := [some (.ref 113), some (.int x1)]) (st1 := [.ref 113]) (h1 := mk g) rfl ?_
      refine Wp.gf (pc1 := 37) (v := .int (g 113 3)) rfl rfl rfl rfl rfl ?_
      have e1 := e
      subst e1
      exact Wp.ret rfl rfl rfl (K _)
    · skip
      rcases zb_if e with ⟨hc3, e⟩ | ⟨hc3, e⟩
      · skip
        refine Wp.swT (pc1 := 38) (w := 2) rfl hc3 rfl ?_
        refine Wp.steps 1 (pc1 := 39) (lo1 := [some (.ref 113), some (.int x1)]) (st1 := [.ref 113]) (h1 := mk g) rfl ?_
        refine Wp.gf (pc1 := 42) (v := .ref 114) rfl rfl rfl rfl rfl ?_
        refine Wp.steps 1 (pc1 := 44) (lo1 := [some (.ref 113), some (.int x1)]) (st1 := [.int 8, .ref 114]) (h1 := mk g) rfl ?_
        refine Wp.ia (pc1 := 45) (k := 8) rfl rfl rfl rfl rfl ?_
        have e1 := e
        subst e1
        exact Wp.ret rfl rfl rfl (K _)
      · skip
        refine Wp.swD (pc1 := 46) [0, 1, 2] rfl (by simp only [List.all_cons, List.all_nil, hc1, hc2, hc3, Bool.not_false, Bool.and_true]) (by decide) rfl ?_
        refine Wp.steps 1 (pc1 := 47) (lo1 := [some (.ref 113), some (.int x1)]) (st1 := [.int (-1)]) (h1 := mk g) rfl ?_
        have e1 := e
        subst e1
        exact Wp.ret rfl rfl rfl (K _)
/-- EveningFirst.hourAt(III)I -/
def d_97 (x0 : Int32) (x1 : Int32) (x2 : Int32) : Int32 :=
  bif x0 == 0 then (
    x1) else
  bif x0 == 1 then (
    ((x2 - 1) - x1)) else
  bif zm_cmp .ge (2 * x1) x2 then (
    ((2 * ((x2 - 1) - x1)) + 1)) else
  (2 * x1)
set_option maxRecDepth 100000 in
set_option maxHeartbeats 4000000 in
theorem w_97 {sc : Option (List Int32)} {d : Nat} (x0 : Int32) (x1 : Int32) (x2 : Int32) (g : G) {r : Int32} (e : d_97 x0 x1 x2 = r) : zB sc (d) 97 0 (zm_ent (z_L 97) [.int x0, .int x1, .int x2]) [] (mk g) [.int r] (mk g) := by
  unfold d_97 at e
  intro Q K
  show Wp sc (d) 97 0 [some (.int x0), some (.int x1), some (.int x2)] [] (mk g) Q
  refine Wp.steps 1 (pc1 := 1) (lo1 := [some (.int x0), some (.int x1), some (.int x2)]) (st1 := [.int x0]) (h1 := mk g) rfl ?_
  rcases zb_if e with ⟨hc1, e⟩ | ⟨hc1, e⟩
  · skip
    refine Wp.lsT (pc1 := 28) (w := 0) rfl hc1 rfl ?_
    refine Wp.steps 1 (pc1 := 29) (lo1 := [some (.int x0), some (.int x1), some (.int x2)]) (st1 := [.int x1]) (h1 := mk g) rfl ?_
    have e1 := e
    subst e1
    exact Wp.ret rfl rfl rfl (K _)
  · skip
    rcases zb_if e with ⟨hc2, e⟩ | ⟨hc2, e⟩
    · skip
      refine Wp.lsT (pc1 := 30) (w := 1) rfl hc2 rfl ?_
      refine Wp.steps 5 (pc1 := 35) (lo1 := [some (.int x0), some (.int x1), some (.int x2)]) (st1 := [.int ((x2 - 1) - x1)]) (h1 := mk g) rfl ?_
      have e1 := e
      subst e1
      exact Wp.ret rfl rfl rfl (K _)
    · skip
      refine Wp.lsD (pc1 := 36) rfl (zls_2 (by decide) (by decide) hc1 hc2) rfl ?_
      refine Wp.steps 4 (pc1 := 40) (lo1 := [some (.int x0), some (.int x1), some (.int x2)]) (st1 := [.int x2, .int (2 * x1)]) (h1 := mk g) rfl ?_
      rcases zb_if e with ⟨hc3, e⟩ | ⟨hc3, e⟩
      · skip
        refine Wp.cT (pc1 := 49) rfl hc3 rfl ?_
        refine Wp.steps 8 (pc1 := 57) (lo1 := [some (.int x0), some (.int x1), some (.int x2)]) (st1 := [.int 1, .int (2 * ((x2 - 1) - x1))]) (h1 := mk g) rfl ?_
        refine Wp.steps 1 (pc1 := 58) (lo1 := [some (.int x0), some (.int x1), some (.int x2)]) (st1 := [.int ((2 * ((x2 - 1) - x1)) + 1)]) (h1 := mk g) rfl ?_
        have e1 := e
        subst e1
        exact Wp.ret rfl rfl rfl (K _)
      · skip
        refine Wp.cF (pc1 := 43) rfl hc3 rfl ?_
        refine Wp.steps 4 (pc1 := 58) (lo1 := [some (.int x0), some (.int x1), some (.int x2)]) (st1 := [.int (2 * x1)]) (h1 := mk g) rfl ?_
        have e1 := e
        subst e1
        exact Wp.ret rfl rfl rfl (K _)
/-- EveningFirst.one(II)I -/
def d_59 (x1 : Int32) (x2 : Int32) (g : G) : Option Int32 :=
  zb_l (d_18 1 x1 g) fun v1 =>
  bif v1 then (
    Option.bind (zm_ix x1 4) fun k3 =>
    bif zm_cmp .ne x2 0 then (
      bif zm_cmp .ne x2 1 then (
        bif zm_cmp .lt x2 10 then (
          some (-1)) else
        bif zm_cmp .lt x2 (10 + (g 1 0)) then (
          zb_l (d_97 (g (5 + k3) 0) (x2 - 10) (g 1 0)) fun v8 =>
          some v8) else
        some (-1)) else
      some (g (5 + k3) 1)) else
    some (g (5 + k3) 0)) else
  some (-1)
set_option maxRecDepth 100000 in
set_option maxHeartbeats 4000000 in
theorem w_59 {sc : Option (List Int32)} {d : Nat} (x1 : Int32) (x2 : Int32) (g : G) {r : Int32} (e : d_59 x1 x2 g = some r) : zB sc (d + 1) 59 0 (zm_ent (z_L 59) [.ref 0, .int x1, .int x2]) [] (mk g) [.int r] (mk g) := by
  unfold d_59 at e
  intro Q K
  show Wp sc (d + 1) 59 0 [some (.ref 0), some (.int x1), some (.int x2), none] [] (mk g) Q
  refine Wp.steps 1 (pc1 := 1) (lo1 := [some (.ref 0), some (.int x1), some (.int x2), none]) (st1 := [.ref 0]) (h1 := mk g) rfl ?_
  refine Wp.gf (pc1 := 4) (v := .ref 1) rfl rfl rfl rfl rfl ?_
  refine Wp.steps 1 (pc1 := 5) (lo1 := [some (.ref 0), some (.int x1), some (.int x2), none]) (st1 := [.int x1, .ref 1]) (h1 := mk g) rfl ?_
  obtain ⟨v1, hvv1, e⟩ := zb_let e
  refine Wp.ca (m := 18) (d1 := d) (as := [.ref 1, .int x1]) (rest := []) (st1 := [.int (zb_i v1)]) (pc1 := 8) rfl rfl rfl rfl rfl rfl rfl rfl (mk_rok rfl rfl rfl rfl) rfl rfl rfl (w_18 (sc := sc) (d := d) 1 x1 rfl g hvv1) ?_
  rcases zb_if e with ⟨hc2, e⟩ | ⟨hc2, e⟩
  · skip
    refine Wp.iT (pc1 := 13) rfl (zb_neT hc2) rfl ?_
    refine Wp.steps 1 (pc1 := 14) (lo1 := [some (.ref 0), some (.int x1), some (.int x2), none]) (st1 := [.ref 0]) (h1 := mk g) rfl ?_
    refine Wp.gf (pc1 := 17) (v := .ref 1) rfl rfl rfl rfl rfl ?_
    refine Wp.gf (pc1 := 20) (v := .ref 2) rfl rfl rfl rfl rfl ?_
    refine Wp.steps 1 (pc1 := 21) (lo1 := [some (.ref 0), some (.int x1), some (.int x2), none]) (st1 := [.int x1, .ref 2]) (h1 := mk g) rfl ?_
    obtain ⟨k3, hk3, e⟩ := zb_bind e
    refine Wp.aa (pc1 := 22) (v := (5 + k3)) rfl (zg_rones (b := 1) rfl) rfl hk3 (by omega) rfl ?_
    refine Wp.steps 2 (pc1 := 24) (lo1 := [some (.ref 0), some (.int x1), some (.int x2), some (.ref (5 + k3))]) (st1 := [.int x2]) (h1 := mk g) rfl ?_
    rcases zb_if e with ⟨hc4, e⟩ | ⟨hc4, e⟩
    · skip
      refine Wp.iT (pc1 := 32) rfl hc4 rfl ?_
      refine Wp.steps 2 (pc1 := 34) (lo1 := [some (.ref 0), some (.int x1), some (.int x2), some (.ref (5 + k3))]) (st1 := [.int 1, .int x2]) (h1 := mk g) rfl ?_
      rcases zb_if e with ⟨hc5, e⟩ | ⟨hc5, e⟩
      · skip
        refine Wp.cT (pc1 := 42) rfl hc5 rfl ?_
        refine Wp.steps 2 (pc1 := 45) (lo1 := [some (.ref 0), some (.int x1), some (.int x2), some (.ref (5 + k3))]) (st1 := [.int 10, .int x2]) (h1 := mk g) rfl ?_
        rcases zb_if e with ⟨hc6, e⟩ | ⟨hc6, e⟩
        · skip
          refine Wp.cT (pc1 := 62) rfl hc6 rfl ?_
          refine Wp.steps 1 (pc1 := 63) (lo1 := [some (.ref 0), some (.int x1), some (.int x2), some (.ref (5 + k3))]) (st1 := [.int (-1)]) (h1 := mk g) rfl ?_
          have e1 := zb_r1 e
          subst e1
          exact Wp.ret rfl rfl rfl (K _)
        · skip
          refine Wp.cF (pc1 := 48) rfl hc6 rfl ?_
          refine Wp.steps 3 (pc1 := 52) (lo1 := [some (.ref 0), some (.int x1), some (.int x2), some (.ref (5 + k3))]) (st1 := [.ref 0, .int 10, .int x2]) (h1 := mk g) rfl ?_
          refine Wp.gf (pc1 := 55) (v := .ref 1) rfl rfl rfl rfl rfl ?_
          refine Wp.gf (pc1 := 58) (v := .int (g 1 0)) rfl rfl rfl rfl rfl ?_
          refine Wp.steps 1 (pc1 := 59) (lo1 := [some (.ref 0), some (.int x1), some (.int x2), some (.ref (5 + k3))]) (st1 := [.int (10 + (g 1 0)), .int x2]) (h1 := mk g) rfl ?_
          rcases zb_if e with ⟨hc7, e⟩ | ⟨hc7, e⟩
          · skip
            refine Wp.cT (pc1 := 64) rfl hc7 rfl ?_
            refine Wp.steps 1 (pc1 := 65) (lo1 := [some (.ref 0), some (.int x1), some (.int x2), some (.ref (5 + k3))]) (st1 := [.ref (5 + k3)]) (h1 := mk g) rfl ?_
            refine Wp.gf (pc1 := 68) (v := .int (g (5 + k3) 0)) rfl (zg_one (b := 1) rfl hk3) rfl rfl rfl ?_
            refine Wp.steps 4 (pc1 := 73) (lo1 := [some (.ref 0), some (.int x1), some (.int x2), some (.ref (5 + k3))]) (st1 := [.ref 0, .int (x2 - 10), .int (g (5 + k3) 0)]) (h1 := mk g) rfl ?_
            refine Wp.gf (pc1 := 76) (v := .ref 1) rfl rfl rfl rfl rfl ?_
            refine Wp.gf (pc1 := 79) (v := .int (g 1 0)) rfl rfl rfl rfl rfl ?_
            obtain ⟨v8, hvv8, e⟩ := zb_let e
            refine Wp.ca (m := 97) (d1 := d) (as := [.int (g (5 + k3) 0), .int (x2 - 10), .int (g 1 0)]) (rest := []) (st1 := [.int v8]) (pc1 := 82) rfl rfl rfl rfl rfl rfl rfl rfl rfl rfl rfl rfl (w_97 (sc := sc) (d := d) (g (5 + k3) 0) (x2 - 10) (g 1 0) g hvv8) ?_
            have e1 := zb_r1 e
            subst e1
            exact Wp.ret rfl rfl rfl (K _)
          · skip
            refine Wp.cF (pc1 := 62) rfl hc7 rfl ?_
            refine Wp.steps 1 (pc1 := 63) (lo1 := [some (.ref 0), some (.int x1), some (.int x2), some (.ref (5 + k3))]) (st1 := [.int (-1)]) (h1 := mk g) rfl ?_
            have e1 := zb_r1 e
            subst e1
            exact Wp.ret rfl rfl rfl (K _)
      · skip
        refine Wp.cF (pc1 := 37) rfl hc5 rfl ?_
        refine Wp.steps 1 (pc1 := 38) (lo1 := [some (.ref 0), some (.int x1), some (.int x2), some (.ref (5 + k3))]) (st1 := [.ref (5 + k3)]) (h1 := mk g) rfl ?_
        refine Wp.gf (pc1 := 41) (v := .int (g (5 + k3) 1)) rfl (zg_one (b := 1) rfl hk3) rfl rfl rfl ?_
        have e1 := zb_r1 e
        subst e1
        exact Wp.ret rfl rfl rfl (K _)
    · skip
      refine Wp.iF (pc1 := 27) rfl hc4 rfl ?_
      refine Wp.steps 1 (pc1 := 28) (lo1 := [some (.ref 0), some (.int x1), some (.int x2), some (.ref (5 + k3))]) (st1 := [.ref (5 + k3)]) (h1 := mk g) rfl ?_
      refine Wp.gf (pc1 := 31) (v := .int (g (5 + k3) 0)) rfl (zg_one (b := 1) rfl hk3) rfl rfl rfl ?_
      have e1 := zb_r1 e
      subst e1
      exact Wp.ret rfl rfl rfl (K _)
  · skip
    refine Wp.iF (pc1 := 11) rfl (zb_neF hc2) rfl ?_
    refine Wp.steps 1 (pc1 := 12) (lo1 := [some (.ref 0), some (.int x1), some (.int x2), none]) (st1 := [.int (-1)]) (h1 := mk g) rfl ?_
    have e1 := zb_r1 e
    subst e1
    exact Wp.ret rfl rfl rfl (K _)
/-- EveningFirstModel.isOne(I)Z -/
def d_131 (x1 : Int32) (g : G) : Bool :=
  zb_l (d_107 (Int32.toInt64 x1) 0 (Int32.toInt64 ((g 113 3) - 1))) fun v1 =>
  v1
set_option maxRecDepth 100000 in
set_option maxHeartbeats 4000000 in
theorem w_131 {sc : Option (List Int32)} {d : Nat} (x1 : Int32) (g : G) {r : Bool} (e : d_131 x1 g = r) : zB sc (d + 1) 131 0 (zm_ent (z_L 131) [.ref 113, .int x1]) [] (mk g) [.int (zb_i r)] (mk g) := by
  unfold d_131 at e
  intro Q K
  show Wp sc (d + 1) 131 0 [some (.ref 113), some (.int x1)] [] (mk g) Q
  refine Wp.steps 4 (pc1 := 4) (lo1 := [some (.ref 113), some (.int x1)]) (st1 := [.ref 113, .long 0, .long (Int32.toInt64 x1)]) (h1 := mk g) rfl ?_
  refine Wp.gf (pc1 := 7) (v := .int (g 113 3)) rfl rfl rfl rfl rfl ?_
  refine Wp.steps 3 (pc1 := 10) (lo1 := [some (.ref 113), some (.int x1)]) (st1 := [.long (Int32.toInt64 ((g 113 3) - 1)), .long 0, .long (Int32.toInt64 x1)]) (h1 := mk g) rfl ?_
  obtain ⟨v1, hvv1, e⟩ := zb_let e
  refine Wp.ca (m := 107) (d1 := d) (as := [.long (Int32.toInt64 x1), .long 0, .long (Int32.toInt64 ((g 113 3) - 1))]) (rest := []) (st1 := [.int (zb_i v1)]) (pc1 := 13) rfl rfl rfl rfl rfl rfl rfl rfl rfl rfl rfl rfl (w_107 (sc := sc) (d := d) (Int32.toInt64 x1) 0 (Int32.toInt64 ((g 113 3) - 1)) g hvv1) ?_
  have e1 := e
  subst e1
  exact Wp.ret rfl rfl (zb_ok _) (K _)
/-- EveningFirstModel.isHour(I)Z -/
def d_133 (x1 : Int32) (g : G) : Bool :=
  zb_l (d_107 (Int32.toInt64 x1) 0 (Int32.toInt64 ((g 113 2) - 1))) fun v1 =>
  v1
set_option maxRecDepth 100000 in
set_option maxHeartbeats 4000000 in
theorem w_133 {sc : Option (List Int32)} {d : Nat} (x1 : Int32) (g : G) {r : Bool} (e : d_133 x1 g = r) : zB sc (d + 1) 133 0 (zm_ent (z_L 133) [.ref 113, .int x1]) [] (mk g) [.int (zb_i r)] (mk g) := by
  unfold d_133 at e
  intro Q K
  show Wp sc (d + 1) 133 0 [some (.ref 113), some (.int x1)] [] (mk g) Q
  refine Wp.steps 4 (pc1 := 4) (lo1 := [some (.ref 113), some (.int x1)]) (st1 := [.ref 113, .long 0, .long (Int32.toInt64 x1)]) (h1 := mk g) rfl ?_
  refine Wp.gf (pc1 := 7) (v := .int (g 113 2)) rfl rfl rfl rfl rfl ?_
  refine Wp.steps 3 (pc1 := 10) (lo1 := [some (.ref 113), some (.int x1)]) (st1 := [.long (Int32.toInt64 ((g 113 2) - 1)), .long 0, .long (Int32.toInt64 x1)]) (h1 := mk g) rfl ?_
  obtain ⟨v1, hvv1, e⟩ := zb_let e
  refine Wp.ca (m := 107) (d1 := d) (as := [.long (Int32.toInt64 x1), .long 0, .long (Int32.toInt64 ((g 113 2) - 1))]) (rest := []) (st1 := [.int (zb_i v1)]) (pc1 := 13) rfl rfl rfl rfl rfl rfl rfl rfl rfl rfl rfl rfl (w_107 (sc := sc) (d := d) (Int32.toInt64 x1) 0 (Int32.toInt64 ((g 113 2) - 1)) g hvv1) ?_
  have e1 := e
  subst e1
  exact Wp.ret rfl rfl (zb_ok _) (K _)
def d_137_46 (g : G) : Nat → Int32 → Int32 → Option Int32
  | 0, _, _ => none
  | f + 1, x3, x4 =>
    bif zm_cmp .ge x4 (g 113 2) then (
      some x3) else
    d_137_46 g f (x3 + 1) (x4 + 2)
set_option maxRecDepth 100000 in
set_option maxHeartbeats 4000000 in
theorem w_137_46 {sc : Option (List Int32)} {d : Nat} (g : G) : ∀ (f : Nat) (x3 : Int32) (x4 : Int32) (r : Int32), d_137_46 g f x3 x4 = some r → zB sc (d) 137 46 [some (.ref 113), none, none, some (.int x3), some (.int x4)] [] (mk g) [.int r] (mk g) := by
  intro f
  induction f with
  | zero =>
    intro x3 x4 r e
    rw [d_137_46.eq_1] at e
    cases e
  | succ f ih =>
    intro x3 x4 r e
    rw [d_137_46.eq_2] at e
    intro Q K
    refine Wp.steps 2 (pc1 := 49) (lo1 := [some (.ref 113), none, none, some (.int x3), some (.int x4)]) (st1 := [.ref 113, .int x4]) (h1 := mk g) rfl ?_
    refine Wp.gf (pc1 := 52) (v := .int (g 113 2)) rfl rfl rfl rfl rfl ?_
    rcases zb_if e with ⟨hc3, e⟩ | ⟨hc3, e⟩
    · skip
      refine Wp.cT (pc1 := 64) rfl hc3 rfl ?_
      refine Wp.steps 1 (pc1 := 65) (lo1 := [some (.ref 113), none, none, some (.int x3), some (.int x4)]) (st1 := [.int x3]) (h1 := mk g) rfl ?_
      have e1 := zb_r1 e
      subst e1
      exact Wp.ret rfl rfl rfl (K _)
    · skip
      refine Wp.cF (pc1 := 55) rfl hc3 rfl ?_
      refine Wp.steps 3 (pc1 := 46) (lo1 := [some (.ref 113), none, none, some (.int (x3 + 1)), some (.int (x4 + 2))]) (st1 := []) (h1 := mk g) rfl ?_
      exact ih _ _ _ e Q K
/-- EveningFirstModel.placeOf(II)I -/
def d_137 (x1 : Int32) (x2 : Int32) (g : G) : Option Int32 :=
  bif zm_cmp .ge x1 2 then (
    bif zm_cmp .ne (x2 - x2 / 2 * 2) 0 then (
      d_137_46 g 300 (((g 113 2) + 1) / 2) (x2 + 2)) else
    some (x2 / 2)) else
  bif zm_cmp .ne x1 0 then (
    some (((g 113 2) - 1) - x2)) else
  some x2
set_option maxRecDepth 100000 in
set_option maxHeartbeats 4000000 in
theorem w_137 {sc : Option (List Int32)} {d : Nat} (x1 : Int32) (x2 : Int32) (g : G) {r : Int32} (e : d_137 x1 x2 g = some r) : zB sc (d) 137 0 (zm_ent (z_L 137) [.ref 113, .int x1, .int x2]) [] (mk g) [.int r] (mk g) := by
  unfold d_137 at e
  intro Q K
  show Wp sc (d) 137 0 [some (.ref 113), some (.int x1), some (.int x2), none, none] [] (mk g) Q
  refine Wp.steps 2 (pc1 := 2) (lo1 := [some (.ref 113), some (.int x1), some (.int x2), none, none]) (st1 := [.int 2, .int x1]) (h1 := mk g) rfl ?_
  rcases zb_if e with ⟨hc1, e⟩ | ⟨hc1, e⟩
  · skip
    refine Wp.cT (pc1 := 22) rfl hc1 rfl ?_
    refine Wp.steps 3 (pc1 := 25) (lo1 := [some (.ref 113), some (.int x1), some (.int x2), none, none]) (st1 := [.int (x2 - x2 / 2 * 2)]) (h1 := mk g) rfl ?_
    rcases zb_if e with ⟨hc2, e⟩ | ⟨hc2, e⟩
    · skip
      refine Wp.iT (pc1 := 32) rfl hc2 rfl ?_
      refine Wp.steps 1 (pc1 := 33) (lo1 := [some (.ref 113), some (.int x1), some (.int x2), none, none]) (st1 := [.ref 113]) (h1 := mk g) rfl ?_
      refine Wp.gf (pc1 := 36) (v := .int (g 113 2)) rfl rfl rfl rfl rfl ?_
      refine Wp.steps 8 (pc1 := 44) (lo1 := [some (.ref 113), some (.int x1), some (.int x2), some (.int (((g 113 2) + 1) / 2)), none]) (st1 := [.int (x2 + 2)]) (h1 := mk g) rfl ?_
      refine Wp.steps 1 (pc1 := 46) (lo1 := [some (.ref 113), some (.int x1), some (.int x2), some (.int (((g 113 2) + 1) / 2)), some (.int (x2 + 2))]) (st1 := []) (h1 := mk g) rfl ?_
      refine Wp.fg [some (.ref 113), none, none, some (.int (((g 113 2) + 1) / 2)), some (.int (x2 + 2))] (zm_lle_s (zm_lle_n (zm_lle_n (zm_lle_s (zm_lle_s zm_lle_0))))) ?_
      exact w_137_46 (sc := sc) (d := d) g 300 (((g 113 2) + 1) / 2) (x2 + 2) _ e Q K
    · skip
      refine Wp.iF (pc1 := 28) rfl hc2 rfl ?_
      refine Wp.steps 3 (pc1 := 31) (lo1 := [some (.ref 113), some (.int x1), some (.int x2), none, none]) (st1 := [.int (x2 / 2)]) (h1 := mk g) rfl ?_
      have e1 := zb_r1 e
      subst e1
      exact Wp.ret rfl rfl rfl (K _)
  · skip
    refine Wp.cF (pc1 := 5) rfl hc1 rfl ?_
    refine Wp.steps 1 (pc1 := 6) (lo1 := [some (.ref 113), some (.int x1), some (.int x2), none, none]) (st1 := [.int x1]) (h1 := mk g) rfl ?_
    rcases zb_if e with ⟨hc4, e⟩ | ⟨hc4, e⟩
    · skip
      refine Wp.iT (pc1 := 13) rfl hc4 rfl ?_
      refine Wp.steps 1 (pc1 := 14) (lo1 := [some (.ref 113), some (.int x1), some (.int x2), none, none]) (st1 := [.ref 113]) (h1 := mk g) rfl ?_
      refine Wp.gf (pc1 := 17) (v := .int (g 113 2)) rfl rfl rfl rfl rfl ?_
      refine Wp.steps 4 (pc1 := 21) (lo1 := [some (.ref 113), some (.int x1), some (.int x2), none, none]) (st1 := [.int (((g 113 2) - 1) - x2)]) (h1 := mk g) rfl ?_
      have e1 := zb_r1 e
      subst e1
      exact Wp.ret rfl rfl rfl (K _)
    · skip
      refine Wp.iF (pc1 := 9) rfl hc4 rfl ?_
      refine Wp.steps 2 (pc1 := 21) (lo1 := [some (.ref 113), some (.int x1), some (.int x2), none, none]) (st1 := [.int x2]) (h1 := mk g) rfl ?_
      have e1 := zb_r1 e
      subst e1
      exact Wp.ret rfl rfl rfl (K _)
def d_138_5 (x1 : Int32) (x2 : Int32) (g : G) : Nat → Int32 → Int32 → Option Int32
  | 0, _, _ => none
  | f + 1, x3, x4 =>
    bif zm_cmp .ge x4 (g 113 2) then (
      some x3) else
    Option.bind (d_137 x1 x4 g) fun v2 =>
    bif zm_cmp .ne v2 x2 then (
      d_138_5 x1 x2 g f x3 (x4 + 1)) else
    d_138_5 x1 x2 g f x4 (x4 + 1)
set_option maxRecDepth 100000 in
set_option maxHeartbeats 4000000 in
theorem w_138_5 {sc : Option (List Int32)} {d : Nat} (x1 : Int32) (x2 : Int32) (g : G) : ∀ (f : Nat) (x3 : Int32) (x4 : Int32) (r : Int32), d_138_5 x1 x2 g f x3 x4 = some r → zB sc (d + 1) 138 5 [some (.ref 113), some (.int x1), some (.int x2), some (.int x3), some (.int x4)] [] (mk g) [.int r] (mk g) := by
  intro f
  induction f with
  | zero =>
    intro x3 x4 r e
    rw [d_138_5.eq_1] at e
    cases e
  | succ f ih =>
    intro x3 x4 r e
    rw [d_138_5.eq_2] at e
    intro Q K
    refine Wp.steps 2 (pc1 := 8) (lo1 := [some (.ref 113), some (.int x1), some (.int x2), some (.int x3), some (.int x4)]) (st1 := [.ref 113, .int x4]) (h1 := mk g) rfl ?_
    refine Wp.gf (pc1 := 11) (v := .int (g 113 2)) rfl rfl rfl rfl rfl ?_
    rcases zb_if e with ⟨hc1, e⟩ | ⟨hc1, e⟩
    · skip
      refine Wp.cT (pc1 := 38) rfl hc1 rfl ?_
      refine Wp.steps 1 (pc1 := 39) (lo1 := [some (.ref 113), some (.int x1), some (.int x2), some (.int x3), some (.int x4)]) (st1 := [.int x3]) (h1 := mk g) rfl ?_
      have e1 := zb_r1 e
      subst e1
      exact Wp.ret rfl rfl rfl (K _)
    · skip
      refine Wp.cF (pc1 := 14) rfl hc1 rfl ?_
      refine Wp.steps 3 (pc1 := 18) (lo1 := [some (.ref 113), some (.int x1), some (.int x2), some (.int x3), some (.int x4)]) (st1 := [.int x4, .int x1, .ref 113]) (h1 := mk g) rfl ?_
      obtain ⟨v2, hvv2, e⟩ := zb_bind e
      refine Wp.ca (m := 137) (d1 := d) (as := [.ref 113, .int x1, .int x4]) (rest := []) (st1 := [.int v2]) (pc1 := 21) rfl rfl rfl rfl rfl rfl rfl rfl (mk_rok rfl rfl rfl rfl) rfl rfl rfl (w_137 (sc := sc) (d := d) x1 x4 g hvv2) ?_
      refine Wp.steps 1 (pc1 := 22) (lo1 := [some (.ref 113), some (.int x1), some (.int x2), some (.int x3), some (.int x4)]) (st1 := [.int x2, .int v2]) (h1 := mk g) rfl ?_
      rcases zb_if e with ⟨hc3, e⟩ | ⟨hc3, e⟩
      · skip
        refine Wp.cT (pc1 := 30) rfl hc3 rfl ?_
        refine Wp.steps 4 (pc1 := 5) (lo1 := [some (.ref 113), some (.int x1), some (.int x2), some (.int x3), some (.int (x4 + 1))]) (st1 := []) (h1 := mk g) rfl ?_
        exact ih _ _ _ e Q K
      · skip
        refine Wp.cF (pc1 := 25) rfl hc3 rfl ?_
        refine Wp.steps 5 (pc1 := 5) (lo1 := [some (.ref 113), some (.int x1), some (.int x2), some (.int x4), some (.int (x4 + 1))]) (st1 := []) (h1 := mk g) rfl ?_
        exact ih _ _ _ e Q K
/-- EveningFirstModel.hourAt(II)I -/
def d_138 (x1 : Int32) (x2 : Int32) (g : G) : Option Int32 :=
  d_138_5 x1 x2 g 300 0 0
set_option maxRecDepth 100000 in
set_option maxHeartbeats 4000000 in
theorem w_138 {sc : Option (List Int32)} {d : Nat} (x1 : Int32) (x2 : Int32) (g : G) {r : Int32} (e : d_138 x1 x2 g = some r) : zB sc (d + 1) 138 0 (zm_ent (z_L 138) [.ref 113, .int x1, .int x2]) [] (mk g) [.int r] (mk g) := by
  unfold d_138 at e
  intro Q K
  show Wp sc (d + 1) 138 0 [some (.ref 113), some (.int x1), some (.int x2), none, none] [] (mk g) Q
  refine Wp.steps 4 (pc1 := 5) (lo1 := [some (.ref 113), some (.int x1), some (.int x2), some (.int 0), some (.int 0)]) (st1 := []) (h1 := mk g) rfl ?_
  exact w_138_5 (sc := sc) (d := d) x1 x2 g 300 0 0 _ e Q K
/-- EveningFirstModel.one(II)I -/
def d_140 (x1 : Int32) (x2 : Int32) (g : G) : Option Int32 :=
  zb_l (d_131 x1 g) fun v1 =>
  bif v1 then (
    bif zm_cmp .ne x2 0 then (
      bif zm_cmp .ne x2 1 then (
        zb_l (d_133 (x2 - 10) g) fun v5 =>
        bif v5 then (
          Option.bind (zm_ix (0 + x1) 294) fun k7 =>
          Option.bind (d_138 (g 114 k7) (x2 - 10) g) fun v8 =>
          some v8) else
        some (-1)) else
      Option.bind (zm_ix (4 + x1) 294) fun k9 =>
      some (g 114 k9)) else
    Option.bind (zm_ix (0 + x1) 294) fun k10 =>
    some (g 114 k10)) else
  some (-1)
set_option maxRecDepth 100000 in
set_option maxHeartbeats 4000000 in
theorem w_140 {sc : Option (List Int32)} {d : Nat} (x1 : Int32) (x2 : Int32) (g : G) {r : Int32} (e : d_140 x1 x2 g = some r) : zB sc (d + 2) 140 0 (zm_ent (z_L 140) [.ref 113, .int x1, .int x2]) [] (mk g) [.int r] (mk g) := by
  unfold d_140 at e
  intro Q K
  show Wp sc (d + 2) 140 0 [some (.ref 113), some (.int x1), some (.int x2)] [] (mk g) Q
  refine Wp.steps 2 (pc1 := 2) (lo1 := [some (.ref 113), some (.int x1), some (.int x2)]) (st1 := [.int x1, .ref 113]) (h1 := mk g) rfl ?_
  obtain ⟨v1, hvv1, e⟩ := zb_let e
  refine Wp.ca (m := 131) (d1 := d + 1) (as := [.ref 113, .int x1]) (rest := []) (st1 := [.int (zb_i v1)]) (pc1 := 5) rfl rfl rfl rfl rfl rfl rfl rfl (mk_rok rfl rfl rfl rfl) rfl rfl rfl (w_131 (sc := sc) (d := d) x1 g hvv1) ?_
  rcases zb_if e with ⟨hc2, e⟩ | ⟨hc2, e⟩
  · skip
    refine Wp.iT (pc1 := 10) rfl (zb_neT hc2) rfl ?_
    refine Wp.steps 1 (pc1 := 11) (lo1 := [some (.ref 113), some (.int x1), some (.int x2)]) (st1 := [.int x2]) (h1 := mk g) rfl ?_
    rcases zb_if e with ⟨hc3, e⟩ | ⟨hc3, e⟩
    · skip
      refine Wp.iT (pc1 := 25) rfl hc3 rfl ?_
      refine Wp.steps 2 (pc1 := 27) (lo1 := [some (.ref 113), some (.int x1), some (.int x2)]) (st1 := [.int 1, .int x2]) (h1 := mk g) rfl ?_
      rcases zb_if e with ⟨hc4, e⟩ | ⟨hc4, e⟩
      · skip
        refine Wp.cT (pc1 := 41) rfl hc4 rfl ?_
        refine Wp.steps 4 (pc1 := 46) (lo1 := [some (.ref 113), some (.int x1), some (.int x2)]) (st1 := [.int (x2 - 10), .ref 113]) (h1 := mk g) rfl ?_
        obtain ⟨v5, hvv5, e⟩ := zb_let e
        refine Wp.ca (m := 133) (d1 := d + 1) (as := [.ref 113, .int (x2 - 10)]) (rest := []) (st1 := [.int (zb_i v5)]) (pc1 := 49) rfl rfl rfl rfl rfl rfl rfl rfl (mk_rok rfl rfl rfl rfl) rfl rfl rfl (w_133 (sc := sc) (d := d) (x2 - 10) g hvv5) ?_
        rcases zb_if e with ⟨hc6, e⟩ | ⟨hc6, e⟩
        · skip
          refine Wp.iF (pc1 := 52) rfl (zb_eqF hc6) rfl ?_
          refine Wp.steps 2 (pc1 := 54) (lo1 := [some (.ref 113), some (.int x1), some (.int x2)]) (st1 := [.ref 113, .ref 113]) (h1 := mk g) rfl ?_
          refine Wp.gf (pc1 := 57) (v := .ref 114) rfl rfl rfl rfl rfl ?_
          refine Wp.steps 3 (pc1 := 60) (lo1 := [some (.ref 113), some (.int x1), some (.int x2)]) (st1 := [.int (0 + x1), .ref 114, .ref 113]) (h1 := mk g) rfl ?_
          obtain ⟨k7, hk7, e⟩ := zb_bind e
          refine Wp.ia (pc1 := 61) rfl rfl rfl hk7 rfl ?_
          refine Wp.steps 3 (pc1 := 65) (lo1 := [some (.ref 113), some (.int x1), some (.int x2)]) (st1 := [.int (x2 - 10), .int (g 114 k7), .ref 113]) (h1 := mk g) rfl ?_
          obtain ⟨v8, hvv8, e⟩ := zb_bind e
          refine Wp.ca (m := 138) (d1 := d + 1) (as := [.ref 113, .int (g 114 k7), .int (x2 - 10)]) (rest := []) (st1 := [.int v8]) (pc1 := 68) rfl rfl rfl rfl rfl rfl rfl rfl (mk_rok rfl rfl rfl rfl) rfl rfl rfl (w_138 (sc := sc) (d := d) (g 114 k7) (x2 - 10) g hvv8) ?_
          refine Wp.steps 1 (pc1 := 72) (lo1 := [some (.ref 113), some (.int x1), some (.int x2)]) (st1 := [.int v8]) (h1 := mk g) rfl ?_
          have e1 := zb_r1 e
          subst e1
          exact Wp.ret rfl rfl rfl (K _)
        · skip
          refine Wp.iT (pc1 := 71) rfl (zb_eqT hc6) rfl ?_
          refine Wp.steps 1 (pc1 := 72) (lo1 := [some (.ref 113), some (.int x1), some (.int x2)]) (st1 := [.int (-1)]) (h1 := mk g) rfl ?_
          have e1 := zb_r1 e
          subst e1
          exact Wp.ret rfl rfl rfl (K _)
      · skip
        refine Wp.cF (pc1 := 30) rfl hc4 rfl ?_
        refine Wp.steps 1 (pc1 := 31) (lo1 := [some (.ref 113), some (.int x1), some (.int x2)]) (st1 := [.ref 113]) (h1 := mk g) rfl ?_
        refine Wp.gf (pc1 := 34) (v := .ref 114) rfl rfl rfl rfl rfl ?_
        refine Wp.steps 3 (pc1 := 37) (lo1 := [some (.ref 113), some (.int x1), some (.int x2)]) (st1 := [.int (4 + x1), .ref 114]) (h1 := mk g) rfl ?_
        obtain ⟨k9, hk9, e⟩ := zb_bind e
        refine Wp.ia (pc1 := 38) rfl rfl rfl hk9 rfl ?_
        refine Wp.steps 1 (pc1 := 72) (lo1 := [some (.ref 113), some (.int x1), some (.int x2)]) (st1 := [.int (g 114 k9)]) (h1 := mk g) rfl ?_
        have e1 := zb_r1 e
        subst e1
        exact Wp.ret rfl rfl rfl (K _)
    · skip
      refine Wp.iF (pc1 := 14) rfl hc3 rfl ?_
      refine Wp.steps 1 (pc1 := 15) (lo1 := [some (.ref 113), some (.int x1), some (.int x2)]) (st1 := [.ref 113]) (h1 := mk g) rfl ?_
      refine Wp.gf (pc1 := 18) (v := .ref 114) rfl rfl rfl rfl rfl ?_
      refine Wp.steps 3 (pc1 := 21) (lo1 := [some (.ref 113), some (.int x1), some (.int x2)]) (st1 := [.int (0 + x1), .ref 114]) (h1 := mk g) rfl ?_
      obtain ⟨k10, hk10, e⟩ := zb_bind e
      refine Wp.ia (pc1 := 22) rfl rfl rfl hk10 rfl ?_
      refine Wp.steps 1 (pc1 := 72) (lo1 := [some (.ref 113), some (.int x1), some (.int x2)]) (st1 := [.int (g 114 k10)]) (h1 := mk g) rfl ?_
      have e1 := zb_r1 e
      subst e1
      exact Wp.ret rfl rfl rfl (K _)
  · skip
    refine Wp.iF (pc1 := 8) rfl (zb_neF hc2) rfl ?_
    refine Wp.steps 1 (pc1 := 9) (lo1 := [some (.ref 113), some (.int x1), some (.int x2)]) (st1 := [.int (-1)]) (h1 := mk g) rfl ?_
    have e1 := zb_r1 e
    subst e1
    exact Wp.ret rfl rfl rfl (K _)
/-- EveningFirst$Family.isDeed(I)Z -/
def d_20 (r0 : Nat) (x1 : Int32) (g : G) : Bool :=
  bif zm_cmp .lt x1 0 then (
    false) else
  bif zm_cmp .ge x1 (g r0 2) then (
    false) else
  true
set_option maxRecDepth 100000 in
set_option maxHeartbeats 4000000 in
theorem w_20 {sc : Option (List Int32)} {d : Nat} (r0 : Nat) (x1 : Int32) (h0 : zg_cl r0 = 2) (g : G) {r : Bool} (e : d_20 r0 x1 g = r) : zB sc (d) 20 0 (zm_ent (z_L 20) [.ref r0, .int x1]) [] (mk g) [.int (zb_i r)] (mk g) := by
  unfold d_20 at e
  intro Q K
  show Wp sc (d) 20 0 [some (.ref r0), some (.int x1)] [] (mk g) Q
  refine Wp.steps 1 (pc1 := 1) (lo1 := [some (.ref r0), some (.int x1)]) (st1 := [.int x1]) (h1 := mk g) rfl ?_
  rcases zb_if e with ⟨hc1, e⟩ | ⟨hc1, e⟩
  · skip
    refine Wp.iT (pc1 := 16) rfl hc1 rfl ?_
    refine Wp.steps 1 (pc1 := 17) (lo1 := [some (.ref r0), some (.int x1)]) (st1 := [.int 0]) (h1 := mk g) rfl ?_
    have e1 := e
    subst e1
    exact Wp.ret rfl rfl rfl (K _)
  · skip
    refine Wp.iF (pc1 := 4) rfl hc1 rfl ?_
    refine Wp.steps 2 (pc1 := 6) (lo1 := [some (.ref r0), some (.int x1)]) (st1 := [.ref r0, .int x1]) (h1 := mk g) rfl ?_
    refine Wp.gf (pc1 := 9) (v := .int (g r0 2)) rfl h0 rfl rfl rfl ?_
    rcases zb_if e with ⟨hc2, e⟩ | ⟨hc2, e⟩
    · skip
      refine Wp.cT (pc1 := 16) rfl hc2 rfl ?_
      refine Wp.steps 1 (pc1 := 17) (lo1 := [some (.ref r0), some (.int x1)]) (st1 := [.int 0]) (h1 := mk g) rfl ?_
      have e1 := e
      subst e1
      exact Wp.ret rfl rfl rfl (K _)
    · skip
      refine Wp.cF (pc1 := 12) rfl hc2 rfl ?_
      refine Wp.steps 2 (pc1 := 17) (lo1 := [some (.ref r0), some (.int x1)]) (st1 := [.int 1]) (h1 := mk g) rfl ?_
      have e1 := e
      subst e1
      exact Wp.ret rfl rfl rfl (K _)
/-- EveningFirst.deed(II)I -/
def d_60 (x1 : Int32) (x2 : Int32) (g : G) : Option Int32 :=
  zb_l (d_20 1 x1 g) fun v1 =>
  bif v1 then (
    Option.bind (zm_ix x1 8) fun k3 =>
    bif x2 == 0 then (
      some (g (9 + k3) 0)) else
    bif x2 == 1 then (
      some (g (9 + k3) 1)) else
    bif x2 == 2 then (
      some (g (9 + k3) 2)) else
    bif x2 == 3 then (
      some (g (9 + k3) 3)) else
    bif x2 == 4 then (
      some (g (9 + k3) 4)) else
    bif x2 == 5 then (
      some (g (9 + k3) 5)) else
    bif x2 == 6 then (
      some (g (9 + k3) 6)) else
    some (-1)) else
  some (-1)
set_option maxRecDepth 100000 in
set_option maxHeartbeats 4000000 in
theorem w_60 {sc : Option (List Int32)} {d : Nat} (x1 : Int32) (x2 : Int32) (g : G) {r : Int32} (e : d_60 x1 x2 g = some r) : zB sc (d + 1) 60 0 (zm_ent (z_L 60) [.ref 0, .int x1, .int x2]) [] (mk g) [.int r] (mk g) := by
  unfold d_60 at e
  intro Q K
  show Wp sc (d + 1) 60 0 [some (.ref 0), some (.int x1), some (.int x2), none] [] (mk g) Q
  refine Wp.steps 1 (pc1 := 1) (lo1 := [some (.ref 0), some (.int x1), some (.int x2), none]) (st1 := [.ref 0]) (h1 := mk g) rfl ?_
  refine Wp.gf (pc1 := 4) (v := .ref 1) rfl rfl rfl rfl rfl ?_
  refine Wp.steps 1 (pc1 := 5) (lo1 := [some (.ref 0), some (.int x1), some (.int x2), none]) (st1 := [.int x1, .ref 1]) (h1 := mk g) rfl ?_
  obtain ⟨v1, hvv1, e⟩ := zb_let e
  refine Wp.ca (m := 20) (d1 := d) (as := [.ref 1, .int x1]) (rest := []) (st1 := [.int (zb_i v1)]) (pc1 := 8) rfl rfl rfl rfl rfl rfl rfl rfl (mk_rok rfl rfl rfl rfl) rfl rfl rfl (w_20 (sc := sc) (d := d) 1 x1 rfl g hvv1) ?_
  rcases zb_if e with ⟨hc2, e⟩ | ⟨hc2, e⟩
  · skip
    refine Wp.iT (pc1 := 13) rfl (zb_neT hc2) rfl ?_
    refine Wp.steps 1 (pc1 := 14) (lo1 := [some (.ref 0), some (.int x1), some (.int x2), none]) (st1 := [.ref 0]) (h1 := mk g) rfl ?_
    refine Wp.gf (pc1 := 17) (v := .ref 1) rfl rfl rfl rfl rfl ?_
    refine Wp.gf (pc1 := 20) (v := .ref 3) rfl rfl rfl rfl rfl ?_
    refine Wp.steps 1 (pc1 := 21) (lo1 := [some (.ref 0), some (.int x1), some (.int x2), none]) (st1 := [.int x1, .ref 3]) (h1 := mk g) rfl ?_
    obtain ⟨k3, hk3, e⟩ := zb_bind e
    refine Wp.aa (pc1 := 22) (v := (9 + k3)) rfl (zg_rdeeds (b := 1) rfl) rfl hk3 (by omega) rfl ?_
    refine Wp.steps 2 (pc1 := 24) (lo1 := [some (.ref 0), some (.int x1), some (.int x2), some (.ref (9 + k3))]) (st1 := [.int x2]) (h1 := mk g) rfl ?_
    rcases zb_if e with ⟨hc4, e⟩ | ⟨hc4, e⟩
    · skip
      refine Wp.swT (pc1 := 68) (w := 0) rfl hc4 rfl ?_
      refine Wp.steps 1 (pc1 := 69) (lo1 := [some (.ref 0), some (.int x1), some (.int x2), some (.ref (9 + k3))]) (st1 := [.ref (9 + k3)]) (h1 := mk g) rfl ?_
      refine Wp.gf (pc1 := 72) (v := .int (g (9 + k3) 0)) rfl (zg_deed (b := 1) rfl hk3) rfl rfl rfl ?_
      have e1 := zb_r1 e
      subst e1
      exact Wp.ret rfl rfl rfl (K _)
    · skip
      rcases zb_if e with ⟨hc5, e⟩ | ⟨hc5, e⟩
      · skip
        refine Wp.swT (pc1 := 73) (w := 1) rfl hc5 rfl ?_
        refine Wp.steps 1 (pc1 := 74) (lo1 := [some (.ref 0), some (.int x1), some (.int x2), some (.ref (9 + k3))]) (st1 := [.ref (9 + k3)]) (h1 := mk g) rfl ?_
        refine Wp.gf (pc1 := 77) (v := .int (g (9 + k3) 1)) rfl (zg_deed (b := 1) rfl hk3) rfl rfl rfl ?_
        have e1 := zb_r1 e
        subst e1
        exact Wp.ret rfl rfl rfl (K _)
      · skip
        rcases zb_if e with ⟨hc6, e⟩ | ⟨hc6, e⟩
        · skip
          refine Wp.swT (pc1 := 78) (w := 2) rfl hc6 rfl ?_
          refine Wp.steps 1 (pc1 := 79) (lo1 := [some (.ref 0), some (.int x1), some (.int x2), some (.ref (9 + k3))]) (st1 := [.ref (9 + k3)]) (h1 := mk g) rfl ?_
          refine Wp.gf (pc1 := 82) (v := .int (g (9 + k3) 2)) rfl (zg_deed (b := 1) rfl hk3) rfl rfl rfl ?_
          have e1 := zb_r1 e
          subst e1
          exact Wp.ret rfl rfl rfl (K _)
        · skip
          rcases zb_if e with ⟨hc7, e⟩ | ⟨hc7, e⟩
          · skip
            refine Wp.swT (pc1 := 83) (w := 3) rfl hc7 rfl ?_
            refine Wp.steps 1 (pc1 := 84) (lo1 := [some (.ref 0), some (.int x1), some (.int x2), some (.ref (9 + k3))]) (st1 := [.ref (9 + k3)]) (h1 := mk g) rfl ?_
            refine Wp.gf (pc1 := 87) (v := .int (g (9 + k3) 3)) rfl (zg_deed (b := 1) rfl hk3) rfl rfl rfl ?_
            have e1 := zb_r1 e
            subst e1
            exact Wp.ret rfl rfl rfl (K _)
          · skip
            rcases zb_if e with ⟨hc8, e⟩ | ⟨hc8, e⟩
            · skip
              refine Wp.swT (pc1 := 88) (w := 4) rfl hc8 rfl ?_
              refine Wp.steps 1 (pc1 := 89) (lo1 := [some (.ref 0), some (.int x1), some (.int x2), some (.ref (9 + k3))]) (st1 := [.ref (9 + k3)]) (h1 := mk g) rfl ?_
              refine Wp.gf (pc1 := 92) (v := .int (g (9 + k3) 4)) rfl (zg_deed (b := 1) rfl hk3) rfl rfl rfl ?_
              have e1 := zb_r1 e
              subst e1
              exact Wp.ret rfl rfl rfl (K _)
            · skip
              rcases zb_if e with ⟨hc9, e⟩ | ⟨hc9, e⟩
              · skip
                refine Wp.swT (pc1 := 93) (w := 5) rfl hc9 rfl ?_
                refine Wp.steps 1 (pc1 := 94) (lo1 := [some (.ref 0), some (.int x1), some (.int x2), some (.ref (9 + k3))]) (st1 := [.ref (9 + k3)]) (h1 := mk g) rfl ?_
                refine Wp.gf (pc1 := 97) (v := .int (g (9 + k3) 5)) rfl (zg_deed (b := 1) rfl hk3) rfl rfl rfl ?_
                have e1 := zb_r1 e
                subst e1
                exact Wp.ret rfl rfl rfl (K _)
              · skip
                rcases zb_if e with ⟨hc10, e⟩ | ⟨hc10, e⟩
                · skip
                  refine Wp.swT (pc1 := 98) (w := 6) rfl hc10 rfl ?_
                  refine Wp.steps 1 (pc1 := 99) (lo1 := [some (.ref 0), some (.int x1), some (.int x2), some (.ref (9 + k3))]) (st1 := [.ref (9 + k3)]) (h1 := mk g) rfl ?_
                  refine Wp.gf (pc1 := 102) (v := .int (g (9 + k3) 6)) rfl (zg_deed (b := 1) rfl hk3) rfl rfl rfl ?_
                  have e1 := zb_r1 e
                  subst e1
                  exact Wp.ret rfl rfl rfl (K _)
                · skip
                  refine Wp.swD (pc1 := 103) [0, 1, 2, 3, 4, 5, 6] rfl (by simp only [List.all_cons, List.all_nil, hc4, hc5, hc6, hc7, hc8, hc9, hc10, Bool.not_false, Bool.and_true]) (by decide) rfl ?_
                  refine Wp.steps 1 (pc1 := 104) (lo1 := [some (.ref 0), some (.int x1), some (.int x2), some (.ref (9 + k3))]) (st1 := [.int (-1)]) (h1 := mk g) rfl ?_
                  have e1 := zb_r1 e
                  subst e1
                  exact Wp.ret rfl rfl rfl (K _)
  · skip
    refine Wp.iF (pc1 := 11) rfl (zb_neF hc2) rfl ?_
    refine Wp.steps 1 (pc1 := 12) (lo1 := [some (.ref 0), some (.int x1), some (.int x2), none]) (st1 := [.int (-1)]) (h1 := mk g) rfl ?_
    have e1 := zb_r1 e
    subst e1
    exact Wp.ret rfl rfl rfl (K _)
