/-! printed by wip/tools/den.py -/
def d_177_9 (x1 : Int32) (g : G) : Nat → Bool → Int32 → Option Bool
  | 0, _, _ => none
  | f + 1, x2, x3 =>
    bif zm_cmp .ge x3 (g 114 65) then (
      some x2) else
    bif x2 then (
      Option.bind (zm_ix (66 + (4 * x3)) 294) fun k4 =>
      Option.bind (zm_ix ((66 + (4 * x3)) + 2) 294) fun k5 =>
      Option.bind (d_150 (g 114 k4) (g 114 k5) x1 g) fun v6 =>
      Option.bind (zm_ix ((66 + (4 * x3)) + 1) 294) fun k7 =>
      Option.bind (zm_ix ((66 + (4 * x3)) + 3) 294) fun k8 =>
      bif zm_cmp .ne ((v6 >>> ((g 114 k7) &&& 31)) &&& 1) (g 114 k8) then (
        d_177_9 x1 g f false (x3 + 1)) else
      d_177_9 x1 g f true (x3 + 1)) else
    d_177_9 x1 g f false (x3 + 1)
set_option maxRecDepth 100000 in
set_option maxHeartbeats 4000000 in
theorem w_177_9 {sc : Option (List Int32)} {d : Nat} (x1 : Int32) (g : G) : ∀ (f : Nat) (x2 : Bool) (x3 : Int32) (r : Bool), d_177_9 x1 g f x2 x3 = some r → zB sc (d + 4) 177 9 [some (.ref 113), some (.int x1), some (.int (zb_i x2)), some (.int x3), none] [] (mk g) [.int (zb_i r)] (mk g) := by
  intro f
  induction f with
  | zero =>
    intro x2 x3 r e
    rw [d_177_9.eq_1] at e
    cases e
  | succ f ih =>
    intro x2 x3 r e
    rw [d_177_9.eq_2] at e
    intro Q K
    refine Wp.steps 2 (pc1 := 11) (lo1 := [some (.ref 113), some (.int x1), some (.int (zb_i x2)), some (.int x3), none]) (st1 := [.ref 113, .int x3]) (h1 := mk g) rfl ?_
    refine Wp.gf (pc1 := 14) (v := .ref 114) rfl rfl rfl rfl rfl ?_
    refine Wp.steps 1 (pc1 := 16) (lo1 := [some (.ref 113), some (.int x1), some (.int (zb_i x2)), some (.int x3), none]) (st1 := [.int 65, .ref 114, .int x3]) (h1 := mk g) rfl ?_
    refine Wp.ia (pc1 := 17) (k := 65) rfl rfl rfl rfl rfl ?_
    rcases zb_if e with ⟨hc2, e⟩ | ⟨hc2, e⟩
    · skip
      refine Wp.cT (pc1 := 89) rfl hc2 rfl ?_
      refine Wp.steps 1 (pc1 := 90) (lo1 := [some (.ref 113), some (.int x1), some (.int (zb_i x2)), some (.int x3), none]) (st1 := [.int (zb_i x2)]) (h1 := mk g) rfl ?_
      have e1 := zb_r1 e
      subst e1
      exact Wp.ret rfl rfl (zb_ok _) (K _)
    · skip
      refine Wp.cF (pc1 := 20) rfl hc2 rfl ?_
      refine Wp.steps 7 (pc1 := 29) (lo1 := [some (.ref 113), some (.int x1), some (.int (zb_i x2)), some (.int x3), some (.int (66 + (4 * x3)))]) (st1 := [.int (zb_i x2)]) (h1 := mk g) rfl ?_
      rcases zb_if e with ⟨hc3, e⟩ | ⟨hc3, e⟩
      · skip
        refine Wp.iF (pc1 := 32) rfl (zb_eqF hc3) rfl ?_
        refine Wp.steps 2 (pc1 := 34) (lo1 := [some (.ref 113), some (.int x1), some (.int (zb_i x2)), some (.int x3), some (.int (66 + (4 * x3)))]) (st1 := [.ref 113, .ref 113]) (h1 := mk g) rfl ?_
        refine Wp.gf (pc1 := 37) (v := .ref 114) rfl rfl rfl rfl rfl ?_
        refine Wp.steps 1 (pc1 := 39) (lo1 := [some (.ref 113), some (.int x1), some (.int (zb_i x2)), some (.int x3), some (.int (66 + (4 * x3)))]) (st1 := [.int (66 + (4 * x3)), .ref 114, .ref 113]) (h1 := mk g) rfl ?_
        obtain ⟨k4, hk4, e⟩ := zb_bind e
        refine Wp.ia (pc1 := 40) rfl rfl rfl hk4 rfl ?_
        refine Wp.steps 1 (pc1 := 41) (lo1 := [some (.ref 113), some (.int x1), some (.int (zb_i x2)), some (.int x3), some (.int (66 + (4 * x3)))]) (st1 := [.ref 113, .int (g 114 k4), .ref 113]) (h1 := mk g) rfl ?_
        refine Wp.gf (pc1 := 44) (v := .ref 114) rfl rfl rfl rfl rfl ?_
        refine Wp.steps 3 (pc1 := 48) (lo1 := [some (.ref 113), some (.int x1), some (.int (zb_i x2)), some (.int x3), some (.int (66 + (4 * x3)))]) (st1 := [.int ((66 + (4 * x3)) + 2), .ref 114, .int (g 114 k4), .ref 113]) (h1 := mk g) rfl ?_
        obtain ⟨k5, hk5, e⟩ := zb_bind e
        refine Wp.ia (pc1 := 49) rfl rfl rfl hk5 rfl ?_
        refine Wp.steps 1 (pc1 := 50) (lo1 := [some (.ref 113), some (.int x1), some (.int (zb_i x2)), some (.int x3), some (.int (66 + (4 * x3)))]) (st1 := [.int x1, .int (g 114 k5), .int (g 114 k4), .ref 113]) (h1 := mk g) rfl ?_
        obtain ⟨v6, hvv6, e⟩ := zb_bind e
        refine Wp.ca (m := 150) (d1 := d + 3) (as := [.ref 113, .int (g 114 k4), .int (g 114 k5), .int x1]) (rest := []) (st1 := [.int v6]) (pc1 := 53) rfl rfl rfl rfl rfl rfl rfl rfl (mk_rok rfl rfl rfl rfl) rfl rfl rfl (w_150 (sc := sc) (d := d + 2) (g 114 k4) (g 114 k5) x1 g hvv6) ?_
        refine Wp.steps 1 (pc1 := 54) (lo1 := [some (.ref 113), some (.int x1), some (.int (zb_i x2)), some (.int x3), some (.int (66 + (4 * x3)))]) (st1 := [.ref 113, .int v6]) (h1 := mk g) rfl ?_
        refine Wp.gf (pc1 := 57) (v := .ref 114) rfl rfl rfl rfl rfl ?_
        refine Wp.steps 3 (pc1 := 61) (lo1 := [some (.ref 113), some (.int x1), some (.int (zb_i x2)), some (.int x3), some (.int (66 + (4 * x3)))]) (st1 := [.int ((66 + (4 * x3)) + 1), .ref 114, .int v6]) (h1 := mk g) rfl ?_
        obtain ⟨k7, hk7, e⟩ := zb_bind e
        refine Wp.ia (pc1 := 62) rfl rfl rfl hk7 rfl ?_
        refine Wp.steps 4 (pc1 := 66) (lo1 := [some (.ref 113), some (.int x1), some (.int (zb_i x2)), some (.int x3), some (.int (66 + (4 * x3)))]) (st1 := [.ref 113, .int ((v6 >>> ((g 114 k7) &&& 31)) &&& 1)]) (h1 := mk g) rfl ?_
        refine Wp.gf (pc1 := 69) (v := .ref 114) rfl rfl rfl rfl rfl ?_
        refine Wp.steps 3 (pc1 := 73) (lo1 := [some (.ref 113), some (.int x1), some (.int (zb_i x2)), some (.int x3), some (.int (66 + (4 * x3)))]) (st1 := [.int ((66 + (4 * x3)) + 3), .ref 114, .int ((v6 >>> ((g 114 k7) &&& 31)) &&& 1)]) (h1 := mk g) rfl ?_
        obtain ⟨k8, hk8, e⟩ := zb_bind e
        refine Wp.ia (pc1 := 74) rfl rfl rfl hk8 rfl ?_
        rcases zb_if e with ⟨hc9, e⟩ | ⟨hc9, e⟩
        · skip
          refine Wp.cT (pc1 := 81) rfl hc9 rfl ?_
          refine Wp.steps 4 (pc1 := 9) (lo1 := [some (.ref 113), some (.int x1), some (.int 0), some (.int (x3 + 1)), some (.int (66 + (4 * x3)))]) (st1 := []) (h1 := mk g) rfl ?_
          refine Wp.fg [some (.ref 113), some (.int x1), some (.int 0), some (.int (x3 + 1)), none] (zm_lle_s (zm_lle_s (zm_lle_s (zm_lle_s (zm_lle_n zm_lle_0))))) ?_
          exact ih _ _ _ e Q K
        · skip
          refine Wp.cF (pc1 := 77) rfl hc9 rfl ?_
          refine Wp.steps 5 (pc1 := 9) (lo1 := [some (.ref 113), some (.int x1), some (.int 1), some (.int (x3 + 1)), some (.int (66 + (4 * x3)))]) (st1 := []) (h1 := mk g) rfl ?_
          refine Wp.fg [some (.ref 113), some (.int x1), some (.int 1), some (.int (x3 + 1)), none] (zm_lle_s (zm_lle_s (zm_lle_s (zm_lle_s (zm_lle_n zm_lle_0))))) ?_
          exact ih _ _ _ e Q K
      · skip
        refine Wp.iT (pc1 := 81) rfl (zb_eqT hc3) rfl ?_
        refine Wp.steps 4 (pc1 := 9) (lo1 := [some (.ref 113), some (.int x1), some (.int 0), some (.int (x3 + 1)), some (.int (66 + (4 * x3)))]) (st1 := []) (h1 := mk g) rfl ?_
        refine Wp.fg [some (.ref 113), some (.int x1), some (.int 0), some (.int (x3 + 1)), none] (zm_lle_s (zm_lle_s (zm_lle_s (zm_lle_s (zm_lle_n zm_lle_0))))) ?_
        exact ih _ _ _ e Q K
/-- EveningFirstModel.isSo()Z -/
def d_177 (g : G) : Option Bool :=
  Option.bind (d_161 g) fun v1 =>
  d_177_9 v1 g 300 true 0
set_option maxRecDepth 100000 in
set_option maxHeartbeats 4000000 in
theorem w_177 {sc : Option (List Int32)} {d : Nat} (g : G) {r : Bool} (e : d_177 g = some r) : zB sc (d + 4) 177 0 (zm_ent (z_L 177) [.ref 113]) [] (mk g) [.int (zb_i r)] (mk g) := by
  unfold d_177 at e
  intro Q K
  show Wp sc (d + 4) 177 0 [some (.ref 113), none, none, none, none] [] (mk g) Q
  refine Wp.steps 1 (pc1 := 1) (lo1 := [some (.ref 113), none, none, none, none]) (st1 := [.ref 113]) (h1 := mk g) rfl ?_
  obtain ⟨v1, hvv1, e⟩ := zb_bind e
  refine Wp.ca (m := 161) (d1 := d + 3) (as := [.ref 113]) (rest := []) (st1 := [.int v1]) (pc1 := 4) rfl rfl rfl rfl rfl rfl rfl rfl (mk_rok rfl rfl rfl rfl) rfl rfl rfl (w_161 (sc := sc) (d := d)  g hvv1) ?_
  refine Wp.steps 5 (pc1 := 9) (lo1 := [some (.ref 113), some (.int v1), some (.int 1), some (.int 0), none]) (st1 := []) (h1 := mk g) rfl ?_
  exact w_177_9 (sc := sc) (d := d) v1 g 300 true 0 _ e Q K
def d_178_178 (x1 : Int32) (x3 : Int32) (x4 : Int32) (x5 : Int32) : Nat → Int32 → G → Option (Int32 × G)
  | 0, _, _ => none
  | f + 1, x6, g =>
    bif zm_cmp .ge x6 (g 113 3) then (
      bif zm_cmp .ne x1 0 then (
        bif zm_cmp .ne x1 1 then (
          some (x5, g)) else
        some (x4, g)) else
      some (x3, g)) else
    Option.bind (zm_ix x6 4) fun k8 =>
    Option.bind (zm_ix (0 + x6) 294) fun k10 =>
    zb_l (zg_up g 114 k10 (g 118 k8)) fun g9 =>
    d_178_178 x1 x3 x4 x5 f (x6 + 1) g9
set_option maxRecDepth 100000 in
set_option maxHeartbeats 4000000 in
theorem w_178_178 {sc : Option (List Int32)} {d : Nat} (x1 : Int32) (x3 : Int32) (x4 : Int32) (x5 : Int32) : ∀ (f : Nat) (x6 : Int32) (g : G) (r : Int32) (g' : G), d_178_178 x1 x3 x4 x5 f x6 g = some (r, g') → zB sc (d + 5) 178 178 [some (.ref 113), some (.int x1), none, some (.int x3), some (.int x4), some (.int x5), some (.int x6), none, none] [] (mk g) [.int r] (mk g') := by
  intro f
  induction f with
  | zero =>
    intro x6 g r g' e
    rw [d_178_178.eq_1] at e
    cases e
  | succ f ih =>
    intro x6 g r g' e
    rw [d_178_178.eq_2] at e
    intro Q K
    refine Wp.steps 2 (pc1 := 181) (lo1 := [some (.ref 113), some (.int x1), none, some (.int x3), some (.int x4), some (.int x5), some (.int x6), none, none]) (st1 := [.ref 113, .int x6]) (h1 := mk g) rfl ?_
    refine Wp.gf (pc1 := 184) (v := .int (g 113 3)) rfl rfl rfl rfl rfl ?_
    rcases zb_if e with ⟨hc5, e⟩ | ⟨hc5, e⟩
    · skip
      refine Wp.cT (pc1 := 209) rfl hc5 rfl ?_
      refine Wp.steps 1 (pc1 := 210) (lo1 := [some (.ref 113), some (.int x1), none, some (.int x3), some (.int x4), some (.int x5), some (.int x6), none, none]) (st1 := [.int x1]) (h1 := mk g) rfl ?_
      rcases zb_if e with ⟨hc6, e⟩ | ⟨hc6, e⟩
      · skip
        refine Wp.iT (pc1 := 217) rfl hc6 rfl ?_
        refine Wp.steps 2 (pc1 := 219) (lo1 := [some (.ref 113), some (.int x1), none, some (.int x3), some (.int x4), some (.int x5), some (.int x6), none, none]) (st1 := [.int 1, .int x1]) (h1 := mk g) rfl ?_
        rcases zb_if e with ⟨hc7, e⟩ | ⟨hc7, e⟩
        · skip
          refine Wp.cT (pc1 := 227) rfl hc7 rfl ?_
          refine Wp.steps 1 (pc1 := 229) (lo1 := [some (.ref 113), some (.int x1), none, some (.int x3), some (.int x4), some (.int x5), some (.int x6), none, none]) (st1 := [.int x5]) (h1 := mk g) rfl ?_
          obtain ⟨e1, e2⟩ := zb_r2 e
          subst e1
          subst e2
          exact Wp.ret rfl rfl rfl (K _)
        · skip
          refine Wp.cF (pc1 := 222) rfl hc7 rfl ?_
          refine Wp.steps 2 (pc1 := 229) (lo1 := [some (.ref 113), some (.int x1), none, some (.int x3), some (.int x4), some (.int x5), some (.int x6), none, none]) (st1 := [.int x4]) (h1 := mk g) rfl ?_
          obtain ⟨e1, e2⟩ := zb_r2 e
          subst e1
          subst e2
          exact Wp.ret rfl rfl rfl (K _)
      · skip
        refine Wp.iF (pc1 := 213) rfl hc6 rfl ?_
        refine Wp.steps 2 (pc1 := 229) (lo1 := [some (.ref 113), some (.int x1), none, some (.int x3), some (.int x4), some (.int x5), some (.int x6), none, none]) (st1 := [.int x3]) (h1 := mk g) rfl ?_
        obtain ⟨e1, e2⟩ := zb_r2 e
        subst e1
        subst e2
        exact Wp.ret rfl rfl rfl (K _)
    · skip
      refine Wp.cF (pc1 := 187) rfl hc5 rfl ?_
      refine Wp.steps 1 (pc1 := 188) (lo1 := [some (.ref 113), some (.int x1), none, some (.int x3), some (.int x4), some (.int x5), some (.int x6), none, none]) (st1 := [.ref 113]) (h1 := mk g) rfl ?_
      refine Wp.gf (pc1 := 191) (v := .ref 114) rfl rfl rfl rfl rfl ?_
      refine Wp.steps 4 (pc1 := 196) (lo1 := [some (.ref 113), some (.int x1), none, some (.int x3), some (.int x4), some (.int x5), some (.int x6), none, none]) (st1 := [.ref 113, .int (0 + x6), .ref 114]) (h1 := mk g) rfl ?_
      refine Wp.gf (pc1 := 199) (v := .ref 118) rfl rfl rfl rfl rfl ?_
      refine Wp.steps 1 (pc1 := 201) (lo1 := [some (.ref 113), some (.int x1), none, some (.int x3), some (.int x4), some (.int x5), some (.int x6), none, none]) (st1 := [.int x6, .ref 118, .int (0 + x6), .ref 114]) (h1 := mk g) rfl ?_
      obtain ⟨k8, hk8, e⟩ := zb_bind e
      refine Wp.ia (pc1 := 202) rfl rfl rfl hk8 rfl ?_
      obtain ⟨k10, hk10, e⟩ := zb_bind e
      obtain ⟨g9, hg9, e⟩ := zb_let e
      refine Wp.ias (pc1 := 203) rfl rfl rfl hk10 hg9 rfl ?_
      refine Wp.steps 2 (pc1 := 178) (lo1 := [some (.ref 113), some (.int x1), none, some (.int x3), some (.int x4), some (.int x5), some (.int (x6 + 1)), none, none]) (st1 := []) (h1 := mk g9) rfl ?_
      exact ih _ _ _ _ e Q K
def d_178_84 (x1 : Int32) (x2 : Int32) (x3 : Int32) (x4 : Int32) (x5 : Int32) (x6 : Int32) (k71 : Int32 → Int32 → Int32 → Int32 → G → Option (Int32 × G)) : Nat → Int32 → Int32 → G → Option (Int32 × G)
  | 0, _, _, _ => none
  | f + 1, x7, x8, g =>
    bif zm_cmp .ge x8 (g 113 3) then (
      Option.bind (d_177 g) fun v12 =>
      bif v12 then (
        bif zm_cmp .ne x3 0 then (
          bif zm_cmp .lt x1 10 then (
            k71 (x3 + 1) x4 (x5 ||| 0) (x6 + 1) g) else
          Option.bind (zm_ix ((0 + x1) - 10) 294) fun k16 =>
          k71 (x3 + 1) x4 (x5 ||| ((1 : Int32) <<< ((g 114 k16) &&& 31))) (x6 + 1) g) else
        bif zm_cmp .lt x1 10 then (
          k71 (x3 + 1) x6 (x5 ||| 0) (x6 + 1) g) else
        Option.bind (zm_ix ((0 + x1) - 10) 294) fun k18 =>
        k71 (x3 + 1) x6 (x5 ||| ((1 : Int32) <<< ((g 114 k18) &&& 31))) (x6 + 1) g) else
      k71 x3 x4 x5 (x6 + 1) g) else
    Option.bind (zm_ix (0 + x8) 294) fun k20 =>
    zb_l (zg_up g 114 k20 (x7 - x7 / 3 * 3)) fun g19 =>
    d_178_84 x1 x2 x3 x4 x5 x6 k71 f (x7 / 3) (x8 + 1) g19
set_option maxRecDepth 100000 in
set_option maxHeartbeats 4000000 in
theorem w_178_84 {sc : Option (List Int32)} {d : Nat} (x1 : Int32) (x2 : Int32) (x3 : Int32) (x4 : Int32) (x5 : Int32) (x6 : Int32) (k71 : Int32 → Int32 → Int32 → Int32 → G → Option (Int32 × G)) (hk71 : ∀ (x3 : Int32) (x4 : Int32) (x5 : Int32) (x6 : Int32) (g : G) (r : Int32) (g' : G), k71 x3 x4 x5 x6 g = some (r, g') → zB sc (d + 5) 178 71 [some (.ref 113), some (.int x1), some (.int x2), some (.int x3), some (.int x4), some (.int x5), some (.int x6), none, none] [] (mk g) [.int r] (mk g')) : ∀ (f : Nat) (x7 : Int32) (x8 : Int32) (g : G) (r : Int32) (g' : G), d_178_84 x1 x2 x3 x4 x5 x6 k71 f x7 x8 g = some (r, g') → zB sc (d + 5) 178 84 [some (.ref 113), some (.int x1), some (.int x2), some (.int x3), some (.int x4), some (.int x5), some (.int x6), some (.int x7), some (.int x8)] [] (mk g) [.int r] (mk g') := by
  intro f
  induction f with
  | zero =>
    intro x7 x8 g r g' e
    rw [d_178_84.eq_1] at e
    cases e
  | succ f ih =>
    intro x7 x8 g r g' e
    rw [d_178_84.eq_2] at e
    intro Q K
    refine Wp.steps 2 (pc1 := 87) (lo1 := [some (.ref 113), some (.int x1), some (.int x2), some (.int x3), some (.int x4), some (.int x5), some (.int x6), some (.int x7), some (.int x8)]) (st1 := [.ref 113, .int x8]) (h1 := mk g) rfl ?_
    refine Wp.gf (pc1 := 90) (v := .int (g 113 3)) rfl rfl rfl rfl rfl ?_
    rcases zb_if e with ⟨hc11, e⟩ | ⟨hc11, e⟩
    · skip
      refine Wp.cT (pc1 := 118) rfl hc11 rfl ?_
      refine Wp.steps 1 (pc1 := 119) (lo1 := [some (.ref 113), some (.int x1), some (.int x2), some (.int x3), some (.int x4), some (.int x5), some (.int x6), some (.int x7), some (.int x8)]) (st1 := [.ref 113]) (h1 := mk g) rfl ?_
      obtain ⟨v12, hvv12, e⟩ := zb_bind e
      refine Wp.ca (m := 177) (d1 := d + 4) (as := [.ref 113]) (rest := []) (st1 := [.int (zb_i v12)]) (pc1 := 122) rfl rfl rfl rfl rfl rfl rfl rfl (mk_rok rfl rfl rfl rfl) rfl rfl rfl (w_177 (sc := sc) (d := d)  g hvv12) ?_
      rcases zb_if e with ⟨hc13, e⟩ | ⟨hc13, e⟩
      · skip
        refine Wp.iF (pc1 := 125) rfl (zb_eqF hc13) rfl ?_
        refine Wp.steps 1 (pc1 := 126) (lo1 := [some (.ref 113), some (.int x1), some (.int x2), some (.int x3), some (.int x4), some (.int x5), some (.int x6), some (.int x7), some (.int x8)]) (st1 := [.int x3]) (h1 := mk g) rfl ?_
        rcases zb_if e with ⟨hc14, e⟩ | ⟨hc14, e⟩
        · skip
          refine Wp.iT (pc1 := 134) rfl hc14 rfl ?_
          refine Wp.steps 5 (pc1 := 143) (lo1 := [some (.ref 113), some (.int x1), some (.int x2), some (.int x3), some (.int x4), some (.int x5), some (.int x6), some (.int x7), some (.int x8)]) (st1 := [.int 10, .int x1, .int x5]) (h1 := mk g) rfl ?_
          rcases zb_if e with ⟨hc15, e⟩ | ⟨hc15, e⟩
          · skip
            refine Wp.cT (pc1 := 162) rfl hc15 rfl ?_
            refine Wp.steps 6 (pc1 := 71) (lo1 := [some (.ref 113), some (.int x1), some (.int x2), some (.int (x3 + 1)), some (.int x4), some (.int (x5 ||| 0)), some (.int (x6 + 1)), some (.int x7), some (.int x8)]) (st1 := []) (h1 := mk g) rfl ?_
            refine Wp.fg [some (.ref 113), some (.int x1), some (.int x2), some (.int (x3 + 1)), some (.int x4), some (.int (x5 ||| 0)), some (.int (x6 + 1)), none, none] (zm_lle_s (zm_lle_s (zm_lle_s (zm_lle_s (zm_lle_s (zm_lle_s (zm_lle_s (zm_lle_n (zm_lle_n zm_lle_0))))))))) ?_
            exact hk71 _ _ _ _ _ _ _ e Q K
          · skip
            refine Wp.cF (pc1 := 146) rfl hc15 rfl ?_
            refine Wp.steps 2 (pc1 := 148) (lo1 := [some (.ref 113), some (.int x1), some (.int x2), some (.int x3), some (.int x4), some (.int x5), some (.int x6), some (.int x7), some (.int x8)]) (st1 := [.ref 113, .int 1, .int x5]) (h1 := mk g) rfl ?_
            refine Wp.gf (pc1 := 151) (v := .ref 114) rfl rfl rfl rfl rfl ?_
            refine Wp.steps 5 (pc1 := 157) (lo1 := [some (.ref 113), some (.int x1), some (.int x2), some (.int x3), some (.int x4), some (.int x5), some (.int x6), some (.int x7), some (.int x8)]) (st1 := [.int ((0 + x1) - 10), .ref 114, .int 1, .int x5]) (h1 := mk g) rfl ?_
            obtain ⟨k16, hk16, e⟩ := zb_bind e
            refine Wp.ia (pc1 := 158) rfl rfl rfl hk16 rfl ?_
            refine Wp.steps 7 (pc1 := 71) (lo1 := [some (.ref 113), some (.int x1), some (.int x2), some (.int (x3 + 1)), some (.int x4), some (.int (x5 ||| ((1 : Int32) <<< ((g 114 k16) &&& 31)))), some (.int (x6 + 1)), some (.int x7), some (.int x8)]) (st1 := []) (h1 := mk g) rfl ?_
            refine Wp.fg [some (.ref 113), some (.int x1), some (.int x2), some (.int (x3 + 1)), some (.int x4), some (.int (x5 ||| ((1 : Int32) <<< ((g 114 k16) &&& 31)))), some (.int (x6 + 1)), none, none] (zm_lle_s (zm_lle_s (zm_lle_s (zm_lle_s (zm_lle_s (zm_lle_s (zm_lle_s (zm_lle_n (zm_lle_n zm_lle_0))))))))) ?_
            exact hk71 _ _ _ _ _ _ _ e Q K
        · skip
          refine Wp.iF (pc1 := 129) rfl hc14 rfl ?_
          refine Wp.steps 6 (pc1 := 143) (lo1 := [some (.ref 113), some (.int x1), some (.int x2), some (.int x3), some (.int x6), some (.int x5), some (.int x6), some (.int x7), some (.int x8)]) (st1 := [.int 10, .int x1, .int x5]) (h1 := mk g) rfl ?_
          rcases zb_if e with ⟨hc17, e⟩ | ⟨hc17, e⟩
          · skip
            refine Wp.cT (pc1 := 162) rfl hc17 rfl ?_
            refine Wp.steps 6 (pc1 := 71) (lo1 := [some (.ref 113), some (.int x1), some (.int x2), some (.int (x3 + 1)), some (.int x6), some (.int (x5 ||| 0)), some (.int (x6 + 1)), some (.int x7), some (.int x8)]) (st1 := []) (h1 := mk g) rfl ?_
            refine Wp.fg [some (.ref 113), some (.int x1), some (.int x2), some (.int (x3 + 1)), some (.int x6), some (.int (x5 ||| 0)), some (.int (x6 + 1)), none, none] (zm_lle_s (zm_lle_s (zm_lle_s (zm_lle_s (zm_lle_s (zm_lle_s (zm_lle_s (zm_lle_n (zm_lle_n zm_lle_0))))))))) ?_
            exact hk71 _ _ _ _ _ _ _ e Q K
          · skip
            refine Wp.cF (pc1 := 146) rfl hc17 rfl ?_
            refine Wp.steps 2 (pc1 := 148) (lo1 := [some (.ref 113), some (.int x1), some (.int x2), some (.int x3), some (.int x6), some (.int x5), some (.int x6), some (.int x7), some (.int x8)]) (st1 := [.ref 113, .int 1, .int x5]) (h1 := mk g) rfl ?_
            refine Wp.gf (pc1 := 151) (v := .ref 114) rfl rfl rfl rfl rfl ?_
            refine Wp.steps 5 (pc1 := 157) (lo1 := [some (.ref 113), some (.int x1), some (.int x2), some (.int x3), some (.int x6), some (.int x5), some (.int x6), some (.int x7), some (.int x8)]) (st1 := [.int ((0 + x1) - 10), .ref 114, .int 1, .int x5]) (h1 := mk g) rfl ?_
            obtain ⟨k18, hk18, e⟩ := zb_bind e
            refine Wp.ia (pc1 := 158) rfl rfl rfl hk18 rfl ?_
            refine Wp.steps 7 (pc1 := 71) (lo1 := [some (.ref 113), some (.int x1), some (.int x2), some (.int (x3 + 1)), some (.int x6), some (.int (x5 ||| ((1 : Int32) <<< ((g 114 k18) &&& 31)))), some (.int (x6 + 1)), some (.int x7), some (.int x8)]) (st1 := []) (h1 := mk g) rfl ?_
            refine Wp.fg [some (.ref 113), some (.int x1), some (.int x2), some (.int (x3 + 1)), some (.int x6), some (.int (x5 ||| ((1 : Int32) <<< ((g 114 k18) &&& 31)))), some (.int (x6 + 1)), none, none] (zm_lle_s (zm_lle_s (zm_lle_s (zm_lle_s (zm_lle_s (zm_lle_s (zm_lle_s (zm_lle_n (zm_lle_n zm_lle_0))))))))) ?_
            exact hk71 _ _ _ _ _ _ _ e Q K
      · skip
        refine Wp.iT (pc1 := 169) rfl (zb_eqT hc13) rfl ?_
        refine Wp.steps 2 (pc1 := 71) (lo1 := [some (.ref 113), some (.int x1), some (.int x2), some (.int x3), some (.int x4), some (.int x5), some (.int (x6 + 1)), some (.int x7), some (.int x8)]) (st1 := []) (h1 := mk g) rfl ?_
        refine Wp.fg [some (.ref 113), some (.int x1), some (.int x2), some (.int x3), some (.int x4), some (.int x5), some (.int (x6 + 1)), none, none] (zm_lle_s (zm_lle_s (zm_lle_s (zm_lle_s (zm_lle_s (zm_lle_s (zm_lle_s (zm_lle_n (zm_lle_n zm_lle_0))))))))) ?_
        exact hk71 _ _ _ _ _ _ _ e Q K
    · skip
      refine Wp.cF (pc1 := 93) rfl hc11 rfl ?_
      refine Wp.steps 1 (pc1 := 94) (lo1 := [some (.ref 113), some (.int x1), some (.int x2), some (.int x3), some (.int x4), some (.int x5), some (.int x6), some (.int x7), some (.int x8)]) (st1 := [.ref 113]) (h1 := mk g) rfl ?_
      refine Wp.gf (pc1 := 97) (v := .ref 114) rfl rfl rfl rfl rfl ?_
      refine Wp.steps 6 (pc1 := 105) (lo1 := [some (.ref 113), some (.int x1), some (.int x2), some (.int x3), some (.int x4), some (.int x5), some (.int x6), some (.int x7), some (.int x8)]) (st1 := [.int (x7 - x7 / 3 * 3), .int (0 + x8), .ref 114]) (h1 := mk g) rfl ?_
      obtain ⟨k20, hk20, e⟩ := zb_bind e
      obtain ⟨g19, hg19, e⟩ := zb_let e
      refine Wp.ias (pc1 := 106) rfl rfl rfl hk20 hg19 rfl ?_
      refine Wp.steps 6 (pc1 := 84) (lo1 := [some (.ref 113), some (.int x1), some (.int x2), some (.int x3), some (.int x4), some (.int x5), some (.int x6), some (.int (x7 / 3)), some (.int (x8 + 1))]) (st1 := []) (h1 := mk g19) rfl ?_
      exact ih _ _ _ _ _ e Q K
def d_178_71 (x1 : Int32) (x2 : Int32) : Nat → Int32 → Int32 → Int32 → Int32 → G → Option (Int32 × G)
  | 0, _, _, _, _, _ => none
  | f + 1, x3, x4, x5, x6, g =>
    bif zm_cmp .ge x6 x2 then (
      d_178_178 x1 x3 x4 x5 300 0 g) else
    d_178_84 x1 x2 x3 x4 x5 x6 (d_178_71 x1 x2 f) 300 x6 0 g
set_option maxRecDepth 100000 in
set_option maxHeartbeats 4000000 in
theorem w_178_71 {sc : Option (List Int32)} {d : Nat} (x1 : Int32) (x2 : Int32) : ∀ (f : Nat) (x3 : Int32) (x4 : Int32) (x5 : Int32) (x6 : Int32) (g : G) (r : Int32) (g' : G), d_178_71 x1 x2 f x3 x4 x5 x6 g = some (r, g') → zB sc (d + 5) 178 71 [some (.ref 113), some (.int x1), some (.int x2), some (.int x3), some (.int x4), some (.int x5), some (.int x6), none, none] [] (mk g) [.int r] (mk g') := by
  intro f
  induction f with
  | zero =>
    intro x3 x4 x5 x6 g r g' e
    rw [d_178_71.eq_1] at e
    cases e
  | succ f ih =>
    intro x3 x4 x5 x6 g r g' e
    rw [d_178_71.eq_2] at e
    intro Q K
    refine Wp.steps 2 (pc1 := 74) (lo1 := [some (.ref 113), some (.int x1), some (.int x2), some (.int x3), some (.int x4), some (.int x5), some (.int x6), none, none]) (st1 := [.int x2, .int x6]) (h1 := mk g) rfl ?_
    rcases zb_if e with ⟨hc4, e⟩ | ⟨hc4, e⟩
    · skip
      refine Wp.cT (pc1 := 175) rfl hc4 rfl ?_
      refine Wp.steps 2 (pc1 := 178) (lo1 := [some (.ref 113), some (.int x1), some (.int x2), some (.int x3), some (.int x4), some (.int x5), some (.int 0), none, none]) (st1 := []) (h1 := mk g) rfl ?_
      refine Wp.fg [some (.ref 113), some (.int x1), none, some (.int x3), some (.int x4), some (.int x5), some (.int 0), none, none] (zm_lle_s (zm_lle_s (zm_lle_n (zm_lle_s (zm_lle_s (zm_lle_s (zm_lle_s (zm_lle_n (zm_lle_n zm_lle_0))))))))) ?_
      exact w_178_178 (sc := sc) (d := d) x1 x3 x4 x5 300 0 g _ _ e Q K
    · skip
      refine Wp.cF (pc1 := 77) rfl hc4 rfl ?_
      refine Wp.steps 4 (pc1 := 84) (lo1 := [some (.ref 113), some (.int x1), some (.int x2), some (.int x3), some (.int x4), some (.int x5), some (.int x6), some (.int x6), some (.int 0)]) (st1 := []) (h1 := mk g) rfl ?_
      exact w_178_84 (sc := sc) (d := d) x1 x2 x3 x4 x5 x6 (d_178_71 x1 x2 f) ih 300 x6 0 g _ _ e Q K
def d_178_27 (x1 : Int32) : Nat → Int32 → Int32 → G → Option (Int32 × G)
  | 0, _, _, _ => none
  | f + 1, x2, x3, g =>
    bif zm_cmp .ge x3 (g 113 3) then (
      d_178_71 x1 x2 300 0 (-4) 0 0 g) else
    Option.bind (zm_ix (0 + x3) 294) fun k21 =>
    Option.bind (zm_ix x3 4) fun k23 =>
    zb_l (zg_up g 118 k23 (g 114 k21)) fun g22 =>
    d_178_27 x1 f (x2 * 3) (x3 + 1) g22
set_option maxRecDepth 100000 in
set_option maxHeartbeats 4000000 in
theorem w_178_27 {sc : Option (List Int32)} {d : Nat} (x1 : Int32) : ∀ (f : Nat) (x2 : Int32) (x3 : Int32) (g : G) (r : Int32) (g' : G), d_178_27 x1 f x2 x3 g = some (r, g') → zB sc (d + 5) 178 27 [some (.ref 113), some (.int x1), some (.int x2), some (.int x3), none, none, none, none, none] [] (mk g) [.int r] (mk g') := by
  intro f
  induction f with
  | zero =>
    intro x2 x3 g r g' e
    rw [d_178_27.eq_1] at e
    cases e
  | succ f ih =>
    intro x2 x3 g r g' e
    rw [d_178_27.eq_2] at e
    intro Q K
    refine Wp.steps 2 (pc1 := 29) (lo1 := [some (.ref 113), some (.int x1), some (.int x2), some (.int x3), none, none, none, none, none]) (st1 := [.ref 113, .int x3]) (h1 := mk g) rfl ?_
    refine Wp.gf (pc1 := 32) (v := .int (g 113 3)) rfl rfl rfl rfl rfl ?_
    rcases zb_if e with ⟨hc3, e⟩ | ⟨hc3, e⟩
    · skip
      refine Wp.cT (pc1 := 59) rfl hc3 rfl ?_
      refine Wp.steps 8 (pc1 := 71) (lo1 := [some (.ref 113), some (.int x1), some (.int x2), some (.int 0), some (.int (-4)), some (.int 0), some (.int 0), none, none]) (st1 := []) (h1 := mk g) rfl ?_
      exact w_178_71 (sc := sc) (d := d) x1 x2 300 0 (-4) 0 0 g _ _ e Q K
    · skip
      refine Wp.cF (pc1 := 35) rfl hc3 rfl ?_
      refine Wp.steps 1 (pc1 := 36) (lo1 := [some (.ref 113), some (.int x1), some (.int x2), some (.int x3), none, none, none, none, none]) (st1 := [.ref 113]) (h1 := mk g) rfl ?_
      refine Wp.gf (pc1 := 39) (v := .ref 118) rfl rfl rfl rfl rfl ?_
      refine Wp.steps 2 (pc1 := 41) (lo1 := [some (.ref 113), some (.int x1), some (.int x2), some (.int x3), none, none, none, none, none]) (st1 := [.ref 113, .int x3, .ref 118]) (h1 := mk g) rfl ?_
      refine Wp.gf (pc1 := 44) (v := .ref 114) rfl rfl rfl rfl rfl ?_
      refine Wp.steps 3 (pc1 := 47) (lo1 := [some (.ref 113), some (.int x1), some (.int x2), some (.int x3), none, none, none, none, none]) (st1 := [.int (0 + x3), .ref 114, .int x3, .ref 118]) (h1 := mk g) rfl ?_
      obtain ⟨k21, hk21, e⟩ := zb_bind e
      refine Wp.ia (pc1 := 48) rfl rfl rfl hk21 rfl ?_
      obtain ⟨k23, hk23, e⟩ := zb_bind e
      obtain ⟨g22, hg22, e⟩ := zb_let e
      refine Wp.ias (pc1 := 49) rfl rfl rfl hk23 hg22 rfl ?_
      refine Wp.steps 6 (pc1 := 27) (lo1 := [some (.ref 113), some (.int x1), some (.int (x2 * 3)), some (.int (x3 + 1)), none, none, none, none, none]) (st1 := []) (h1 := mk g22) rfl ?_
      exact ih _ _ _ _ _ e Q K
/-- EveningFirstModel.ways(I)I -/
def d_178 (x1 : Int32) (g : G) : Option (Int32 × G) :=
  zb_l (d_107 (Int32.toInt64 x1) 0 1) fun v1 =>
  bif v1 then (
    d_178_27 x1 300 1 0 g) else
  zb_l (d_131 (x1 - 10) g) fun v24 =>
  bif v24 then (
    d_178_27 x1 300 1 0 g) else
  some ((-1), g)
set_option maxRecDepth 100000 in
set_option maxHeartbeats 4000000 in
theorem w_178 {sc : Option (List Int32)} {d : Nat} (x1 : Int32) (g : G) {r : Int32} {g' : G} (e : d_178 x1 g = some (r, g')) : zB sc (d + 5) 178 0 (zm_ent (z_L 178) [.ref 113, .int x1]) [] (mk g) [.int r] (mk g') := by
  unfold d_178 at e
  intro Q K
  show Wp sc (d + 5) 178 0 [some (.ref 113), some (.int x1), none, none, none, none, none, none, none] [] (mk g) Q
  refine Wp.steps 4 (pc1 := 4) (lo1 := [some (.ref 113), some (.int x1), none, none, none, none, none, none, none]) (st1 := [.long 1, .long 0, .long (Int32.toInt64 x1)]) (h1 := mk g) rfl ?_
  obtain ⟨v1, hvv1, e⟩ := zb_let e
  refine Wp.ca (m := 107) (d1 := d + 4) (as := [.long (Int32.toInt64 x1), .long 0, .long 1]) (rest := []) (st1 := [.int (zb_i v1)]) (pc1 := 7) rfl rfl rfl rfl rfl rfl rfl rfl rfl rfl rfl rfl (w_107 (sc := sc) (d := d + 4) (Int32.toInt64 x1) 0 1 g hvv1) ?_
  rcases zb_if e with ⟨hc2, e⟩ | ⟨hc2, e⟩
  · skip
    refine Wp.iT (pc1 := 23) rfl (zb_neT hc2) rfl ?_
    refine Wp.steps 4 (pc1 := 27) (lo1 := [some (.ref 113), some (.int x1), some (.int 1), some (.int 0), none, none, none, none, none]) (st1 := []) (h1 := mk g) rfl ?_
    exact w_178_27 (sc := sc) (d := d) x1 300 1 0 g _ _ e Q K
  · skip
    refine Wp.iF (pc1 := 10) rfl (zb_neF hc2) rfl ?_
    refine Wp.steps 4 (pc1 := 15) (lo1 := [some (.ref 113), some (.int x1), none, none, none, none, none, none, none]) (st1 := [.int (x1 - 10), .ref 113]) (h1 := mk g) rfl ?_
    obtain ⟨v24, hvv24, e⟩ := zb_let e
    refine Wp.ca (m := 131) (d1 := d + 4) (as := [.ref 113, .int (x1 - 10)]) (rest := []) (st1 := [.int (zb_i v24)]) (pc1 := 18) rfl rfl rfl rfl rfl rfl rfl rfl (mk_rok rfl rfl rfl rfl) rfl rfl rfl (w_131 (sc := sc) (d := d + 3) (x1 - 10) g hvv24) ?_
    rcases zb_if e with ⟨hc25, e⟩ | ⟨hc25, e⟩
    · skip
      refine Wp.iT (pc1 := 23) rfl (zb_neT hc25) rfl ?_
      refine Wp.steps 4 (pc1 := 27) (lo1 := [some (.ref 113), some (.int x1), some (.int 1), some (.int 0), none, none, none, none, none]) (st1 := []) (h1 := mk g) rfl ?_
      exact w_178_27 (sc := sc) (d := d) x1 300 1 0 g _ _ e Q K
    · skip
      refine Wp.iF (pc1 := 21) rfl (zb_neF hc25) rfl ?_
      refine Wp.steps 1 (pc1 := 22) (lo1 := [some (.ref 113), some (.int x1), none, none, none, none, none, none, none]) (st1 := [.int (-1)]) (h1 := mk g) rfl ?_
      obtain ⟨e1, e2⟩ := zb_r2 e
      subst e1
      subst e2
      exact Wp.ret rfl rfl rfl (K _)
def d_82_48 (x2 : Int32) (x3 : Int32) (g : G) : Nat → Int32 → Int32 → Int32 → Option (Int32 × G)
  | 0, _, _, _ => none
  | f + 1, x4, x5, x6 =>
    bif zm_cmp .ge x6 x2 then (
      some (x5, g)) else
    bif x3 == 0 then none else
    zb_l (d_90 (g 25 2) ((((Int32.toUInt32 ((x4 * 1103515245) + 12345) >>> (Int32.toUInt32 16 &&& Int32.toUInt32 31)).toInt32) &&& 32767) - (((Int32.toUInt32 ((x4 * 1103515245) + 12345) >>> (Int32.toUInt32 16 &&& Int32.toUInt32 31)).toInt32) &&& 32767) / x3 * x3)) fun v7 =>
    bif v7 then (
      d_82_48 x2 x3 g f ((x4 * 1103515245) + 12345) x5 (x6 + 1)) else
    Option.bind (d_4 ((((Int32.toUInt32 ((x4 * 1103515245) + 12345) >>> (Int32.toUInt32 16 &&& Int32.toUInt32 31)).toInt32) &&& 32767) - (((Int32.toUInt32 ((x4 * 1103515245) + 12345) >>> (Int32.toUInt32 16 &&& Int32.toUInt32 31)).toInt32) &&& 32767) / x3 * x3) x5 g) fun v9 =>
    bif zm_cmp .ne v9 0 then (
      d_82_48 x2 x3 g f ((x4 * 1103515245) + 12345) x5 (x6 + 1)) else
    d_82_48 x2 x3 g f ((x4 * 1103515245) + 12345) (x5 ||| ((1 : Int32) <<< (((((Int32.toUInt32 ((x4 * 1103515245) + 12345) >>> (Int32.toUInt32 16 &&& Int32.toUInt32 31)).toInt32) &&& 32767) - (((Int32.toUInt32 ((x4 * 1103515245) + 12345) >>> (Int32.toUInt32 16 &&& Int32.toUInt32 31)).toInt32) &&& 32767) / x3 * x3) &&& 31))) (x6 + 1)
set_option maxRecDepth 100000 in
set_option maxHeartbeats 4000000 in
theorem w_82_48 {sc : Option (List Int32)} {d : Nat} (x2 : Int32) (x3 : Int32) (g : G) : ∀ (f : Nat) (x4 : Int32) (x5 : Int32) (x6 : Int32) (r : Int32) (g' : G), d_82_48 x2 x3 g f x4 x5 x6 = some (r, g') → zB sc (d + 4) 82 48 [some (.ref 0), none, some (.int x2), some (.int x3), some (.int x4), some (.int x5), some (.int x6), none] [] (mk g) [.int r] (mk g') := by
  intro f
  induction f with
  | zero =>
    intro x4 x5 x6 r g' e
    rw [d_82_48.eq_1] at e
    cases e
  | succ f ih =>
    intro x4 x5 x6 r g' e
    rw [d_82_48.eq_2] at e
    intro Q K
    refine Wp.steps 2 (pc1 := 51) (lo1 := [some (.ref 0), none, some (.int x2), some (.int x3), some (.int x4), some (.int x5), some (.int x6), none]) (st1 := [.int x2, .int x6]) (h1 := mk g) rfl ?_
    rcases zb_if e with ⟨hc5, e⟩ | ⟨hc5, e⟩
    · skip
      refine Wp.cT (pc1 := 122) rfl hc5 rfl ?_
      refine Wp.steps 1 (pc1 := 124) (lo1 := [some (.ref 0), none, some (.int x2), some (.int x3), some (.int x4), some (.int x5), some (.int x6), none]) (st1 := [.int x5]) (h1 := mk g) rfl ?_
      obtain ⟨e1, e2⟩ := zb_r2 e
      subst e1
      subst e2
      exact Wp.ret rfl rfl rfl (K _)
    · skip
      refine Wp.cF (pc1 := 54) rfl hc5 rfl ?_
      refine Wp.steps 8 (pc1 := 69) (lo1 := [some (.ref 0), none, some (.int x2), some (.int x3), some (.int ((x4 * 1103515245) + 12345)), some (.int x5), some (.int x6), none]) (st1 := [.int 16, .int ((x4 * 1103515245) + 12345)]) (h1 := mk g) rfl ?_
      refine Wp.steps 4 (pc1 := 75) (lo1 := [some (.ref 0), none, some (.int x2), some (.int x3), some (.int ((x4 * 1103515245) + 12345)), some (.int x5), some (.int x6), none]) (st1 := [.int x3, .int (((Int32.toUInt32 ((x4 * 1103515245) + 12345) >>> (Int32.toUInt32 16 &&& Int32.toUInt32 31)).toInt32) &&& 32767)]) (h1 := mk g) rfl ?_
      rcases zb_if e with ⟨hc6, e⟩ | ⟨hc6, e⟩
      · cases e
      · skip
        refine Wp.irem (pc1 := 76) rfl hc6 rfl ?_
        refine Wp.steps 2 (pc1 := 79) (lo1 := [some (.ref 0), none, some (.int x2), some (.int x3), some (.int ((x4 * 1103515245) + 12345)), some (.int x5), some (.int x6), some (.int ((((Int32.toUInt32 ((x4 * 1103515245) + 12345) >>> (Int32.toUInt32 16 &&& Int32.toUInt32 31)).toInt32) &&& 32767) - (((Int32.toUInt32 ((x4 * 1103515245) + 12345) >>> (Int32.toUInt32 16 &&& Int32.toUInt32 31)).toInt32) &&& 32767) / x3 * x3))]) (st1 := [.ref 0]) (h1 := mk g) rfl ?_
        refine Wp.gf (pc1 := 82) (v := .ref 25) rfl rfl rfl rfl rfl ?_
        refine Wp.gf (pc1 := 85) (v := .int (g 25 2)) rfl rfl rfl rfl rfl ?_
        refine Wp.steps 1 (pc1 := 87) (lo1 := [some (.ref 0), none, some (.int x2), some (.int x3), some (.int ((x4 * 1103515245) + 12345)), some (.int x5), some (.int x6), some (.int ((((Int32.toUInt32 ((x4 * 1103515245) + 12345) >>> (Int32.toUInt32 16 &&& Int32.toUInt32 31)).toInt32) &&& 32767) - (((Int32.toUInt32 ((x4 * 1103515245) + 12345) >>> (Int32.toUInt32 16 &&& Int32.toUInt32 31)).toInt32) &&& 32767) / x3 * x3))]) (st1 := [.int ((((Int32.toUInt32 ((x4 * 1103515245) + 12345) >>> (Int32.toUInt32 16 &&& Int32.toUInt32 31)).toInt32) &&& 32767) - (((Int32.toUInt32 ((x4 * 1103515245) + 12345) >>> (Int32.toUInt32 16 &&& Int32.toUInt32 31)).toInt32) &&& 32767) / x3 * x3), .int (g 25 2)]) (h1 := mk g) rfl ?_
        obtain ⟨v7, hvv7, e⟩ := zb_let e
        refine Wp.ca (m := 90) (d1 := d + 3) (as := [.int (g 25 2), .int ((((Int32.toUInt32 ((x4 * 1103515245) + 12345) >>> (Int32.toUInt32 16 &&& Int32.toUInt32 31)).toInt32) &&& 32767) - (((Int32.toUInt32 ((x4 * 1103515245) + 12345) >>> (Int32.toUInt32 16 &&& Int32.toUInt32 31)).toInt32) &&& 32767) / x3 * x3)]) (rest := []) (st1 := [.int (zb_i v7)]) (pc1 := 90) rfl rfl rfl rfl rfl rfl rfl rfl rfl rfl rfl rfl (w_90 (sc := sc) (d := d + 3) (g 25 2) ((((Int32.toUInt32 ((x4 * 1103515245) + 12345) >>> (Int32.toUInt32 16 &&& Int32.toUInt32 31)).toInt32) &&& 32767) - (((Int32.toUInt32 ((x4 * 1103515245) + 12345) >>> (Int32.toUInt32 16 &&& Int32.toUInt32 31)).toInt32) &&& 32767) / x3 * x3) g hvv7) ?_
        rcases zb_if e with ⟨hc8, e⟩ | ⟨hc8, e⟩
        · skip
          refine Wp.iT (pc1 := 116) rfl (zb_neT hc8) rfl ?_
          refine Wp.steps 2 (pc1 := 48) (lo1 := [some (.ref 0), none, some (.int x2), some (.int x3), some (.int ((x4 * 1103515245) + 12345)), some (.int x5), some (.int (x6 + 1)), some (.int ((((Int32.toUInt32 ((x4 * 1103515245) + 12345) >>> (Int32.toUInt32 16 &&& Int32.toUInt32 31)).toInt32) &&& 32767) - (((Int32.toUInt32 ((x4 * 1103515245) + 12345) >>> (Int32.toUInt32 16 &&& Int32.toUInt32 31)).toInt32) &&& 32767) / x3 * x3))]) (st1 := []) (h1 := mk g) rfl ?_
          refine Wp.fg [some (.ref 0), none, some (.int x2), some (.int x3), some (.int ((x4 * 1103515245) + 12345)), some (.int x5), some (.int (x6 + 1)), none] (zm_lle_s (zm_lle_n (zm_lle_s (zm_lle_s (zm_lle_s (zm_lle_s (zm_lle_s (zm_lle_n zm_lle_0)))))))) ?_
          exact ih _ _ _ _ _ e Q K
        · skip
          refine Wp.iF (pc1 := 93) rfl (zb_neF hc8) rfl ?_
          refine Wp.steps 1 (pc1 := 94) (lo1 := [some (.ref 0), none, some (.int x2), some (.int x3), some (.int ((x4 * 1103515245) + 12345)), some (.int x5), some (.int x6), some (.int ((((Int32.toUInt32 ((x4 * 1103515245) + 12345) >>> (Int32.toUInt32 16 &&& Int32.toUInt32 31)).toInt32) &&& 32767) - (((Int32.toUInt32 ((x4 * 1103515245) + 12345) >>> (Int32.toUInt32 16 &&& Int32.toUInt32 31)).toInt32) &&& 32767) / x3 * x3))]) (st1 := [.ref 0]) (h1 := mk g) rfl ?_
          refine Wp.gf (pc1 := 97) (v := .ref 25) rfl rfl rfl rfl rfl ?_
          refine Wp.steps 2 (pc1 := 101) (lo1 := [some (.ref 0), none, some (.int x2), some (.int x3), some (.int ((x4 * 1103515245) + 12345)), some (.int x5), some (.int x6), some (.int ((((Int32.toUInt32 ((x4 * 1103515245) + 12345) >>> (Int32.toUInt32 16 &&& Int32.toUInt32 31)).toInt32) &&& 32767) - (((Int32.toUInt32 ((x4 * 1103515245) + 12345) >>> (Int32.toUInt32 16 &&& Int32.toUInt32 31)).toInt32) &&& 32767) / x3 * x3))]) (st1 := [.int x5, .int ((((Int32.toUInt32 ((x4 * 1103515245) + 12345) >>> (Int32.toUInt32 16 &&& Int32.toUInt32 31)).toInt32) &&& 32767) - (((Int32.toUInt32 ((x4 * 1103515245) + 12345) >>> (Int32.toUInt32 16 &&& Int32.toUInt32 31)).toInt32) &&& 32767) / x3 * x3), .ref 25]) (h1 := mk g) rfl ?_
          obtain ⟨v9, hvv9, e⟩ := zb_bind e
          refine Wp.ca (m := 4) (d1 := d + 3) (as := [.ref 25, .int ((((Int32.toUInt32 ((x4 * 1103515245) + 12345) >>> (Int32.toUInt32 16 &&& Int32.toUInt32 31)).toInt32) &&& 32767) - (((Int32.toUInt32 ((x4 * 1103515245) + 12345) >>> (Int32.toUInt32 16 &&& Int32.toUInt32 31)).toInt32) &&& 32767) / x3 * x3), .int x5]) (rest := []) (st1 := [.int v9]) (pc1 := 104) rfl rfl rfl rfl rfl rfl rfl rfl (mk_rok rfl rfl rfl rfl) rfl rfl rfl (w_4 (sc := sc) (d := d + 3) ((((Int32.toUInt32 ((x4 * 1103515245) + 12345) >>> (Int32.toUInt32 16 &&& Int32.toUInt32 31)).toInt32) &&& 32767) - (((Int32.toUInt32 ((x4 * 1103515245) + 12345) >>> (Int32.toUInt32 16 &&& Int32.toUInt32 31)).toInt32) &&& 32767) / x3 * x3) x5 g hvv9) ?_
          rcases zb_if e with ⟨hc10, e⟩ | ⟨hc10, e⟩
          · skip
            refine Wp.iT (pc1 := 116) rfl hc10 rfl ?_
            refine Wp.steps 2 (pc1 := 48) (lo1 := [some (.ref 0), none, some (.int x2), some (.int x3), some (.int ((x4 * 1103515245) + 12345)), some (.int x5), some (.int (x6 + 1)), some (.int ((((Int32.toUInt32 ((x4 * 1103515245) + 12345) >>> (Int32.toUInt32 16 &&& Int32.toUInt32 31)).toInt32) &&& 32767) - (((Int32.toUInt32 ((x4 * 1103515245) + 12345) >>> (Int32.toUInt32 16 &&& Int32.toUInt32 31)).toInt32) &&& 32767) / x3 * x3))]) (st1 := []) (h1 := mk g) rfl ?_
            refine Wp.fg [some (.ref 0), none, some (.int x2), some (.int x3), some (.int ((x4 * 1103515245) + 12345)), some (.int x5), some (.int (x6 + 1)), none] (zm_lle_s (zm_lle_n (zm_lle_s (zm_lle_s (zm_lle_s (zm_lle_s (zm_lle_s (zm_lle_n zm_lle_0)))))))) ?_
            exact ih _ _ _ _ _ e Q K
          · skip
            refine Wp.iF (pc1 := 107) rfl hc10 rfl ?_
            refine Wp.steps 8 (pc1 := 48) (lo1 := [some (.ref 0), none, some (.int x2), some (.int x3), some (.int ((x4 * 1103515245) + 12345)), some (.int (x5 ||| ((1 : Int32) <<< (((((Int32.toUInt32 ((x4 * 1103515245) + 12345) >>> (Int32.toUInt32 16 &&& Int32.toUInt32 31)).toInt32) &&& 32767) - (((Int32.toUInt32 ((x4 * 1103515245) + 12345) >>> (Int32.toUInt32 16 &&& Int32.toUInt32 31)).toInt32) &&& 32767) / x3 * x3) &&& 31)))), some (.int (x6 + 1)), some (.int ((((Int32.toUInt32 ((x4 * 1103515245) + 12345) >>> (Int32.toUInt32 16 &&& Int32.toUInt32 31)).toInt32) &&& 32767) - (((Int32.toUInt32 ((x4 * 1103515245) + 12345) >>> (Int32.toUInt32 16 &&& Int32.toUInt32 31)).toInt32) &&& 32767) / x3 * x3))]) (st1 := []) (h1 := mk g) rfl ?_
            refine Wp.fg [some (.ref 0), none, some (.int x2), some (.int x3), some (.int ((x4 * 1103515245) + 12345)), some (.int (x5 ||| ((1 : Int32) <<< (((((Int32.toUInt32 ((x4 * 1103515245) + 12345) >>> (Int32.toUInt32 16 &&& Int32.toUInt32 31)).toInt32) &&& 32767) - (((Int32.toUInt32 ((x4 * 1103515245) + 12345) >>> (Int32.toUInt32 16 &&& Int32.toUInt32 31)).toInt32) &&& 32767) / x3 * x3) &&& 31)))), some (.int (x6 + 1)), none] (zm_lle_s (zm_lle_n (zm_lle_s (zm_lle_s (zm_lle_s (zm_lle_s (zm_lle_s (zm_lle_n zm_lle_0)))))))) ?_
            exact ih _ _ _ _ _ e Q K
/-- EveningFirst.walk(II)I -/
def d_82 (x1 : Int32) (x2 : Int32) (g : G) : Option (Int32 × G) :=
  bif zm_cmp .lt x2 1 then (
    some ((-1), g)) else
  bif zm_cmp .le x2 60 then (
    bif zm_cmp .ne (g 1 2) 0 then (
      Option.bind (d_2 1 g) fun g4 =>
      d_82_48 x2 (g 1 2) g4 300 x1 0 0) else
    some ((-2), g)) else
  some ((-1), g)
set_option maxRecDepth 100000 in
set_option maxHeartbeats 4000000 in
theorem w_82 {sc : Option (List Int32)} {d : Nat} (x1 : Int32) (x2 : Int32) (g : G) {r : Int32} {g' : G} (e : d_82 x1 x2 g = some (r, g')) : zB sc (d + 4) 82 0 (zm_ent (z_L 82) [.ref 0, .int x1, .int x2]) [] (mk g) [.int r] (mk g') := by
  unfold d_82 at e
  intro Q K
  show Wp sc (d + 4) 82 0 [some (.ref 0), some (.int x1), some (.int x2), none, none, none, none, none] [] (mk g) Q
  refine Wp.steps 2 (pc1 := 2) (lo1 := [some (.ref 0), some (.int x1), some (.int x2), none, none, none, none, none]) (st1 := [.int 1, .int x2]) (h1 := mk g) rfl ?_
  rcases zb_if e with ⟨hc1, e⟩ | ⟨hc1, e⟩
  · skip
    refine Wp.cT (pc1 := 11) rfl hc1 rfl ?_
    refine Wp.steps 1 (pc1 := 12) (lo1 := [some (.ref 0), some (.int x1), some (.int x2), none, none, none, none, none]) (st1 := [.int (-1)]) (h1 := mk g) rfl ?_
    obtain ⟨e1, e2⟩ := zb_r2 e
    subst e1
    subst e2
    exact Wp.ret rfl rfl rfl (K _)
  · skip
    refine Wp.cF (pc1 := 5) rfl hc1 rfl ?_
    refine Wp.steps 2 (pc1 := 8) (lo1 := [some (.ref 0), some (.int x1), some (.int x2), none, none, none, none, none]) (st1 := [.int 60, .int x2]) (h1 := mk g) rfl ?_
    rcases zb_if e with ⟨hc2, e⟩ | ⟨hc2, e⟩
    · skip
      refine Wp.cT (pc1 := 13) rfl hc2 rfl ?_
      refine Wp.steps 1 (pc1 := 14) (lo1 := [some (.ref 0), some (.int x1), some (.int x2), none, none, none, none, none]) (st1 := [.ref 0]) (h1 := mk g) rfl ?_
      refine Wp.gf (pc1 := 17) (v := .ref 1) rfl rfl rfl rfl rfl ?_
      refine Wp.gf (pc1 := 20) (v := .int (g 1 2)) rfl rfl rfl rfl rfl ?_
      refine Wp.steps 2 (pc1 := 22) (lo1 := [some (.ref 0), some (.int x1), some (.int x2), some (.int (g 1 2)), none, none, none, none]) (st1 := [.int (g 1 2)]) (h1 := mk g) rfl ?_
      rcases zb_if e with ⟨hc3, e⟩ | ⟨hc3, e⟩
      · skip
        refine Wp.iT (pc1 := 28) rfl hc3 rfl ?_
        refine Wp.steps 1 (pc1 := 29) (lo1 := [some (.ref 0), some (.int x1), some (.int x2), some (.int (g 1 2)), none, none, none, none]) (st1 := [.ref 0]) (h1 := mk g) rfl ?_
        refine Wp.gf (pc1 := 32) (v := .ref 25) rfl rfl rfl rfl rfl ?_
        refine Wp.steps 1 (pc1 := 33) (lo1 := [some (.ref 0), some (.int x1), some (.int x2), some (.int (g 1 2)), none, none, none, none]) (st1 := [.ref 0, .ref 25]) (h1 := mk g) rfl ?_
        refine Wp.gf (pc1 := 36) (v := .ref 1) rfl rfl rfl rfl rfl ?_
        obtain ⟨g4, hvg4, e⟩ := zb_bind e
        refine Wp.ca (m := 2) (d1 := d + 3) (as := [.ref 25, .ref 1]) (rest := []) (st1 := []) (pc1 := 39) rfl rfl rfl rfl rfl rfl rfl rfl (mk_rok rfl rfl rfl rfl) rfl rfl rfl (w_2 (sc := sc) (d := d) 1 rfl g hvg4) ?_
        refine Wp.steps 6 (pc1 := 48) (lo1 := [some (.ref 0), some (.int x1), some (.int x2), some (.int (g 1 2)), some (.int x1), some (.int 0), some (.int 0), none]) (st1 := []) (h1 := mk g4) rfl ?_
        refine Wp.fg [some (.ref 0), none, some (.int x2), some (.int (g 1 2)), some (.int x1), some (.int 0), some (.int 0), none] (zm_lle_s (zm_lle_n (zm_lle_s (zm_lle_s (zm_lle_s (zm_lle_s (zm_lle_s (zm_lle_n zm_lle_0)))))))) ?_
        exact w_82_48 (sc := sc) (d := d) x2 (g 1 2) g4 300 x1 0 0 _ _ e Q K
      · skip
        refine Wp.iF (pc1 := 25) rfl hc3 rfl ?_
        refine Wp.steps 1 (pc1 := 27) (lo1 := [some (.ref 0), some (.int x1), some (.int x2), some (.int (g 1 2)), none, none, none, none]) (st1 := [.int (-2)]) (h1 := mk g) rfl ?_
        obtain ⟨e1, e2⟩ := zb_r2 e
        subst e1
        subst e2
        exact Wp.ret rfl rfl rfl (K _)
    · skip
      refine Wp.cF (pc1 := 11) rfl hc2 rfl ?_
      refine Wp.steps 1 (pc1 := 12) (lo1 := [some (.ref 0), some (.int x1), some (.int x2), none, none, none, none, none]) (st1 := [.int (-1)]) (h1 := mk g) rfl ?_
      obtain ⟨e1, e2⟩ := zb_r2 e
      subst e1
      subst e2
      exact Wp.ret rfl rfl rfl (K _)
