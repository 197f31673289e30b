/-! printed by wip/tools/den.py -/
def d_186_208 (x7 : Int32) : Nat → Int32 → G → Option (Int32 × G)
  | 0, _, _ => none
  | f + 1, x9, g =>
    bif zm_cmp .ge x9 8 then (
      some (((-20) - x7), g)) else
    Option.bind (zm_ix x9 8) fun k18 =>
    Option.bind (zm_ix ((9 + (7 * x9)) + 5) 294) fun k20 =>
    zb_l (zg_up g 114 k20 (g 122 k18)) fun g19 =>
    d_186_208 x7 f (x9 + 1) g19
set_option maxRecDepth 100000 in
set_option maxHeartbeats 4000000 in
theorem w_186_208 {sc : Option (List Int32)} {d : Nat} (x7 : Int32) : ∀ (f : Nat) (x9 : Int32) (g : G) (r : Int32) (g' : G), d_186_208 x7 f x9 g = some (r, g') → zB sc (d + 3) 186 208 [some (.ref 113), none, none, none, none, none, none, some (.int x7), none, some (.int x9), none] [] (mk g) [.int r] (mk g') := by
  intro f
  induction f with
  | zero =>
    intro x9 g r g' e
    rw [d_186_208.eq_1] at e
    cases e
  | succ f ih =>
    intro x9 g r g' e
    rw [d_186_208.eq_2] at e
    intro Q K
    refine Wp.steps 2 (pc1 := 212) (lo1 := [some (.ref 113), none, none, none, none, none, none, some (.int x7), none, some (.int x9), none]) (st1 := [.int 8, .int x9]) (h1 := mk g) rfl ?_
    rcases zb_if e with ⟨hc17, e⟩ | ⟨hc17, e⟩
    · skip
      refine Wp.cT (pc1 := 243) rfl hc17 rfl ?_
      refine Wp.steps 3 (pc1 := 248) (lo1 := [some (.ref 113), none, none, none, none, none, none, some (.int x7), none, some (.int x9), none]) (st1 := [.int ((-20) - x7)]) (h1 := mk g) rfl ?_
      obtain ⟨e1, e2⟩ := zb_r2 e
      subst e1
      subst e2
      exact Wp.ret rfl rfl rfl (K _)
    · skip
      refine Wp.cF (pc1 := 215) rfl hc17 rfl ?_
      refine Wp.steps 1 (pc1 := 216) (lo1 := [some (.ref 113), none, none, none, none, none, none, some (.int x7), none, some (.int x9), none]) (st1 := [.ref 113]) (h1 := mk g) rfl ?_
      refine Wp.gf (pc1 := 219) (v := .ref 114) rfl rfl rfl rfl rfl ?_
      refine Wp.steps 8 (pc1 := 230) (lo1 := [some (.ref 113), none, none, none, none, none, none, some (.int x7), none, some (.int x9), none]) (st1 := [.ref 113, .int ((9 + (7 * x9)) + 5), .ref 114]) (h1 := mk g) rfl ?_
      refine Wp.gf (pc1 := 233) (v := .ref 122) rfl rfl rfl rfl rfl ?_
      refine Wp.steps 1 (pc1 := 235) (lo1 := [some (.ref 113), none, none, none, none, none, none, some (.int x7), none, some (.int x9), none]) (st1 := [.int x9, .ref 122, .int ((9 + (7 * x9)) + 5), .ref 114]) (h1 := mk g) rfl ?_
      obtain ⟨k18, hk18, e⟩ := zb_bind e
      refine Wp.ia (pc1 := 236) rfl rfl rfl hk18 rfl ?_
      obtain ⟨k20, hk20, e⟩ := zb_bind e
      obtain ⟨g19, hg19, e⟩ := zb_let e
      refine Wp.ias (pc1 := 237) rfl rfl rfl hk20 hg19 rfl ?_
      refine Wp.steps 2 (pc1 := 208) (lo1 := [some (.ref 113), none, none, none, none, none, none, some (.int x7), none, some (.int (x9 + 1)), none]) (st1 := []) (h1 := mk g19) rfl ?_
      exact ih _ _ _ _ e Q K
def d_186_77 (x1 : Int32) (x2 : Int32) (x3 : Int32) (x4 : Int32) (x6 : Int32) (x7 : Int32) (g : G) (k62 : Int32 → Int32 → Int32 → G → Option (Int32 × G)) : Nat → Int32 → Int32 → Option (Int32 × G)
  | 0, _, _ => none
  | f + 1, x5, x8 =>
    bif zm_cmp .ge x8 2 then (
      bif zm_cmp .ne x5 0 then (
        k62 x5 x6 (x7 + 1) g) else
      Option.bind (zm_ix (((40 * x1) + x3) + (2 * x7)) 160) fun k12 =>
      Option.bind (zm_ix ((((40 * x1) + x3) + (2 * x7)) + 1) 160) fun k13 =>
      zb_bp (d_148 (g 121 k12) (g 121 k13) g) fun v14 g15 =>
      bif zm_cmp .ge v14 0 then (
        k62 x5 (x6 + 1) (x7 + 1) g15) else
      d_186_208 x7 300 0 g15) else
    bif zm_cmp .ne x5 0 then (
      bif zm_cmp .ne x5 0 then (
        k62 x5 x6 (x7 + 1) g) else
      Option.bind (zm_ix (((40 * x1) + x3) + (2 * x7)) 160) fun k23 =>
      Option.bind (zm_ix ((((40 * x1) + x3) + (2 * x7)) + 1) 160) fun k24 =>
      zb_bp (d_148 (g 121 k23) (g 121 k24) g) fun v25 g26 =>
      bif zm_cmp .ge v25 0 then (
        k62 x5 (x6 + 1) (x7 + 1) g26) else
      d_186_208 x7 300 0 g26) else
    Option.bind (zm_ix x1 4) fun k28 =>
    bif zm_cmp .ne (g 119 k28) (-4) then (
      Option.bind (zm_ix x1 4) fun k30 =>
      bif zm_cmp .eq (g 119 k30) x2 then (
        bif zm_cmp .lt (lg_cmp (((Int32.toInt64 x3) + (Int32.toInt64 (2 * x7))) + (Int32.toInt64 x8)) 0) 0 then (
          d_186_77 x1 x2 x3 x4 x6 x7 g k62 f 2 (x8 + 1)) else
        Option.bind (zm_ix x1 4) fun k33 =>
        bif zm_cmp .lt (lg_cmp (((Int32.toInt64 x3) + (Int32.toInt64 (2 * x7))) + (Int32.toInt64 x8)) (Int32.toInt64 (g 120 k33))) 0 then (
          d_186_77 x1 x2 x3 x4 x6 x7 g k62 f 0 (x8 + 1)) else
        d_186_77 x1 x2 x3 x4 x6 x7 g k62 f 2 (x8 + 1)) else
      d_186_77 x1 x2 x3 x4 x6 x7 g k62 f 3 (x8 + 1)) else
    d_186_77 x1 x2 x3 x4 x6 x7 g k62 f 1 (x8 + 1)
set_option maxRecDepth 100000 in
set_option maxHeartbeats 4000000 in
theorem w_186_77 {sc : Option (List Int32)} {d : Nat} (x1 : Int32) (x2 : Int32) (x3 : Int32) (x4 : Int32) (x6 : Int32) (x7 : Int32) (g : G) (k62 : Int32 → Int32 → Int32 → G → Option (Int32 × G)) (hk62 : ∀ (x5 : Int32) (x6 : Int32) (x7 : Int32) (g : G) (r : Int32) (g' : G), k62 x5 x6 x7 g = some (r, g') → zB sc (d + 3) 186 62 [some (.ref 113), some (.int x1), some (.int x2), some (.int x3), some (.int x4), some (.int x5), some (.int x6), some (.int x7), none, none, none] [] (mk g) [.int r] (mk g')) : ∀ (f : Nat) (x5 : Int32) (x8 : Int32) (r : Int32) (g' : G), d_186_77 x1 x2 x3 x4 x6 x7 g k62 f x5 x8 = some (r, g') → zB sc (d + 3) 186 77 [some (.ref 113), some (.int x1), some (.int x2), some (.int x3), some (.int x4), some (.int x5), some (.int x6), some (.int x7), some (.int x8), none, none] [] (mk g) [.int r] (mk g') := by
  intro f
  induction f with
  | zero =>
    intro x5 x8 r g' e
    rw [d_186_77.eq_1] at e
    cases e
  | succ f ih =>
    intro x5 x8 r g' e
    rw [d_186_77.eq_2] at e
    intro Q K
    refine Wp.steps 2 (pc1 := 80) (lo1 := [some (.ref 113), some (.int x1), some (.int x2), some (.int x3), some (.int x4), some (.int x5), some (.int x6), some (.int x7), some (.int x8), none, none]) (st1 := [.int 2, .int x8]) (h1 := mk g) rfl ?_
    rcases zb_if e with ⟨hc10, e⟩ | ⟨hc10, e⟩
    · skip
      refine Wp.cT (pc1 := 164) rfl hc10 rfl ?_
      refine Wp.steps 1 (pc1 := 166) (lo1 := [some (.ref 113), some (.int x1), some (.int x2), some (.int x3), some (.int x4), some (.int x5), some (.int x6), some (.int x7), some (.int x8), none, none]) (st1 := [.int x5]) (h1 := mk g) rfl ?_
      rcases zb_if e with ⟨hc11, e⟩ | ⟨hc11, e⟩
      · skip
        refine Wp.iT (pc1 := 252) rfl hc11 rfl ?_
        refine Wp.steps 2 (pc1 := 62) (lo1 := [some (.ref 113), some (.int x1), some (.int x2), some (.int x3), some (.int x4), some (.int x5), some (.int x6), some (.int (x7 + 1)), some (.int x8), none, none]) (st1 := []) (h1 := mk g) rfl ?_
        refine Wp.fg [some (.ref 113), some (.int x1), some (.int x2), some (.int x3), some (.int x4), some (.int x5), some (.int x6), some (.int (x7 + 1)), none, none, none] (zm_lle_s (zm_lle_s (zm_lle_s (zm_lle_s (zm_lle_s (zm_lle_s (zm_lle_s (zm_lle_s (zm_lle_n (zm_lle_n (zm_lle_n zm_lle_0))))))))))) ?_
        exact hk62 _ _ _ _ _ _ e Q K
      · skip
        refine Wp.iF (pc1 := 169) rfl hc11 rfl ?_
        refine Wp.steps 8 (pc1 := 179) (lo1 := [some (.ref 113), some (.int x1), some (.int x2), some (.int x3), some (.int x4), some (.int x5), some (.int x6), some (.int x7), some (.int x8), none, none]) (st1 := [.int (2 * x7), .int ((40 * x1) + x3)]) (h1 := mk g) rfl ?_
        refine Wp.steps 4 (pc1 := 184) (lo1 := [some (.ref 113), some (.int x1), some (.int x2), some (.int x3), some (.int x4), some (.int x5), some (.int x6), some (.int x7), some (.int (((40 * x1) + x3) + (2 * x7))), none, none]) (st1 := [.ref 113, .ref 113]) (h1 := mk g) rfl ?_
        refine Wp.gf (pc1 := 187) (v := .ref 121) rfl rfl rfl rfl rfl ?_
        refine Wp.steps 1 (pc1 := 189) (lo1 := [some (.ref 113), some (.int x1), some (.int x2), some (.int x3), some (.int x4), some (.int x5), some (.int x6), some (.int x7), some (.int (((40 * x1) + x3) + (2 * x7))), none, none]) (st1 := [.int (((40 * x1) + x3) + (2 * x7)), .ref 121, .ref 113]) (h1 := mk g) rfl ?_
        obtain ⟨k12, hk12, e⟩ := zb_bind e
        refine Wp.ia (pc1 := 190) rfl rfl rfl hk12 rfl ?_
        refine Wp.steps 1 (pc1 := 191) (lo1 := [some (.ref 113), some (.int x1), some (.int x2), some (.int x3), some (.int x4), some (.int x5), some (.int x6), some (.int x7), some (.int (((40 * x1) + x3) + (2 * x7))), none, none]) (st1 := [.ref 113, .int (g 121 k12), .ref 113]) (h1 := mk g) rfl ?_
        refine Wp.gf (pc1 := 194) (v := .ref 121) rfl rfl rfl rfl rfl ?_
        refine Wp.steps 3 (pc1 := 198) (lo1 := [some (.ref 113), some (.int x1), some (.int x2), some (.int x3), some (.int x4), some (.int x5), some (.int x6), some (.int x7), some (.int (((40 * x1) + x3) + (2 * x7))), none, none]) (st1 := [.int ((((40 * x1) + x3) + (2 * x7)) + 1), .ref 121, .int (g 121 k12), .ref 113]) (h1 := mk g) rfl ?_
        obtain ⟨k13, hk13, e⟩ := zb_bind e
        refine Wp.ia (pc1 := 199) rfl rfl rfl hk13 rfl ?_
        obtain ⟨v14, g15, hvv14, e⟩ := zb_bpair e
        refine Wp.ca (m := 148) (d1 := d + 2) (as := [.ref 113, .int (g 121 k12), .int (g 121 k13)]) (rest := []) (st1 := [.int v14]) (pc1 := 202) rfl rfl rfl rfl rfl rfl rfl rfl (mk_rok rfl rfl rfl rfl) rfl rfl rfl (w_148 (sc := sc) (d := d) (g 121 k12) (g 121 k13) g hvv14) ?_
        rcases zb_if e with ⟨hc16, e⟩ | ⟨hc16, e⟩
        · skip
          refine Wp.iT (pc1 := 249) rfl hc16 rfl ?_
          refine Wp.steps 3 (pc1 := 62) (lo1 := [some (.ref 113), some (.int x1), some (.int x2), some (.int x3), some (.int x4), some (.int x5), some (.int (x6 + 1)), some (.int (x7 + 1)), some (.int (((40 * x1) + x3) + (2 * x7))), none, none]) (st1 := []) (h1 := mk g15) rfl ?_
          refine Wp.fg [some (.ref 113), some (.int x1), some (.int x2), some (.int x3), some (.int x4), some (.int x5), some (.int (x6 + 1)), some (.int (x7 + 1)), none, none, none] (zm_lle_s (zm_lle_s (zm_lle_s (zm_lle_s (zm_lle_s (zm_lle_s (zm_lle_s (zm_lle_s (zm_lle_n (zm_lle_n (zm_lle_n zm_lle_0))))))))))) ?_
          exact hk62 _ _ _ _ _ _ e Q K
        · skip
          refine Wp.iF (pc1 := 205) rfl hc16 rfl ?_
          refine Wp.steps 2 (pc1 := 208) (lo1 := [some (.ref 113), some (.int x1), some (.int x2), some (.int x3), some (.int x4), some (.int x5), some (.int x6), some (.int x7), some (.int (((40 * x1) + x3) + (2 * x7))), some (.int 0), none]) (st1 := []) (h1 := mk g15) rfl ?_
          refine Wp.fg [some (.ref 113), none, none, none, none, none, none, some (.int x7), none, some (.int 0), none] (zm_lle_s (zm_lle_n (zm_lle_n (zm_lle_n (zm_lle_n (zm_lle_n (zm_lle_n (zm_lle_s (zm_lle_n (zm_lle_s (zm_lle_n zm_lle_0))))))))))) ?_
          exact w_186_208 (sc := sc) (d := d) x7 300 0 g15 _ _ e Q K
    · skip
      refine Wp.cF (pc1 := 83) rfl hc10 rfl ?_
      refine Wp.steps 1 (pc1 := 85) (lo1 := [some (.ref 113), some (.int x1), some (.int x2), some (.int x3), some (.int x4), some (.int x5), some (.int x6), some (.int x7), some (.int x8), none, none]) (st1 := [.int x5]) (h1 := mk g) rfl ?_
      rcases zb_if e with ⟨hc21, e⟩ | ⟨hc21, e⟩
      · skip
        refine Wp.iT (pc1 := 164) rfl hc21 rfl ?_
        refine Wp.steps 1 (pc1 := 166) (lo1 := [some (.ref 113), some (.int x1), some (.int x2), some (.int x3), some (.int x4), some (.int x5), some (.int x6), some (.int x7), some (.int x8), none, none]) (st1 := [.int x5]) (h1 := mk g) rfl ?_
        rcases zb_if e with ⟨hc22, e⟩ | ⟨hc22, e⟩
        · skip
          refine Wp.iT (pc1 := 252) rfl hc22 rfl ?_
          refine Wp.steps 2 (pc1 := 62) (lo1 := [some (.ref 113), some (.int x1), some (.int x2), some (.int x3), some (.int x4), some (.int x5), some (.int x6), some (.int (x7 + 1)), some (.int x8), none, none]) (st1 := []) (h1 := mk g) rfl ?_
          refine Wp.fg [some (.ref 113), some (.int x1), some (.int x2), some (.int x3), some (.int x4), some (.int x5), some (.int x6), some (.int (x7 + 1)), none, none, none] (zm_lle_s (zm_lle_s (zm_lle_s (zm_lle_s (zm_lle_s (zm_lle_s (zm_lle_s (zm_lle_s (zm_lle_n (zm_lle_n (zm_lle_n zm_lle_0))))))))))) ?_
          exact hk62 _ _ _ _ _ _ e Q K
        · skip
          refine Wp.iF (pc1 := 169) rfl hc22 rfl ?_
          refine Wp.steps 8 (pc1 := 179) (lo1 := [some (.ref 113), some (.int x1), some (.int x2), some (.int x3), some (.int x4), some (.int x5), some (.int x6), some (.int x7), some (.int x8), none, none]) (st1 := [.int (2 * x7), .int ((40 * x1) + x3)]) (h1 := mk g) rfl ?_
          refine Wp.steps 4 (pc1 := 184) (lo1 := [some (.ref 113), some (.int x1), some (.int x2), some (.int x3), some (.int x4), some (.int x5), some (.int x6), some (.int x7), some (.int (((40 * x1) + x3) + (2 * x7))), none, none]) (st1 := [.ref 113, .ref 113]) (h1 := mk g) rfl ?_
          refine Wp.gf (pc1 := 187) (v := .ref 121) rfl rfl rfl rfl rfl ?_
          refine Wp.steps 1 (pc1 := 189) (lo1 := [some (.ref 113), some (.int x1), some (.int x2), some (.int x3), some (.int x4), some (.int x5), some (.int x6), some (.int x7), some (.int (((40 * x1) + x3) + (2 * x7))), none, none]) (st1 := [.int (((40 * x1) + x3) + (2 * x7)), .ref 121, .ref 113]) (h1 := mk g) rfl ?_
          obtain ⟨k23, hk23, e⟩ := zb_bind e
          refine Wp.ia (pc1 := 190) rfl rfl rfl hk23 rfl ?_
          refine Wp.steps 1 (pc1 := 191) (lo1 := [some (.ref 113), some (.int x1), some (.int x2), some (.int x3), some (.int x4), some (.int x5), some (.int x6), some (.int x7), some (.int (((40 * x1) + x3) + (2 * x7))), none, none]) (st1 := [.ref 113, .int (g 121 k23), .ref 113]) (h1 := mk g) rfl ?_
          refine Wp.gf (pc1 := 194) (v := .ref 121) rfl rfl rfl rfl rfl ?_
          refine Wp.steps 3 (pc1 := 198) (lo1 := [some (.ref 113), some (.int x1), some (.int x2), some (.int x3), some (.int x4), some (.int x5), some (.int x6), some (.int x7), some (.int (((40 * x1) + x3) + (2 * x7))), none, none]) (st1 := [.int ((((40 * x1) + x3) + (2 * x7)) + 1), .ref 121, .int (g 121 k23), .ref 113]) (h1 := mk g) rfl ?_
          obtain ⟨k24, hk24, e⟩ := zb_bind e
          refine Wp.ia (pc1 := 199) rfl rfl rfl hk24 rfl ?_
          obtain ⟨v25, g26, hvv25, e⟩ := zb_bpair e
          refine Wp.ca (m := 148) (d1 := d + 2) (as := [.ref 113, .int (g 121 k23), .int (g 121 k24)]) (rest := []) (st1 := [.int v25]) (pc1 := 202) rfl rfl rfl rfl rfl rfl rfl rfl (mk_rok rfl rfl rfl rfl) rfl rfl rfl (w_148 (sc := sc) (d := d) (g 121 k23) (g 121 k24) g hvv25) ?_
          rcases zb_if e with ⟨hc27, e⟩ | ⟨hc27, e⟩
          · skip
            refine Wp.iT (pc1 := 249) rfl hc27 rfl ?_
            refine Wp.steps 3 (pc1 := 62) (lo1 := [some (.ref 113), some (.int x1), some (.int x2), some (.int x3), some (.int x4), some (.int x5), some (.int (x6 + 1)), some (.int (x7 + 1)), some (.int (((40 * x1) + x3) + (2 * x7))), none, none]) (st1 := []) (h1 := mk g26) rfl ?_
            refine Wp.fg [some (.ref 113), some (.int x1), some (.int x2), some (.int x3), some (.int x4), some (.int x5), some (.int (x6 + 1)), some (.int (x7 + 1)), none, none, none] (zm_lle_s (zm_lle_s (zm_lle_s (zm_lle_s (zm_lle_s (zm_lle_s (zm_lle_s (zm_lle_s (zm_lle_n (zm_lle_n (zm_lle_n zm_lle_0))))))))))) ?_
            exact hk62 _ _ _ _ _ _ e Q K
          · skip
            refine Wp.iF (pc1 := 205) rfl hc27 rfl ?_
            refine Wp.steps 2 (pc1 := 208) (lo1 := [some (.ref 113), some (.int x1), some (.int x2), some (.int x3), some (.int x4), some (.int x5), some (.int x6), some (.int x7), some (.int (((40 * x1) + x3) + (2 * x7))), some (.int 0), none]) (st1 := []) (h1 := mk g26) rfl ?_
            refine Wp.fg [some (.ref 113), none, none, none, none, none, none, some (.int x7), none, some (.int 0), none] (zm_lle_s (zm_lle_n (zm_lle_n (zm_lle_n (zm_lle_n (zm_lle_n (zm_lle_n (zm_lle_s (zm_lle_n (zm_lle_s (zm_lle_n zm_lle_0))))))))))) ?_
            exact w_186_208 (sc := sc) (d := d) x7 300 0 g26 _ _ e Q K
      · skip
        refine Wp.iF (pc1 := 88) rfl hc21 rfl ?_
        refine Wp.steps 8 (pc1 := 98) (lo1 := [some (.ref 113), some (.int x1), some (.int x2), some (.int x3), some (.int x4), some (.int x5), some (.int x6), some (.int x7), some (.int x8), none, none]) (st1 := [.int x8, .long ((Int32.toInt64 x3) + (Int32.toInt64 (2 * x7)))]) (h1 := mk g) rfl ?_
        refine Wp.steps 4 (pc1 := 103) (lo1 := [some (.ref 113), some (.int x1), some (.int x2), some (.int x3), some (.int x4), some (.int x5), some (.int x6), some (.int x7), some (.int x8), some (.long (((Int32.toInt64 x3) + (Int32.toInt64 (2 * x7))) + (Int32.toInt64 x8))), none]) (st1 := [.ref 113]) (h1 := mk g) rfl ?_
        refine Wp.gf (pc1 := 106) (v := .ref 119) rfl rfl rfl rfl rfl ?_
        refine Wp.steps 1 (pc1 := 107) (lo1 := [some (.ref 113), some (.int x1), some (.int x2), some (.int x3), some (.int x4), some (.int x5), some (.int x6), some (.int x7), some (.int x8), some (.long (((Int32.toInt64 x3) + (Int32.toInt64 (2 * x7))) + (Int32.toInt64 x8))), none]) (st1 := [.int x1, .ref 119]) (h1 := mk g) rfl ?_
        obtain ⟨k28, hk28, e⟩ := zb_bind e
        refine Wp.ia (pc1 := 108) rfl rfl rfl hk28 rfl ?_
        refine Wp.steps 1 (pc1 := 110) (lo1 := [some (.ref 113), some (.int x1), some (.int x2), some (.int x3), some (.int x4), some (.int x5), some (.int x6), some (.int x7), some (.int x8), some (.long (((Int32.toInt64 x3) + (Int32.toInt64 (2 * x7))) + (Int32.toInt64 x8))), none]) (st1 := [.int (-4), .int (g 119 k28)]) (h1 := mk g) rfl ?_
        rcases zb_if e with ⟨hc29, e⟩ | ⟨hc29, e⟩
        · skip
          refine Wp.cT (pc1 := 117) rfl hc29 rfl ?_
          refine Wp.steps 1 (pc1 := 118) (lo1 := [some (.ref 113), some (.int x1), some (.int x2), some (.int x3), some (.int x4), some (.int x5), some (.int x6), some (.int x7), some (.int x8), some (.long (((Int32.toInt64 x3) + (Int32.toInt64 (2 * x7))) + (Int32.toInt64 x8))), none]) (st1 := [.ref 113]) (h1 := mk g) rfl ?_
          refine Wp.gf (pc1 := 121) (v := .ref 119) rfl rfl rfl rfl rfl ?_
          refine Wp.steps 1 (pc1 := 122) (lo1 := [some (.ref 113), some (.int x1), some (.int x2), some (.int x3), some (.int x4), some (.int x5), some (.int x6), some (.int x7), some (.int x8), some (.long (((Int32.toInt64 x3) + (Int32.toInt64 (2 * x7))) + (Int32.toInt64 x8))), none]) (st1 := [.int x1, .ref 119]) (h1 := mk g) rfl ?_
          obtain ⟨k30, hk30, e⟩ := zb_bind e
          refine Wp.ia (pc1 := 123) rfl rfl rfl hk30 rfl ?_
          refine Wp.steps 1 (pc1 := 124) (lo1 := [some (.ref 113), some (.int x1), some (.int x2), some (.int x3), some (.int x4), some (.int x5), some (.int x6), some (.int x7), some (.int x8), some (.long (((Int32.toInt64 x3) + (Int32.toInt64 (2 * x7))) + (Int32.toInt64 x8))), none]) (st1 := [.int x2, .int (g 119 k30)]) (h1 := mk g) rfl ?_
          rcases zb_if e with ⟨hc31, e⟩ | ⟨hc31, e⟩
          · skip
            refine Wp.cT (pc1 := 131) rfl hc31 rfl ?_
            refine Wp.steps 3 (pc1 := 135) (lo1 := [some (.ref 113), some (.int x1), some (.int x2), some (.int x3), some (.int x4), some (.int x5), some (.int x6), some (.int x7), some (.int x8), some (.long (((Int32.toInt64 x3) + (Int32.toInt64 (2 * x7))) + (Int32.toInt64 x8))), none]) (st1 := [.int (lg_cmp (((Int32.toInt64 x3) + (Int32.toInt64 (2 * x7))) + (Int32.toInt64 x8)) 0)]) (h1 := mk g) rfl ?_
            rcases zb_if e with ⟨hc32, e⟩ | ⟨hc32, e⟩
            · skip
              refine Wp.iT (pc1 := 151) rfl hc32 rfl ?_
              refine Wp.steps 5 (pc1 := 77) (lo1 := [some (.ref 113), some (.int x1), some (.int x2), some (.int x3), some (.int x4), some (.int 2), some (.int x6), some (.int x7), some (.int (x8 + 1)), some (.long (((Int32.toInt64 x3) + (Int32.toInt64 (2 * x7))) + (Int32.toInt64 x8))), none]) (st1 := []) (h1 := mk g) rfl ?_
              refine Wp.fg [some (.ref 113), some (.int x1), some (.int x2), some (.int x3), some (.int x4), some (.int 2), some (.int x6), some (.int x7), some (.int (x8 + 1)), none, none] (zm_lle_s (zm_lle_s (zm_lle_s (zm_lle_s (zm_lle_s (zm_lle_s (zm_lle_s (zm_lle_s (zm_lle_s (zm_lle_n (zm_lle_n zm_lle_0))))))))))) ?_
              exact ih _ _ _ _ e Q K
            · skip
              refine Wp.iF (pc1 := 138) rfl hc32 rfl ?_
              refine Wp.steps 2 (pc1 := 141) (lo1 := [some (.ref 113), some (.int x1), some (.int x2), some (.int x3), some (.int x4), some (.int x5), some (.int x6), some (.int x7), some (.int x8), some (.long (((Int32.toInt64 x3) + (Int32.toInt64 (2 * x7))) + (Int32.toInt64 x8))), none]) (st1 := [.ref 113, .long (((Int32.toInt64 x3) + (Int32.toInt64 (2 * x7))) + (Int32.toInt64 x8))]) (h1 := mk g) rfl ?_
              refine Wp.gf (pc1 := 144) (v := .ref 120) rfl rfl rfl rfl rfl ?_
              refine Wp.steps 1 (pc1 := 145) (lo1 := [some (.ref 113), some (.int x1), some (.int x2), some (.int x3), some (.int x4), some (.int x5), some (.int x6), some (.int x7), some (.int x8), some (.long (((Int32.toInt64 x3) + (Int32.toInt64 (2 * x7))) + (Int32.toInt64 x8))), none]) (st1 := [.int x1, .ref 120, .long (((Int32.toInt64 x3) + (Int32.toInt64 (2 * x7))) + (Int32.toInt64 x8))]) (h1 := mk g) rfl ?_
              obtain ⟨k33, hk33, e⟩ := zb_bind e
              refine Wp.ia (pc1 := 146) rfl rfl rfl hk33 rfl ?_
              refine Wp.steps 2 (pc1 := 148) (lo1 := [some (.ref 113), some (.int x1), some (.int x2), some (.int x3), some (.int x4), some (.int x5), some (.int x6), some (.int x7), some (.int x8), some (.long (((Int32.toInt64 x3) + (Int32.toInt64 (2 * x7))) + (Int32.toInt64 x8))), none]) (st1 := [.int (lg_cmp (((Int32.toInt64 x3) + (Int32.toInt64 (2 * x7))) + (Int32.toInt64 x8)) (Int32.toInt64 (g 120 k33)))]) (h1 := mk g) rfl ?_
              rcases zb_if e with ⟨hc34, e⟩ | ⟨hc34, e⟩
              · skip
                refine Wp.iT (pc1 := 155) rfl hc34 rfl ?_
                refine Wp.steps 4 (pc1 := 77) (lo1 := [some (.ref 113), some (.int x1), some (.int x2), some (.int x3), some (.int x4), some (.int 0), some (.int x6), some (.int x7), some (.int (x8 + 1)), some (.long (((Int32.toInt64 x3) + (Int32.toInt64 (2 * x7))) + (Int32.toInt64 x8))), none]) (st1 := []) (h1 := mk g) rfl ?_
                refine Wp.fg [some (.ref 113), some (.int x1), some (.int x2), some (.int x3), some (.int x4), some (.int 0), some (.int x6), some (.int x7), some (.int (x8 + 1)), none, none] (zm_lle_s (zm_lle_s (zm_lle_s (zm_lle_s (zm_lle_s (zm_lle_s (zm_lle_s (zm_lle_s (zm_lle_s (zm_lle_n (zm_lle_n zm_lle_0))))))))))) ?_
                exact ih _ _ _ _ e Q K
              · skip
                refine Wp.iF (pc1 := 151) rfl hc34 rfl ?_
                refine Wp.steps 5 (pc1 := 77) (lo1 := [some (.ref 113), some (.int x1), some (.int x2), some (.int x3), some (.int x4), some (.int 2), some (.int x6), some (.int x7), some (.int (x8 + 1)), some (.long (((Int32.toInt64 x3) + (Int32.toInt64 (2 * x7))) + (Int32.toInt64 x8))), none]) (st1 := []) (h1 := mk g) rfl ?_
                refine Wp.fg [some (.ref 113), some (.int x1), some (.int x2), some (.int x3), some (.int x4), some (.int 2), some (.int x6), some (.int x7), some (.int (x8 + 1)), none, none] (zm_lle_s (zm_lle_s (zm_lle_s (zm_lle_s (zm_lle_s (zm_lle_s (zm_lle_s (zm_lle_s (zm_lle_s (zm_lle_n (zm_lle_n zm_lle_0))))))))))) ?_
                exact ih _ _ _ _ e Q K
          · skip
            refine Wp.cF (pc1 := 127) rfl hc31 rfl ?_
            refine Wp.steps 5 (pc1 := 77) (lo1 := [some (.ref 113), some (.int x1), some (.int x2), some (.int x3), some (.int x4), some (.int 3), some (.int x6), some (.int x7), some (.int (x8 + 1)), some (.long (((Int32.toInt64 x3) + (Int32.toInt64 (2 * x7))) + (Int32.toInt64 x8))), none]) (st1 := []) (h1 := mk g) rfl ?_
            refine Wp.fg [some (.ref 113), some (.int x1), some (.int x2), some (.int x3), some (.int x4), some (.int 3), some (.int x6), some (.int x7), some (.int (x8 + 1)), none, none] (zm_lle_s (zm_lle_s (zm_lle_s (zm_lle_s (zm_lle_s (zm_lle_s (zm_lle_s (zm_lle_s (zm_lle_s (zm_lle_n (zm_lle_n zm_lle_0))))))))))) ?_
            exact ih _ _ _ _ e Q K
        · skip
          refine Wp.cF (pc1 := 113) rfl hc29 rfl ?_
          refine Wp.steps 5 (pc1 := 77) (lo1 := [some (.ref 113), some (.int x1), some (.int x2), some (.int x3), some (.int x4), some (.int 1), some (.int x6), some (.int x7), some (.int (x8 + 1)), some (.long (((Int32.toInt64 x3) + (Int32.toInt64 (2 * x7))) + (Int32.toInt64 x8))), none]) (st1 := []) (h1 := mk g) rfl ?_
          refine Wp.fg [some (.ref 113), some (.int x1), some (.int x2), some (.int x3), some (.int x4), some (.int 1), some (.int x6), some (.int x7), some (.int (x8 + 1)), none, none] (zm_lle_s (zm_lle_s (zm_lle_s (zm_lle_s (zm_lle_s (zm_lle_s (zm_lle_s (zm_lle_s (zm_lle_s (zm_lle_n (zm_lle_n zm_lle_0))))))))))) ?_
          exact ih _ _ _ _ e Q K
def d_186_62 (x1 : Int32) (x2 : Int32) (x3 : Int32) (x4 : Int32) : Nat → Int32 → Int32 → Int32 → G → Option (Int32 × G)
  | 0, _, _, _, _ => none
  | f + 1, x5, x6, x7, g =>
    bif zm_cmp .ge x7 x4 then (
      zb_l (zg_up g 113 26 x5) fun g7 =>
      some (x6, g7)) else
    bif zm_cmp .ne x5 0 then (
      zb_l (zg_up g 113 26 x5) fun g9 =>
      some (x6, g9)) else
    d_186_77 x1 x2 x3 x4 x6 x7 g (d_186_62 x1 x2 x3 x4 f) 300 x5 0
set_option maxRecDepth 100000 in
set_option maxHeartbeats 4000000 in
theorem w_186_62 {sc : Option (List Int32)} {d : Nat} (x1 : Int32) (x2 : Int32) (x3 : Int32) (x4 : Int32) : ∀ (f : Nat) (x5 : Int32) (x6 : Int32) (x7 : Int32) (g : G) (r : Int32) (g' : G), d_186_62 x1 x2 x3 x4 f x5 x6 x7 g = some (r, g') → zB sc (d + 3) 186 62 [some (.ref 113), some (.int x1), some (.int x2), some (.int x3), some (.int x4), some (.int x5), some (.int x6), some (.int x7), none, none, none] [] (mk g) [.int r] (mk g') := by
  intro f
  induction f with
  | zero =>
    intro x5 x6 x7 g r g' e
    rw [d_186_62.eq_1] at e
    cases e
  | succ f ih =>
    intro x5 x6 x7 g r g' e
    rw [d_186_62.eq_2] at e
    intro Q K
    refine Wp.steps 2 (pc1 := 66) (lo1 := [some (.ref 113), some (.int x1), some (.int x2), some (.int x3), some (.int x4), some (.int x5), some (.int x6), some (.int x7), none, none, none]) (st1 := [.int x4, .int x7]) (h1 := mk g) rfl ?_
    rcases zb_if e with ⟨hc6, e⟩ | ⟨hc6, e⟩
    · skip
      refine Wp.cT (pc1 := 258) rfl hc6 rfl ?_
      refine Wp.steps 2 (pc1 := 261) (lo1 := [some (.ref 113), some (.int x1), some (.int x2), some (.int x3), some (.int x4), some (.int x5), some (.int x6), some (.int x7), none, none, none]) (st1 := [.int x5, .ref 113]) (h1 := mk g) rfl ?_
      obtain ⟨g7, hg7, e⟩ := zb_let e
      refine Wp.pf (pc1 := 264) rfl rfl rfl rfl rfl rfl hg7 rfl ?_
      refine Wp.steps 1 (pc1 := 266) (lo1 := [some (.ref 113), some (.int x1), some (.int x2), some (.int x3), some (.int x4), some (.int x5), some (.int x6), some (.int x7), none, none, none]) (st1 := [.int x6]) (h1 := mk g7) rfl ?_
      obtain ⟨e1, e2⟩ := zb_r2 e
      subst e1
      subst e2
      exact Wp.ret rfl rfl rfl (K _)
    · skip
      refine Wp.cF (pc1 := 69) rfl hc6 rfl ?_
      refine Wp.steps 1 (pc1 := 71) (lo1 := [some (.ref 113), some (.int x1), some (.int x2), some (.int x3), some (.int x4), some (.int x5), some (.int x6), some (.int x7), none, none, none]) (st1 := [.int x5]) (h1 := mk g) rfl ?_
      rcases zb_if e with ⟨hc8, e⟩ | ⟨hc8, e⟩
      · skip
        refine Wp.iT (pc1 := 258) rfl hc8 rfl ?_
        refine Wp.steps 2 (pc1 := 261) (lo1 := [some (.ref 113), some (.int x1), some (.int x2), some (.int x3), some (.int x4), some (.int x5), some (.int x6), some (.int x7), none, none, none]) (st1 := [.int x5, .ref 113]) (h1 := mk g) rfl ?_
        obtain ⟨g9, hg9, e⟩ := zb_let e
        refine Wp.pf (pc1 := 264) rfl rfl rfl rfl rfl rfl hg9 rfl ?_
        refine Wp.steps 1 (pc1 := 266) (lo1 := [some (.ref 113), some (.int x1), some (.int x2), some (.int x3), some (.int x4), some (.int x5), some (.int x6), some (.int x7), none, none, none]) (st1 := [.int x6]) (h1 := mk g9) rfl ?_
        obtain ⟨e1, e2⟩ := zb_r2 e
        subst e1
        subst e2
        exact Wp.ret rfl rfl rfl (K _)
      · skip
        refine Wp.iF (pc1 := 74) rfl hc8 rfl ?_
        refine Wp.steps 2 (pc1 := 77) (lo1 := [some (.ref 113), some (.int x1), some (.int x2), some (.int x3), some (.int x4), some (.int x5), some (.int x6), some (.int x7), some (.int 0), none, none]) (st1 := []) (h1 := mk g) rfl ?_
        exact w_186_77 (sc := sc) (d := d) x1 x2 x3 x4 x6 x7 g (d_186_62 x1 x2 x3 x4 f) ih 300 x5 0 _ _ e Q K
def d_186_26 (x1 : Int32) (x2 : Int32) (x3 : Int32) (x4 : Int32) : Nat → Int32 → G → Option (Int32 × G)
  | 0, _, _ => none
  | f + 1, x5, g =>
    bif zm_cmp .ge x5 8 then (
      d_186_62 x1 x2 x3 x4 300 0 0 0 g) else
    Option.bind (d_136 x5 5 g) fun v35 =>
    Option.bind (zm_ix x5 8) fun k37 =>
    zb_l (zg_up g 122 k37 v35) fun g36 =>
    d_186_26 x1 x2 x3 x4 f (x5 + 1) g36
set_option maxRecDepth 100000 in
set_option maxHeartbeats 4000000 in
theorem w_186_26 {sc : Option (List Int32)} {d : Nat} (x1 : Int32) (x2 : Int32) (x3 : Int32) (x4 : Int32) : ∀ (f : Nat) (x5 : Int32) (g : G) (r : Int32) (g' : G), d_186_26 x1 x2 x3 x4 f x5 g = some (r, g') → zB sc (d + 3) 186 26 [some (.ref 113), some (.int x1), some (.int x2), some (.int x3), some (.int x4), some (.int x5), none, none, none, none, none] [] (mk g) [.int r] (mk g') := by
  intro f
  induction f with
  | zero =>
    intro x5 g r g' e
    rw [d_186_26.eq_1] at e
    cases e
  | succ f ih =>
    intro x5 g r g' e
    rw [d_186_26.eq_2] at e
    intro Q K
    refine Wp.steps 2 (pc1 := 30) (lo1 := [some (.ref 113), some (.int x1), some (.int x2), some (.int x3), some (.int x4), some (.int x5), none, none, none, none, none]) (st1 := [.int 8, .int x5]) (h1 := mk g) rfl ?_
    rcases zb_if e with ⟨hc5, e⟩ | ⟨hc5, e⟩
    · skip
      refine Wp.cT (pc1 := 53) rfl hc5 rfl ?_
      refine Wp.steps 6 (pc1 := 62) (lo1 := [some (.ref 113), some (.int x1), some (.int x2), some (.int x3), some (.int x4), some (.int 0), some (.int 0), some (.int 0), none, none, none]) (st1 := []) (h1 := mk g) rfl ?_
      exact w_186_62 (sc := sc) (d := d) x1 x2 x3 x4 300 0 0 0 g _ _ e Q K
    · skip
      refine Wp.cF (pc1 := 33) rfl hc5 rfl ?_
      refine Wp.steps 1 (pc1 := 34) (lo1 := [some (.ref 113), some (.int x1), some (.int x2), some (.int x3), some (.int x4), some (.int x5), none, none, none, none, none]) (st1 := [.ref 113]) (h1 := mk g) rfl ?_
      refine Wp.gf (pc1 := 37) (v := .ref 122) rfl rfl rfl rfl rfl ?_
      refine Wp.steps 4 (pc1 := 43) (lo1 := [some (.ref 113), some (.int x1), some (.int x2), some (.int x3), some (.int x4), some (.int x5), none, none, none, none, none]) (st1 := [.int 5, .int x5, .ref 113, .int x5, .ref 122]) (h1 := mk g) rfl ?_
      obtain ⟨v35, hvv35, e⟩ := zb_bind e
      refine Wp.ca (m := 136) (d1 := d + 2) (as := [.ref 113, .int x5, .int 5]) (rest := [.int x5, .ref 122]) (st1 := [.int v35, .int x5, .ref 122]) (pc1 := 46) rfl rfl rfl rfl rfl rfl rfl rfl (mk_rok rfl rfl rfl rfl) rfl rfl rfl (w_136 (sc := sc) (d := d + 2) x5 5 g hvv35) ?_
      obtain ⟨k37, hk37, e⟩ := zb_bind e
      obtain ⟨g36, hg36, e⟩ := zb_let e
      refine Wp.ias (pc1 := 47) rfl rfl rfl hk37 hg36 rfl ?_
      refine Wp.steps 2 (pc1 := 26) (lo1 := [some (.ref 113), some (.int x1), some (.int x2), some (.int x3), some (.int x4), some (.int (x5 + 1)), none, none, none, none, none]) (st1 := []) (h1 := mk g36) rfl ?_
      exact ih _ _ _ _ e Q K
/-- EveningFirstModel.read(IIII)I -/
def d_186 (x1 : Int32) (x2 : Int32) (x3 : Int32) (x4 : Int32) (g : G) : Option (Int32 × G) :=
  zb_l (d_183 x1 x2) fun v1 =>
  bif v1 then (
    zb_l (d_107 (Int32.toInt64 x4) 0 20) fun v3 =>
    bif v3 then (
      d_186_26 x1 x2 x3 x4 300 0 g) else
    some ((-1), g)) else
  some ((-1), g)
set_option maxRecDepth 100000 in
set_option maxHeartbeats 4000000 in
theorem w_186 {sc : Option (List Int32)} {d : Nat} (x1 : Int32) (x2 : Int32) (x3 : Int32) (x4 : Int32) (g : G) {r : Int32} {g' : G} (e : d_186 x1 x2 x3 x4 g = some (r, g')) : zB sc (d + 3) 186 0 (zm_ent (z_L 186) [.ref 113, .int x1, .int x2, .int x3, .int x4]) [] (mk g) [.int r] (mk g') := by
  unfold d_186 at e
  intro Q K
  show Wp sc (d + 3) 186 0 [some (.ref 113), some (.int x1), some (.int x2), some (.int x3), some (.int x4), none, none, none, none, none, none] [] (mk g) Q
  refine Wp.steps 2 (pc1 := 2) (lo1 := [some (.ref 113), some (.int x1), some (.int x2), some (.int x3), some (.int x4), none, none, none, none, none, none]) (st1 := [.int x2, .int x1]) (h1 := mk g) rfl ?_
  obtain ⟨v1, hvv1, e⟩ := zb_let e
  refine Wp.ca (m := 183) (d1 := d + 2) (as := [.int x1, .int x2]) (rest := []) (st1 := [.int (zb_i v1)]) (pc1 := 5) rfl rfl rfl rfl rfl rfl rfl rfl rfl rfl rfl rfl (w_183 (sc := sc) (d := d + 1) x1 x2 g hvv1) ?_
  rcases zb_if e with ⟨hc2, e⟩ | ⟨hc2, e⟩
  · skip
    refine Wp.iF (pc1 := 8) rfl (zb_eqF hc2) rfl ?_
    refine Wp.steps 4 (pc1 := 15) (lo1 := [some (.ref 113), some (.int x1), some (.int x2), some (.int x3), some (.int x4), none, none, none, none, none, none]) (st1 := [.long 20, .long 0, .long (Int32.toInt64 x4)]) (h1 := mk g) rfl ?_
    obtain ⟨v3, hvv3, e⟩ := zb_let e
    refine Wp.ca (m := 107) (d1 := d + 2) (as := [.long (Int32.toInt64 x4), .long 0, .long 20]) (rest := []) (st1 := [.int (zb_i v3)]) (pc1 := 18) rfl rfl rfl rfl rfl rfl rfl rfl rfl rfl rfl rfl (w_107 (sc := sc) (d := d + 2) (Int32.toInt64 x4) 0 20 g hvv3) ?_
    rcases zb_if e with ⟨hc4, e⟩ | ⟨hc4, e⟩
    · skip
      refine Wp.iT (pc1 := 23) rfl (zb_neT hc4) rfl ?_
      refine Wp.steps 2 (pc1 := 26) (lo1 := [some (.ref 113), some (.int x1), some (.int x2), some (.int x3), some (.int x4), some (.int 0), none, none, none, none, none]) (st1 := []) (h1 := mk g) rfl ?_
      exact w_186_26 (sc := sc) (d := d) x1 x2 x3 x4 300 0 g _ _ e Q K
    · skip
      refine Wp.iF (pc1 := 21) rfl (zb_neF hc4) rfl ?_
      refine Wp.steps 1 (pc1 := 22) (lo1 := [some (.ref 113), some (.int x1), some (.int x2), some (.int x3), some (.int x4), none, none, none, none, none, none]) (st1 := [.int (-1)]) (h1 := mk g) rfl ?_
      obtain ⟨e1, e2⟩ := zb_r2 e
      subst e1
      subst e2
      exact Wp.ret rfl rfl rfl (K _)
  · skip
    refine Wp.iT (pc1 := 21) rfl (zb_eqT hc2) rfl ?_
    refine Wp.steps 1 (pc1 := 22) (lo1 := [some (.ref 113), some (.int x1), some (.int x2), some (.int x3), some (.int x4), none, none, none, none, none, none]) (st1 := [.int (-1)]) (h1 := mk g) rfl ?_
    obtain ⟨e1, e2⟩ := zb_r2 e
    subst e1
    subst e2
    exact Wp.ret rfl rfl rfl (K _)
/-- EveningFirst.torn()I -/
def d_88 (g : G) : Int32 :=
  (g 0 7)
set_option maxRecDepth 100000 in
set_option maxHeartbeats 4000000 in
theorem w_88 {sc : Option (List Int32)} {d : Nat} (g : G) {r : Int32} (e : d_88 g = r) : zB sc (d) 88 0 (zm_ent (z_L 88) [.ref 0]) [] (mk g) [.int r] (mk g) := by
  unfold d_88 at e
  intro Q K
  show Wp sc (d) 88 0 [some (.ref 0)] [] (mk g) Q
  refine Wp.steps 1 (pc1 := 1) (lo1 := [some (.ref 0)]) (st1 := [.ref 0]) (h1 := mk g) rfl ?_
  refine Wp.gf (pc1 := 4) (v := .int (g 0 7)) rfl rfl rfl rfl rfl ?_
  have e1 := e
  subst e1
  exact Wp.ret rfl rfl rfl (K _)
/-- EveningFirstModel.torn()I -/
def d_187 (g : G) : Int32 :=
  (g 113 26)
set_option maxRecDepth 100000 in
set_option maxHeartbeats 4000000 in
theorem w_187 {sc : Option (List Int32)} {d : Nat} (g : G) {r : Int32} (e : d_187 g = r) : zB sc (d) 187 0 (zm_ent (z_L 187) [.ref 113]) [] (mk g) [.int r] (mk g) := by
  unfold d_187 at e
  intro Q K
  show Wp sc (d) 187 0 [some (.ref 113)] [] (mk g) Q
  refine Wp.steps 1 (pc1 := 1) (lo1 := [some (.ref 113)]) (st1 := [.ref 113]) (h1 := mk g) rfl ?_
  refine Wp.gf (pc1 := 4) (v := .int (g 113 26)) rfl rfl rfl rfl rfl ?_
  have e1 := e
  subst e1
  exact Wp.ret rfl rfl rfl (K _)
def d_99_4 (x1 : Int32) (g : G) : Nat → Int32 → Int32 → Option Int32
  | 0, _, _ => none
  | f + 1, x2, x3 =>
    bif zm_cmp .ge x3 (g 1 2) then (
      some x2) else
    Option.bind (zm_ix x3 8) fun k2 =>
    bif zm_cmp .ne (g (9 + k2) 5) x1 then (
      d_99_4 x1 g f x2 (x3 + 1)) else
    d_99_4 x1 g f (x2 + 1) (x3 + 1)
set_option maxRecDepth 100000 in
set_option maxHeartbeats 4000000 in
theorem w_99_4 {sc : Option (List Int32)} {d : Nat} (x1 : Int32) (g : G) : ∀ (f : Nat) (x2 : Int32) (x3 : Int32) (r : Int32), d_99_4 x1 g f x2 x3 = some r → zB sc (d) 99 4 [some (.ref 0), some (.int x1), some (.int x2), some (.int x3)] [] (mk g) [.int r] (mk g) := by
  intro f
  induction f with
  | zero =>
    intro x2 x3 r e
    rw [d_99_4.eq_1] at e
    cases e
  | succ f ih =>
    intro x2 x3 r e
    rw [d_99_4.eq_2] at e
    intro Q K
    refine Wp.steps 2 (pc1 := 6) (lo1 := [some (.ref 0), some (.int x1), some (.int x2), some (.int x3)]) (st1 := [.ref 0, .int x3]) (h1 := mk g) rfl ?_
    refine Wp.gf (pc1 := 9) (v := .ref 1) rfl rfl rfl rfl rfl ?_
    refine Wp.gf (pc1 := 12) (v := .int (g 1 2)) rfl rfl rfl rfl rfl ?_
    rcases zb_if e with ⟨hc1, e⟩ | ⟨hc1, e⟩
    · skip
      refine Wp.cT (pc1 := 40) rfl hc1 rfl ?_
      refine Wp.steps 1 (pc1 := 41) (lo1 := [some (.ref 0), some (.int x1), some (.int x2), some (.int x3)]) (st1 := [.int x2]) (h1 := mk g) rfl ?_
      have e1 := zb_r1 e
      subst e1
      exact Wp.ret rfl rfl rfl (K _)
    · skip
      refine Wp.cF (pc1 := 15) rfl hc1 rfl ?_
      refine Wp.steps 1 (pc1 := 16) (lo1 := [some (.ref 0), some (.int x1), some (.int x2), some (.int x3)]) (st1 := [.ref 0]) (h1 := mk g) rfl ?_
      refine Wp.gf (pc1 := 19) (v := .ref 1) rfl rfl rfl rfl rfl ?_
      refine Wp.gf (pc1 := 22) (v := .ref 3) rfl rfl rfl rfl rfl ?_
      refine Wp.steps 1 (pc1 := 23) (lo1 := [some (.ref 0), some (.int x1), some (.int x2), some (.int x3)]) (st1 := [.int x3, .ref 3]) (h1 := mk g) rfl ?_
      obtain ⟨k2, hk2, e⟩ := zb_bind e
      refine Wp.aa (pc1 := 24) (v := (9 + k2)) rfl (zg_rdeeds (b := 1) rfl) rfl hk2 (by omega) rfl ?_
      refine Wp.gf (pc1 := 27) (v := .int (g (9 + k2) 5)) rfl (zg_deed (b := 1) rfl hk2) rfl rfl rfl ?_
      refine Wp.steps 1 (pc1 := 28) (lo1 := [some (.ref 0), some (.int x1), some (.int x2), some (.int x3)]) (st1 := [.int x1, .int (g (9 + k2) 5)]) (h1 := mk g) rfl ?_
      rcases zb_if e with ⟨hc3, e⟩ | ⟨hc3, e⟩
      · skip
        refine Wp.cT (pc1 := 34) rfl hc3 rfl ?_
        refine Wp.steps 2 (pc1 := 4) (lo1 := [some (.ref 0), some (.int x1), some (.int x2), some (.int (x3 + 1))]) (st1 := []) (h1 := mk g) rfl ?_
        exact ih _ _ _ e Q K
      · skip
        refine Wp.cF (pc1 := 31) rfl hc3 rfl ?_
        refine Wp.steps 3 (pc1 := 4) (lo1 := [some (.ref 0), some (.int x1), some (.int (x2 + 1)), some (.int (x3 + 1))]) (st1 := []) (h1 := mk g) rfl ?_
        exact ih _ _ _ e Q K
/-- EveningFirst.marked(I)I -/
def d_99 (x1 : Int32) (g : G) : Option Int32 :=
  d_99_4 x1 g 300 0 0
set_option maxRecDepth 100000 in
set_option maxHeartbeats 4000000 in
theorem w_99 {sc : Option (List Int32)} {d : Nat} (x1 : Int32) (g : G) {r : Int32} (e : d_99 x1 g = some r) : zB sc (d) 99 0 (zm_ent (z_L 99) [.ref 0, .int x1]) [] (mk g) [.int r] (mk g) := by
  unfold d_99 at e
  intro Q K
  show Wp sc (d) 99 0 [some (.ref 0), some (.int x1), none, none] [] (mk g) Q
  refine Wp.steps 4 (pc1 := 4) (lo1 := [some (.ref 0), some (.int x1), some (.int 0), some (.int 0)]) (st1 := []) (h1 := mk g) rfl ?_
  exact w_99_4 (sc := sc) (d := d) x1 g 300 0 0 _ e Q K
/-- EveningFirst.count(I)I -/
def d_89 (x1 : Int32) (g : G) : Option (Int32 × G) :=
  bif x1 == 0 then (
    Option.bind (d_99 1 g) fun v2 =>
    some (v2, g)) else
  bif x1 == 1 then (
    Option.bind (d_99 2 g) fun v4 =>
    some (v4, g)) else
  bif x1 == 2 then (
    some ((g 1 3), g)) else
  bif x1 == 3 then (
    bif zm_cmp .eq (g 55 0) 0 then (
      bif zm_cmp .eq (g 55 1) 0 then (
        some (0, g)) else
      some (1, g)) else
    bif zm_cmp .eq (g 55 1) 0 then (
      some (1, g)) else
    some (2, g)) else
  bif x1 == 4 then (
    some ((g 28 1), g)) else
  bif x1 == 5 then (
    zb_l (d_46 (105 + 2 * 0) g) fun v12 =>
    bif v12 then (
      some ((-4), g)) else
    some ((g (105 + 2 * 0) 0), g)) else
  bif x1 == 6 then (
    zb_bp (d_100 1 g) fun v15 g16 =>
    some (v15, g16)) else
  some ((-1), g)
set_option maxRecDepth 100000 in
set_option maxHeartbeats 4000000 in
theorem w_89 {sc : Option (List Int32)} {d : Nat} (x1 : Int32) (g : G) {r : Int32} {g' : G} (e : d_89 x1 g = some (r, g')) : zB sc (d + 5) 89 0 (zm_ent (z_L 89) [.ref 0, .int x1]) [] (mk g) [.int r] (mk g') := by
  unfold d_89 at e
  intro Q K
  show Wp sc (d + 5) 89 0 [some (.ref 0), some (.int x1)] [] (mk g) Q
  refine Wp.steps 1 (pc1 := 1) (lo1 := [some (.ref 0), some (.int x1)]) (st1 := [.int x1]) (h1 := mk g) rfl ?_
  rcases zb_if e with ⟨hc1, e⟩ | ⟨hc1, e⟩
  · skip
    refine Wp.swT (pc1 := 44) (w := 0) rfl hc1 rfl ?_
    refine Wp.steps 2 (pc1 := 46) (lo1 := [some (.ref 0), some (.int x1)]) (st1 := [.int 1, .ref 0]) (h1 := mk g) rfl ?_
    obtain ⟨v2, hvv2, e⟩ := zb_bind e
    refine Wp.ca (m := 99) (d1 := d + 4) (as := [.ref 0, .int 1]) (rest := []) (st1 := [.int v2]) (pc1 := 49) rfl rfl rfl rfl rfl rfl rfl rfl (mk_rok rfl rfl rfl rfl) rfl rfl rfl (w_99 (sc := sc) (d := d + 4) 1 g hvv2) ?_
    obtain ⟨e1, e2⟩ := zb_r2 e
    subst e1
    subst e2
    exact Wp.ret rfl rfl rfl (K _)
  · skip
    rcases zb_if e with ⟨hc3, e⟩ | ⟨hc3, e⟩
    · skip
      refine Wp.swT (pc1 := 50) (w := 1) rfl hc3 rfl ?_
      refine Wp.steps 2 (pc1 := 52) (lo1 := [some (.ref 0), some (.int x1)]) (st1 := [.int 2, .ref 0]) (h1 := mk g) rfl ?_
      obtain ⟨v4, hvv4, e⟩ := zb_bind e
      refine Wp.ca (m := 99) (d1 := d + 4) (as := [.ref 0, .int 2]) (rest := []) (st1 := [.int v4]) (pc1 := 55) rfl rfl rfl rfl rfl rfl rfl rfl (mk_rok rfl rfl rfl rfl) rfl rfl rfl (w_99 (sc := sc) (d := d + 4) 2 g hvv4) ?_
      obtain ⟨e1, e2⟩ := zb_r2 e
      subst e1
      subst e2
      exact Wp.ret rfl rfl rfl (K _)
    · skip
      rcases zb_if e with ⟨hc5, e⟩ | ⟨hc5, e⟩
      · skip
        refine Wp.swT (pc1 := 56) (w := 2) rfl hc5 rfl ?_
        refine Wp.steps 1 (pc1 := 57) (lo1 := [some (.ref 0), some (.int x1)]) (st1 := [.ref 0]) (h1 := mk g) rfl ?_
        refine Wp.gf (pc1 := 60) (v := .ref 1) rfl rfl rfl rfl rfl ?_
        refine Wp.gf (pc1 := 63) (v := .int (g 1 3)) rfl rfl rfl rfl rfl ?_
        obtain ⟨e1, e2⟩ := zb_r2 e
        subst e1
        subst e2
        exact Wp.ret rfl rfl rfl (K _)
      · skip
        rcases zb_if e with ⟨hc6, e⟩ | ⟨hc6, e⟩
        · skip
          refine Wp.swT (pc1 := 64) (w := 3) rfl hc6 rfl ?_
          refine Wp.steps 1 (pc1 := 65) (lo1 := [some (.ref 0), some (.int x1)]) (st1 := [.ref 0]) (h1 := mk g) rfl ?_
          refine Wp.gf (pc1 := 68) (v := .ref 55) rfl rfl rfl rfl rfl ?_
          refine Wp.steps 1 (pc1 := 69) (lo1 := [some (.ref 0), some (.int x1)]) (st1 := [.int 0, .ref 55]) (h1 := mk g) rfl ?_
          refine Wp.ba (pc1 := 70) (k := 0) rfl rfl rfl rfl rfl ?_
          rcases zb_if e with ⟨hc7, e⟩ | ⟨hc7, e⟩
          · skip
            refine Wp.iT (pc1 := 77) rfl hc7 rfl ?_
            refine Wp.steps 2 (pc1 := 79) (lo1 := [some (.ref 0), some (.int x1)]) (st1 := [.ref 0, .int 0]) (h1 := mk g) rfl ?_
            refine Wp.gf (pc1 := 82) (v := .ref 55) rfl rfl rfl rfl rfl ?_
            refine Wp.steps 1 (pc1 := 83) (lo1 := [some (.ref 0), some (.int x1)]) (st1 := [.int 1, .ref 55, .int 0]) (h1 := mk g) rfl ?_
            refine Wp.ba (pc1 := 84) (k := 1) rfl rfl rfl rfl rfl ?_
            rcases zb_if e with ⟨hc8, e⟩ | ⟨hc8, e⟩
            · skip
              refine Wp.iT (pc1 := 91) rfl hc8 rfl ?_
              refine Wp.steps 2 (pc1 := 93) (lo1 := [some (.ref 0), some (.int x1)]) (st1 := [.int 0]) (h1 := mk g) rfl ?_
              obtain ⟨e1, e2⟩ := zb_r2 e
              subst e1
              subst e2
              exact Wp.ret rfl rfl rfl (K _)
            · skip
              refine Wp.iF (pc1 := 87) rfl hc8 rfl ?_
              refine Wp.steps 3 (pc1 := 93) (lo1 := [some (.ref 0), some (.int x1)]) (st1 := [.int 1]) (h1 := mk g) rfl ?_
              obtain ⟨e1, e2⟩ := zb_r2 e
              subst e1
              subst e2
              exact Wp.ret rfl rfl rfl (K _)
          · skip
            refine Wp.iF (pc1 := 73) rfl hc7 rfl ?_
            refine Wp.steps 3 (pc1 := 79) (lo1 := [some (.ref 0), some (.int x1)]) (st1 := [.ref 0, .int 1]) (h1 := mk g) rfl ?_
            refine Wp.gf (pc1 := 82) (v := .ref 55) rfl rfl rfl rfl rfl ?_
            refine Wp.steps 1 (pc1 := 83) (lo1 := [some (.ref 0), some (.int x1)]) (st1 := [.int 1, .ref 55, .int 1]) (h1 := mk g) rfl ?_
            refine Wp.ba (pc1 := 84) (k := 1) rfl rfl rfl rfl rfl ?_
            rcases zb_if e with ⟨hc9, e⟩ | ⟨hc9, e⟩
            · skip
              refine Wp.iT (pc1 := 91) rfl hc9 rfl ?_
              refine Wp.steps 2 (pc1 := 93) (lo1 := [some (.ref 0), some (.int x1)]) (st1 := [.int 1]) (h1 := mk g) rfl ?_
              obtain ⟨e1, e2⟩ := zb_r2 e
              subst e1
              subst e2
              exact Wp.ret rfl rfl rfl (K _)
            · skip
              refine Wp.iF (pc1 := 87) rfl hc9 rfl ?_
              refine Wp.steps 3 (pc1 := 93) (lo1 := [some (.ref 0), some (.int x1)]) (st1 := [.int 2]) (h1 := mk g) rfl ?_
              obtain ⟨e1, e2⟩ := zb_r2 e
              subst e1
              subst e2
              exact Wp.ret rfl rfl rfl (K _)
        · skip
          rcases zb_if e with ⟨hc10, e⟩ | ⟨hc10, e⟩
          · skip
            refine Wp.swT (pc1 := 94) (w := 4) rfl hc10 rfl ?_
            refine Wp.steps 1 (pc1 := 95) (lo1 := [some (.ref 0), some (.int x1)]) (st1 := [.ref 0]) (h1 := mk g) rfl ?_
            refine Wp.gf (pc1 := 98) (v := .ref 28) rfl rfl rfl rfl rfl ?_
            refine Wp.gf (pc1 := 101) (v := .int (g 28 1)) rfl rfl rfl rfl rfl ?_
            obtain ⟨e1, e2⟩ := zb_r2 e
            subst e1
            subst e2
            exact Wp.ret rfl rfl rfl (K _)
          · skip
            rcases zb_if e with ⟨hc11, e⟩ | ⟨hc11, e⟩
            · skip
              refine Wp.swT (pc1 := 102) (w := 5) rfl hc11 rfl ?_
              refine Wp.steps 1 (pc1 := 103) (lo1 := [some (.ref 0), some (.int x1)]) (st1 := [.ref 0]) (h1 := mk g) rfl ?_
              refine Wp.gf (pc1 := 106) (v := .ref 104) rfl rfl rfl rfl rfl ?_
              refine Wp.steps 1 (pc1 := 107) (lo1 := [some (.ref 0), some (.int x1)]) (st1 := [.int 0, .ref 104]) (h1 := mk g) rfl ?_
              refine Wp.aa (pc1 := 108) (k := 0) (v := (105 + 2 * 0)) rfl rfl rfl rfl (by omega) rfl ?_
              obtain ⟨v12, hvv12, e⟩ := zb_let e
              refine Wp.ca (m := 46) (d1 := d + 4) (as := [.ref (105 + 2 * 0)]) (rest := []) (st1 := [.int (zb_i v12)]) (pc1 := 111) rfl rfl rfl rfl rfl rfl rfl rfl (mk_rok (zg_sheet (i := 0) rfl) rfl rfl rfl) rfl rfl rfl (w_46 (sc := sc) (d := d + 4) (105 + 2 * 0) (zg_sheet (i := 0) rfl) g hvv12) ?_
              rcases zb_if e with ⟨hc13, e⟩ | ⟨hc13, e⟩
              · skip
                refine Wp.iF (pc1 := 114) rfl (zb_eqF hc13) rfl ?_
                refine Wp.steps 2 (pc1 := 128) (lo1 := [some (.ref 0), some (.int x1)]) (st1 := [.int (-4)]) (h1 := mk g) rfl ?_
                obtain ⟨e1, e2⟩ := zb_r2 e
                subst e1
                subst e2
                exact Wp.ret rfl rfl rfl (K _)
              · skip
                refine Wp.iT (pc1 := 119) rfl (zb_eqT hc13) rfl ?_
                refine Wp.steps 1 (pc1 := 120) (lo1 := [some (.ref 0), some (.int x1)]) (st1 := [.ref 0]) (h1 := mk g) rfl ?_
                refine Wp.gf (pc1 := 123) (v := .ref 104) rfl rfl rfl rfl rfl ?_
                refine Wp.steps 1 (pc1 := 124) (lo1 := [some (.ref 0), some (.int x1)]) (st1 := [.int 0, .ref 104]) (h1 := mk g) rfl ?_
                refine Wp.aa (pc1 := 125) (k := 0) (v := (105 + 2 * 0)) rfl rfl rfl rfl (by omega) rfl ?_
                refine Wp.gf (pc1 := 128) (v := .int (g (105 + 2 * 0) 0)) rfl (zg_sheet (i := 0) rfl) rfl rfl rfl ?_
                obtain ⟨e1, e2⟩ := zb_r2 e
                subst e1
                subst e2
                exact Wp.ret rfl rfl rfl (K _)
            · skip
              rcases zb_if e with ⟨hc14, e⟩ | ⟨hc14, e⟩
              · skip
                refine Wp.swT (pc1 := 129) (w := 6) rfl hc14 rfl ?_
                refine Wp.steps 2 (pc1 := 131) (lo1 := [some (.ref 0), some (.int x1)]) (st1 := [.ref 0, .ref 0]) (h1 := mk g) rfl ?_
                refine Wp.gf (pc1 := 134) (v := .ref 1) rfl rfl rfl rfl rfl ?_
                obtain ⟨v15, g16, hvv15, e⟩ := zb_bpair e
                refine Wp.ca (m := 100) (d1 := d + 4) (as := [.ref 0, .ref 1]) (rest := []) (st1 := [.int v15]) (pc1 := 137) rfl rfl rfl rfl rfl rfl rfl rfl (mk_rok rfl rfl rfl rfl) rfl rfl rfl (w_100 (sc := sc) (d := d) 1 rfl g hvv15) ?_
                obtain ⟨e1, e2⟩ := zb_r2 e
                subst e1
                subst e2
                exact Wp.ret rfl rfl rfl (K _)
              · skip
                refine Wp.swD (pc1 := 138) [0, 1, 2, 3, 4, 5, 6] rfl (by simp only [List.all_cons, List.all_nil, hc1, hc3, hc5, hc6, hc10, hc11, hc14, Bool.not_false, Bool.and_true]) (by decide) rfl ?_
                refine Wp.steps 1 (pc1 := 139) (lo1 := [some (.ref 0), some (.int x1)]) (st1 := [.int (-1)]) (h1 := mk g) rfl ?_
                obtain ⟨e1, e2⟩ := zb_r2 e
                subst e1
                subst e2
                exact Wp.ret rfl rfl rfl (K _)
