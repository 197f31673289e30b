/-! printed by wip/tools/safe.py -/
/-- EveningFirstModel.keep -/
theorem s_181 (x1 : Int32) (g : G) (hI : Inv g) (hp : True) : S1 (d_181 x1 g) (fun q : Int32 × G => Inv q.2 ∧ True) := by
  unfold d_181
  have Lm1 := zl_m1
  have L0 := zl_0
  have L1 := zl_1
  have L98 := zl_98
  have y1 := zi_i64 x1
  have y2 : (0 : Int64).toInt = 0 := by decide
  have y3 : (1 : Int64).toInt = 1 := by decide
  refine S1.lc (zin_c (a := (Int32.toInt64 x1)) (b := (0 : Int64)) (c := (1 : Int64))) ?_
  intro v1 hvv1 hRv1
  have hRv1 : (v1 = true → (0 : Int64).toInt ≤ (Int32.toInt64 x1).toInt ∧ (Int32.toInt64 x1).toInt ≤ (1 : Int64).toInt) ∧ (v1 = false → (Int32.toInt64 x1).toInt < (0 : Int64).toInt ∨ (1 : Int64).toInt < (Int32.toInt64 x1).toInt) := hRv1
  refine S1.ite (fun hc2 => ?_) (fun hc2 => ?_)
  · skip
    have chc2 := hRv1.1 hc2
    refine S1.ix (by omega) ?_
    intro k3 hk3 bk3
    refine S1.lt ?_
    intro v4 hvv4
    refine S1.ix (by omega) ?_
    intro k6 hk6 bk6
    refine S1.lt ?_
    intro g5 hg5
    have Ig5 : Inv g5 := Inv.up hI hg5 rfl trivial
    try have y4 := zi_add (x := x1) (y := (1 : Int32)) (by omega) (by omega)
    try have y5 := zi_mul (x := (98 : Int32)) (y := (x1 + 1)) (n := 98) (by decide) (by omega) (by omega)
    refine S1.bd (s_180 (98 * (x1 + 1)) (0 : Int32) g5 Ig5 (by omega)) ?_
    intro g7 hvg7 hRg7
    have hRg7 : Inv g7 ∧ True := hRg7
    exact S1.ret (show Inv g7 ∧ True from ⟨hRg7.1, trivial⟩)
  · skip
    have chc2 := hRv1.2 hc2
    exact S1.ret (show Inv g ∧ True from ⟨hI, trivial⟩)
/-- EveningFirst.back -/
theorem s_84 (x1 : Int32) (g : G) (hI : Inv g) (hp : True) : S1 (d_84 x1 g) (fun q : Int32 × G => Inv q.2 ∧ True) := by
  unfold d_84
  have Lm2 := zl_m2
  have Lm1 := zl_m1
  have L0 := zl_0
  have L2 := zl_2
  have yp2 : 0 ≤ (g 1 2).toInt ∧ (g 1 2).toInt ≤ 8 := Inv.rd (r := 1) (c := 2) hI 2 rfl
  refine S1.ite (fun hc1 => ?_) (fun hc1 => ?_)
  · skip
    have chc1 := zc_ltT hc1
    exact S1.ret (show Inv g ∧ True from ⟨hI, trivial⟩)
  · skip
    have chc1 := zc_ltF hc1
    refine S1.ite (fun hc2 => ?_) (fun hc2 => ?_)
    · skip
      have chc2 := zc_ltT hc2
      refine S1.ix (by omega) ?_
      intro k3 hk3 bk3
      refine S1.ite (fun hc4 => ?_) (fun hc4 => ?_)
      · skip
        have chc4 := zc_neT hc4
        refine S1.ix (by omega) ?_
        intro k5 hk5 bk5
        refine S1.bd (s_17 1 (56 + 24 * k5) rfl (zg_image hk5) g hI trivial) ?_
        intro g6 hvg6 hRg6
        have hRg6 : Inv g6 ∧ True := hRg6
        have y1 : 0 ≤ (g6 1 2).toInt ∧ (g6 1 2).toInt ≤ 8 := Inv.rd (r := 1) (c := 2) hRg6.1 2 rfl
        exact S1.ret (show Inv g6 ∧ True from ⟨hRg6.1, trivial⟩)
      · skip
        have chc4 := zc_neF hc4
        exact S1.ret (show Inv g ∧ True from ⟨hI, trivial⟩)
    · skip
      have chc2 := zc_ltF hc2
      exact S1.ret (show Inv g ∧ True from ⟨hI, trivial⟩)
/-- EveningFirstModel.back -/
theorem s_182 (x1 : Int32) (g : G) (hI : Inv g) (hp : True) : S1 (d_182 x1 g) (fun q : Int32 × G => Inv q.2 ∧ True) := by
  unfold d_182
  have Lm2 := zl_m2
  have Lm1 := zl_m1
  have L0 := zl_0
  have L1 := zl_1
  have L98 := zl_98
  have yp7 := hI.m8
  have y1 := zi_i64 x1
  have y2 : (0 : Int64).toInt = 0 := by decide
  have y3 : (1 : Int64).toInt = 1 := by decide
  refine S1.lc (zin_c (a := (Int32.toInt64 x1)) (b := (0 : Int64)) (c := (1 : Int64))) ?_
  intro v1 hvv1 hRv1
  have hRv1 : (v1 = true → (0 : Int64).toInt ≤ (Int32.toInt64 x1).toInt ∧ (Int32.toInt64 x1).toInt ≤ (1 : Int64).toInt) ∧ (v1 = false → (Int32.toInt64 x1).toInt < (0 : Int64).toInt ∨ (1 : Int64).toInt < (Int32.toInt64 x1).toInt) := hRv1
  refine S1.ite (fun hc2 => ?_) (fun hc2 => ?_)
  · skip
    have chc2 := hRv1.1 hc2
    refine S1.ix (by omega) ?_
    intro k3 hk3 bk3
    refine S1.ite (fun hc4 => ?_) (fun hc4 => ?_)
    · skip
      have chc4 := zc_neT hc4
      try have y4 := zi_add (x := x1) (y := (1 : Int32)) (by omega) (by omega)
      try have y5 := zi_mul (x := (98 : Int32)) (y := (x1 + 1)) (n := 98) (by decide) (by omega) (by omega)
      refine S1.bd (s_180 (0 : Int32) (98 * (x1 + 1)) g hI (by omega)) ?_
      intro g5 hvg5 hRg5
      have hRg5 : Inv g5 ∧ True := hRg5
      have y6 := hRg5.1.m8
      exact S1.ret (show Inv g5 ∧ True from ⟨hRg5.1, trivial⟩)
    · skip
      have chc4 := zc_neF hc4
      exact S1.ret (show Inv g ∧ True from ⟨hI, trivial⟩)
  · skip
    have chc2 := hRv1.2 hc2
    exact S1.ret (show Inv g ∧ True from ⟨hI, trivial⟩)
/-- EveningFirst.isNoSheet -/
theorem s_93 (x0 : Int32) (g : G) (hI : Inv g) (hp : True) : T1 (d_93 x0) (fun q : Bool => True ∧ True ∧ (q = true → x0.toInt < 0 ∨ 3 < x0.toInt) ∧ (q = false → 0 ≤ x0.toInt ∧ x0.toInt ≤ 3)) := by
  unfold d_93
  have L0 := zl_0
  have L4 := zl_4
  refine T1.ite (fun hc1 => ?_) (fun hc1 => ?_)
  · skip
    have chc1 := zc_ltT hc1
    exact T1.ret (show True ∧ True ∧ (true = true → x0.toInt < 0 ∨ 3 < x0.toInt) ∧ (true = false → 0 ≤ x0.toInt ∧ x0.toInt ≤ 3) from ⟨trivial, trivial, (fun _ => by omega), (fun w => by cases w)⟩)
  · skip
    have chc1 := zc_ltF hc1
    refine T1.ite (fun hc2 => ?_) (fun hc2 => ?_)
    · skip
      have chc2 := zc_ltT hc2
      exact T1.ret (show True ∧ True ∧ (false = true → x0.toInt < 0 ∨ 3 < x0.toInt) ∧ (false = false → 0 ≤ x0.toInt ∧ x0.toInt ≤ 3) from ⟨trivial, trivial, (fun w => by cases w), (fun _ => by omega)⟩)
    · skip
      have chc2 := zc_ltF hc2
      exact T1.ret (show True ∧ True ∧ (true = true → x0.toInt < 0 ∨ 3 < x0.toInt) ∧ (true = false → 0 ≤ x0.toInt ∧ x0.toInt ≤ 3) from ⟨trivial, trivial, (fun _ => by omega), (fun w => by cases w)⟩)
/-- EveningFirst.isNoLane -/
theorem s_94 (x0 : Int32) (g : G) (hI : Inv g) (hp : True) : T1 (d_94 x0) (fun q : Bool => True ∧ True ∧ (q = true → x0.toInt < 0 ∨ 2 < x0.toInt) ∧ (q = false → 0 ≤ x0.toInt ∧ x0.toInt ≤ 2)) := by
  unfold d_94
  have L0 := zl_0
  have L2 := zl_2
  refine T1.ite (fun hc1 => ?_) (fun hc1 => ?_)
  · skip
    have chc1 := zc_ltT hc1
    exact T1.ret (show True ∧ True ∧ (true = true → x0.toInt < 0 ∨ 2 < x0.toInt) ∧ (true = false → 0 ≤ x0.toInt ∧ x0.toInt ≤ 2) from ⟨trivial, trivial, (fun _ => by omega), (fun w => by cases w)⟩)
  · skip
    have chc1 := zc_ltF hc1
    refine T1.ite (fun hc2 => ?_) (fun hc2 => ?_)
    · skip
      have chc2 := zc_leT hc2
      exact T1.ret (show True ∧ True ∧ (false = true → x0.toInt < 0 ∨ 2 < x0.toInt) ∧ (false = false → 0 ≤ x0.toInt ∧ x0.toInt ≤ 2) from ⟨trivial, trivial, (fun w => by cases w), (fun _ => by omega)⟩)
    · skip
      have chc2 := zc_leF hc2
      exact T1.ret (show True ∧ True ∧ (true = true → x0.toInt < 0 ∨ 2 < x0.toInt) ∧ (true = false → 0 ≤ x0.toInt ∧ x0.toInt ≤ 2) from ⟨trivial, trivial, (fun _ => by omega), (fun w => by cases w)⟩)
theorem s_47_12 (r0 : Nat) (h0 : zg_cl r0 = 5) : ∀ (f : Nat) (x3 : Int32) (g : G), Inv g → 0 ≤ x3.toInt ∧ x3.toInt ≤ 40 ∧ 40 - x3.toInt < (f : Int) → S1 (d_47_12 r0 f x3 g) (fun q : G => Inv q ∧ True) := by
  intro f
  induction f with
  | zero =>
    intro x3 g hI hp
    exfalso
    omega
  | succ f ih =>
    intro x3 g hI hp
    rw [d_47_12.eq_2]
    have L0 := zl_0
    have L1 := zl_1
    have L40 := zl_40
    refine S1.ite (fun hc3 => ?_) (fun hc3 => ?_)
    · skip
      have chc3 := zc_geT hc3
      exact S1.ret (show Inv g ∧ True from ⟨hI, trivial⟩)
    · skip
      have chc3 := zc_geF hc3
      refine S1.ix (by omega) ?_
      intro k5 hk5 bk5
      refine S1.lt ?_
      intro g4 hg4
      have Ig4 : Inv g4 := Inv.up hI hg4 (show zg_cl (r0 + 1) = 9 from zg_c9 h0) (bdP_cells h0)
      try have y1 := zi_add (x := x3) (y := (1 : Int32)) (by omega) (by omega)
      exact (ih (x3 + 1) g4 Ig4 (by omega))
/-- EveningFirst$Sheet.renew -/
theorem s_47 (r0 : Nat) (x1 : Int32) (x2 : Int32) (h0 : zg_cl r0 = 5) (g : G) (hI : Inv g) (hp : 0 ≤ x2.toInt ∧ x2.toInt ≤ 40) : S1 (d_47 r0 x1 x2 g) (fun q : G => Inv q ∧ True) := by
  unfold d_47
  have L0 := zl_0
  refine S1.lt ?_
  intro g1 hg1
  have Ig1 : Inv g1 := Inv.up hI hg1 h0 trivial
  refine S1.lt ?_
  intro g2 hg2
  have Ig2 : Inv g2 := Inv.up Ig1 hg2 h0 (show -1 ≤ x2.toInt ∧ x2.toInt ≤ 40 by omega)
  exact (s_47_12 r0 h0 300 (0 : Int32) g2 Ig2 (by omega))
/-- EveningFirst.sheet -/
theorem s_85 (x1 : Int32) (x2 : Int32) (x3 : Int32) (g : G) (hI : Inv g) (hp : True) : S1 (d_85 x1 x2 x3 g) (fun q : Int32 × G => Inv q.2 ∧ ((0 ≤ x1.toInt ∧ x1.toInt ≤ 3 ∧ 0 ≤ x2.toInt ∧ x2.toInt ≤ 2 ∧ x3.toInt ≤ 40 ∧ x3.toInt < 0 → q.1.toInt = -14) ∧ (0 ≤ x1.toInt ∧ x1.toInt ≤ 3 ∧ 0 ≤ x2.toInt ∧ x2.toInt ≤ 2 ∧ x3.toInt ≤ 40 ∧ 0 ≤ x3.toInt → q.1.toInt = 1) ∧ (x1.toInt < 0 ∨ 3 < x1.toInt ∨ x2.toInt < 0 ∨ 2 < x2.toInt ∨ 40 < x3.toInt → q.1.toInt = -1))) := by
  unfold d_85
  have Lm14 := zl_m14
  have Lm1 := zl_m1
  have L0 := zl_0
  have L1 := zl_1
  have L40 := zl_40
  refine S1.lc (s_93 x1 g hI trivial) ?_
  intro v1 hvv1 hRv1
  have hRv1 : True ∧ True ∧ (v1 = true → x1.toInt < 0 ∨ 3 < x1.toInt) ∧ (v1 = false → 0 ≤ x1.toInt ∧ x1.toInt ≤ 3) := hRv1
  refine S1.ite (fun hc2 => ?_) (fun hc2 => ?_)
  · skip
    have chc2 := hRv1.2.2.1 hc2
    exact S1.ret (show Inv g ∧ ((0 ≤ x1.toInt ∧ x1.toInt ≤ 3 ∧ 0 ≤ x2.toInt ∧ x2.toInt ≤ 2 ∧ x3.toInt ≤ 40 ∧ x3.toInt < 0 → (-1 : Int32).toInt = -14) ∧ (0 ≤ x1.toInt ∧ x1.toInt ≤ 3 ∧ 0 ≤ x2.toInt ∧ x2.toInt ≤ 2 ∧ x3.toInt ≤ 40 ∧ 0 ≤ x3.toInt → (-1 : Int32).toInt = 1) ∧ (x1.toInt < 0 ∨ 3 < x1.toInt ∨ x2.toInt < 0 ∨ 2 < x2.toInt ∨ 40 < x3.toInt → (-1 : Int32).toInt = -1)) from ⟨hI, (by omega)⟩)
  · skip
    have chc2 := hRv1.2.2.2 hc2
    refine S1.lc (s_94 x2 g hI trivial) ?_
    intro v3 hvv3 hRv3
    have hRv3 : True ∧ True ∧ (v3 = true → x2.toInt < 0 ∨ 2 < x2.toInt) ∧ (v3 = false → 0 ≤ x2.toInt ∧ x2.toInt ≤ 2) := hRv3
    refine S1.ite (fun hc4 => ?_) (fun hc4 => ?_)
    · skip
      have chc4 := hRv3.2.2.1 hc4
      exact S1.ret (show Inv g ∧ ((0 ≤ x1.toInt ∧ x1.toInt ≤ 3 ∧ 0 ≤ x2.toInt ∧ x2.toInt ≤ 2 ∧ x3.toInt ≤ 40 ∧ x3.toInt < 0 → (-1 : Int32).toInt = -14) ∧ (0 ≤ x1.toInt ∧ x1.toInt ≤ 3 ∧ 0 ≤ x2.toInt ∧ x2.toInt ≤ 2 ∧ x3.toInt ≤ 40 ∧ 0 ≤ x3.toInt → (-1 : Int32).toInt = 1) ∧ (x1.toInt < 0 ∨ 3 < x1.toInt ∨ x2.toInt < 0 ∨ 2 < x2.toInt ∨ 40 < x3.toInt → (-1 : Int32).toInt = -1)) from ⟨hI, (by omega)⟩)
    · skip
      have chc4 := hRv3.2.2.2 hc4
      refine S1.ite (fun hc5 => ?_) (fun hc5 => ?_)
      · skip
        have chc5 := zc_leT hc5
        refine S1.ite (fun hc6 => ?_) (fun hc6 => ?_)
        · skip
          have chc6 := zc_geT hc6
          refine S1.ix (by omega) ?_
          intro k7 hk7 bk7
          refine S1.bd (s_47 (105 + 2 * k7) x2 x3 (zg_sheet hk7) g hI (by omega)) ?_
          intro g8 hvg8 hRg8
          have hRg8 : Inv g8 ∧ True := hRg8
          exact S1.ret (show Inv g8 ∧ ((0 ≤ x1.toInt ∧ x1.toInt ≤ 3 ∧ 0 ≤ x2.toInt ∧ x2.toInt ≤ 2 ∧ x3.toInt ≤ 40 ∧ x3.toInt < 0 → (1 : Int32).toInt = -14) ∧ (0 ≤ x1.toInt ∧ x1.toInt ≤ 3 ∧ 0 ≤ x2.toInt ∧ x2.toInt ≤ 2 ∧ x3.toInt ≤ 40 ∧ 0 ≤ x3.toInt → (1 : Int32).toInt = 1) ∧ (x1.toInt < 0 ∨ 3 < x1.toInt ∨ x2.toInt < 0 ∨ 2 < x2.toInt ∨ 40 < x3.toInt → (1 : Int32).toInt = -1)) from ⟨hRg8.1, (by omega)⟩)
        · skip
          have chc6 := zc_geF hc6
          exact S1.ret (show Inv g ∧ ((0 ≤ x1.toInt ∧ x1.toInt ≤ 3 ∧ 0 ≤ x2.toInt ∧ x2.toInt ≤ 2 ∧ x3.toInt ≤ 40 ∧ x3.toInt < 0 → (-14 : Int32).toInt = -14) ∧ (0 ≤ x1.toInt ∧ x1.toInt ≤ 3 ∧ 0 ≤ x2.toInt ∧ x2.toInt ≤ 2 ∧ x3.toInt ≤ 40 ∧ 0 ≤ x3.toInt → (-14 : Int32).toInt = 1) ∧ (x1.toInt < 0 ∨ 3 < x1.toInt ∨ x2.toInt < 0 ∨ 2 < x2.toInt ∨ 40 < x3.toInt → (-14 : Int32).toInt = -1)) from ⟨hI, (by omega)⟩)
      · skip
        have chc5 := zc_leF hc5
        exact S1.ret (show Inv g ∧ ((0 ≤ x1.toInt ∧ x1.toInt ≤ 3 ∧ 0 ≤ x2.toInt ∧ x2.toInt ≤ 2 ∧ x3.toInt ≤ 40 ∧ x3.toInt < 0 → (-1 : Int32).toInt = -14) ∧ (0 ≤ x1.toInt ∧ x1.toInt ≤ 3 ∧ 0 ≤ x2.toInt ∧ x2.toInt ≤ 2 ∧ x3.toInt ≤ 40 ∧ 0 ≤ x3.toInt → (-1 : Int32).toInt = 1) ∧ (x1.toInt < 0 ∨ 3 < x1.toInt ∨ x2.toInt < 0 ∨ 2 < x2.toInt ∨ 40 < x3.toInt → (-1 : Int32).toInt = -1)) from ⟨hI, (by omega)⟩)
/-- EveningFirstModel.isSheet -/
theorem s_183 (x0 : Int32) (x1 : Int32) (g : G) (hI : Inv g) (hp : True) : T1 (d_183 x0 x1) (fun q : Bool => True ∧ True ∧ (q = true → 0 ≤ x0.toInt ∧ x0.toInt ≤ 3 ∧ 0 ≤ x1.toInt ∧ x1.toInt ≤ 2) ∧ (q = false → x0.toInt < 0 ∨ 3 < x0.toInt ∨ x1.toInt < 0 ∨ 2 < x1.toInt)) := by
  unfold d_183
  have L0 := zl_0
  have L2 := zl_2
  have L3 := zl_3
  have y1 := zi_i64 x0
  have y2 : (0 : Int64).toInt = 0 := by decide
  have y3 : (3 : Int64).toInt = 3 := by decide
  refine T1.lc (zin_c (a := (Int32.toInt64 x0)) (b := (0 : Int64)) (c := (3 : Int64))) ?_
  intro v1 hvv1 hRv1
  have hRv1 : (v1 = true → (0 : Int64).toInt ≤ (Int32.toInt64 x0).toInt ∧ (Int32.toInt64 x0).toInt ≤ (3 : Int64).toInt) ∧ (v1 = false → (Int32.toInt64 x0).toInt < (0 : Int64).toInt ∨ (3 : Int64).toInt < (Int32.toInt64 x0).toInt) := hRv1
  refine T1.ite (fun hc2 => ?_) (fun hc2 => ?_)
  · skip
    have chc2 := hRv1.1 hc2
    have y4 := zi_i64 x1
    have y5 : (2 : Int64).toInt = 2 := by decide
    refine T1.lc (zin_c (a := (Int32.toInt64 x1)) (b := (0 : Int64)) (c := (2 : Int64))) ?_
    intro v3 hvv3 hRv3
    have hRv3 : (v3 = true → (0 : Int64).toInt ≤ (Int32.toInt64 x1).toInt ∧ (Int32.toInt64 x1).toInt ≤ (2 : Int64).toInt) ∧ (v3 = false → (Int32.toInt64 x1).toInt < (0 : Int64).toInt ∨ (2 : Int64).toInt < (Int32.toInt64 x1).toInt) := hRv3
    refine T1.ite (fun hc4 => ?_) (fun hc4 => ?_)
    · skip
      have chc4 := hRv3.1 hc4
      exact T1.ret (show True ∧ True ∧ (true = true → 0 ≤ x0.toInt ∧ x0.toInt ≤ 3 ∧ 0 ≤ x1.toInt ∧ x1.toInt ≤ 2) ∧ (true = false → x0.toInt < 0 ∨ 3 < x0.toInt ∨ x1.toInt < 0 ∨ 2 < x1.toInt) from ⟨trivial, trivial, (fun _ => by omega), (fun w => by cases w)⟩)
    · skip
      have chc4 := hRv3.2 hc4
      exact T1.ret (show True ∧ True ∧ (false = true → 0 ≤ x0.toInt ∧ x0.toInt ≤ 3 ∧ 0 ≤ x1.toInt ∧ x1.toInt ≤ 2) ∧ (false = false → x0.toInt < 0 ∨ 3 < x0.toInt ∨ x1.toInt < 0 ∨ 2 < x1.toInt) from ⟨trivial, trivial, (fun w => by cases w), (fun _ => by omega)⟩)
  · skip
    have chc2 := hRv1.2 hc2
    exact T1.ret (show True ∧ True ∧ (false = true → 0 ≤ x0.toInt ∧ x0.toInt ≤ 3 ∧ 0 ≤ x1.toInt ∧ x1.toInt ≤ 2) ∧ (false = false → x0.toInt < 0 ∨ 3 < x0.toInt ∨ x1.toInt < 0 ∨ 2 < x1.toInt) from ⟨trivial, trivial, (fun w => by cases w), (fun _ => by omega)⟩)
theorem s_184_40 (x1 : Int32) : ∀ (f : Nat) (x4 : Int32) (g : G), Inv g → 0 ≤ x4.toInt ∧ x4.toInt ≤ 40 ∧ 40 - x4.toInt < (f : Int) ∧ 0 ≤ x1.toInt ∧ x1.toInt ≤ 3 → S1 (d_184_40 x1 f x4 g) (fun q : Int32 × G => Inv q.2 ∧ (q.1.toInt = 1)) := by
  intro f
  induction f with
  | zero =>
    intro x4 g hI hp
    exfalso
    omega
  | succ f ih =>
    intro x4 g hI hp
    rw [d_184_40.eq_2]
    have L0 := zl_0
    have L1 := zl_1
    have L40 := zl_40
    refine S1.ite (fun hc9 => ?_) (fun hc9 => ?_)
    · skip
      have chc9 := zc_geT hc9
      exact S1.ret (show Inv g ∧ ((1 : Int32).toInt = 1) from ⟨hI, (by omega)⟩)
    · skip
      have chc9 := zc_geF hc9
      try have y1 := zi_mul (x := (40 : Int32)) (y := x1) (n := 40) (by decide) (by omega) (by omega)
      try have y2 := zi_add (x := (40 * x1)) (y := x4) (by omega) (by omega)
      refine S1.ix (by omega) ?_
      intro k11 hk11 bk11
      refine S1.lt ?_
      intro g10 hg10
      have Ig10 : Inv g10 := Inv.up hI hg10 rfl trivial
      try have y3 := zi_add (x := x4) (y := (1 : Int32)) (by omega) (by omega)
      exact (ih (x4 + 1) g10 Ig10 (by omega))
/-- EveningFirstModel.sheet -/
theorem s_184 (x1 : Int32) (x2 : Int32) (x3 : Int32) (g : G) (hI : Inv g) (hp : True) : S1 (d_184 x1 x2 x3 g) (fun q : Int32 × G => Inv q.2 ∧ ((0 ≤ x1.toInt ∧ x1.toInt ≤ 3 ∧ 0 ≤ x2.toInt ∧ x2.toInt ≤ 2 ∧ x3.toInt ≤ 40 ∧ x3.toInt < 0 → q.1.toInt = -14) ∧ (0 ≤ x1.toInt ∧ x1.toInt ≤ 3 ∧ 0 ≤ x2.toInt ∧ x2.toInt ≤ 2 ∧ x3.toInt ≤ 40 ∧ 0 ≤ x3.toInt → q.1.toInt = 1) ∧ (x1.toInt < 0 ∨ 3 < x1.toInt ∨ x2.toInt < 0 ∨ 2 < x2.toInt ∨ 40 < x3.toInt → q.1.toInt = -1))) := by
  unfold d_184
  have Lm14 := zl_m14
  have Lm1 := zl_m1
  have L0 := zl_0
  have L40 := zl_40
  refine S1.lc (s_183 x1 x2 g hI trivial) ?_
  intro v1 hvv1 hRv1
  have hRv1 : True ∧ True ∧ (v1 = true → 0 ≤ x1.toInt ∧ x1.toInt ≤ 3 ∧ 0 ≤ x2.toInt ∧ x2.toInt ≤ 2) ∧ (v1 = false → x1.toInt < 0 ∨ 3 < x1.toInt ∨ x2.toInt < 0 ∨ 2 < x2.toInt) := hRv1
  refine S1.ite (fun hc2 => ?_) (fun hc2 => ?_)
  · skip
    have chc2 := hRv1.2.2.1 hc2
    refine S1.ite (fun hc3 => ?_) (fun hc3 => ?_)
    · skip
      have chc3 := zc_leT hc3
      refine S1.ite (fun hc4 => ?_) (fun hc4 => ?_)
      · skip
        have chc4 := zc_geT hc4
        refine S1.ix (by omega) ?_
        intro k6 hk6 bk6
        refine S1.lt ?_
        intro g5 hg5
        have Ig5 : Inv g5 := Inv.up hI hg5 rfl trivial
        refine S1.ix (by omega) ?_
        intro k8 hk8 bk8
        refine S1.lt ?_
        intro g7 hg7
        have Ig7 : Inv g7 := Inv.up Ig5 hg7 rfl (show 0 ≤ x3.toInt ∧ x3.toInt ≤ 40 by omega)
        refine S1.mono (s_184_40 x1 300 (0 : Int32) g7 Ig7 (by omega)) ?_
        rintro ⟨v0, w0⟩ hq
        have hq : Inv w0 ∧ (v0.toInt = 1) := hq
        exact ⟨hq.1, (by omega)⟩
      · skip
        have chc4 := zc_geF hc4
        exact S1.ret (show Inv g ∧ ((0 ≤ x1.toInt ∧ x1.toInt ≤ 3 ∧ 0 ≤ x2.toInt ∧ x2.toInt ≤ 2 ∧ x3.toInt ≤ 40 ∧ x3.toInt < 0 → (-14 : Int32).toInt = -14) ∧ (0 ≤ x1.toInt ∧ x1.toInt ≤ 3 ∧ 0 ≤ x2.toInt ∧ x2.toInt ≤ 2 ∧ x3.toInt ≤ 40 ∧ 0 ≤ x3.toInt → (-14 : Int32).toInt = 1) ∧ (x1.toInt < 0 ∨ 3 < x1.toInt ∨ x2.toInt < 0 ∨ 2 < x2.toInt ∨ 40 < x3.toInt → (-14 : Int32).toInt = -1)) from ⟨hI, (by omega)⟩)
    · skip
      have chc3 := zc_leF hc3
      exact S1.ret (show Inv g ∧ ((0 ≤ x1.toInt ∧ x1.toInt ≤ 3 ∧ 0 ≤ x2.toInt ∧ x2.toInt ≤ 2 ∧ x3.toInt ≤ 40 ∧ x3.toInt < 0 → (-1 : Int32).toInt = -14) ∧ (0 ≤ x1.toInt ∧ x1.toInt ≤ 3 ∧ 0 ≤ x2.toInt ∧ x2.toInt ≤ 2 ∧ x3.toInt ≤ 40 ∧ 0 ≤ x3.toInt → (-1 : Int32).toInt = 1) ∧ (x1.toInt < 0 ∨ 3 < x1.toInt ∨ x2.toInt < 0 ∨ 2 < x2.toInt ∨ 40 < x3.toInt → (-1 : Int32).toInt = -1)) from ⟨hI, (by omega)⟩)
  · skip
    have chc2 := hRv1.2.2.2 hc2
    exact S1.ret (show Inv g ∧ ((0 ≤ x1.toInt ∧ x1.toInt ≤ 3 ∧ 0 ≤ x2.toInt ∧ x2.toInt ≤ 2 ∧ x3.toInt ≤ 40 ∧ x3.toInt < 0 → (-1 : Int32).toInt = -14) ∧ (0 ≤ x1.toInt ∧ x1.toInt ≤ 3 ∧ 0 ≤ x2.toInt ∧ x2.toInt ≤ 2 ∧ x3.toInt ≤ 40 ∧ 0 ≤ x3.toInt → (-1 : Int32).toInt = 1) ∧ (x1.toInt < 0 ∨ 3 < x1.toInt ∨ x2.toInt < 0 ∨ 2 < x2.toInt ∨ 40 < x3.toInt → (-1 : Int32).toInt = -1)) from ⟨hI, (by omega)⟩)
/-- EveningFirst$Sheet.faultOfCell -/
theorem s_49 (r0 : Nat) (x1 : Int32) (h0 : zg_cl r0 = 5) (g : G) (hI : Inv g) (hp : True) : T1 (d_49 r0 x1 g) (fun q : Int32 => True ∧ ((q.toInt = 0 → 0 ≤ x1.toInt ∧ x1.toInt < (g r0 0).toInt))) := by
  unfold d_49
  have L0 := zl_0
  have L1 := zl_1
  have L2 := zl_2
  refine T1.lt ?_
  intro v1 hvv1
  refine T1.ite (fun hc2 => ?_) (fun hc2 => ?_)
  · skip
    exact T1.ret (show True ∧ (((1 : Int32).toInt = 0 → 0 ≤ x1.toInt ∧ x1.toInt < (g r0 0).toInt)) from ⟨trivial, (by omega)⟩)
  · skip
    refine T1.ite (fun hc3 => ?_) (fun hc3 => ?_)
    · skip
      have chc3 := zc_ltT hc3
      exact T1.ret (show True ∧ (((2 : Int32).toInt = 0 → 0 ≤ x1.toInt ∧ x1.toInt < (g r0 0).toInt)) from ⟨trivial, (by omega)⟩)
    · skip
      have chc3 := zc_ltF hc3
      have y1 : -1 ≤ (g r0 0).toInt ∧ (g r0 0).toInt ≤ 40 := Inv.rd (r := r0) (c := 5) hI 0 h0
      refine T1.ite (fun hc4 => ?_) (fun hc4 => ?_)
      · skip
        have chc4 := zc_geT hc4
        exact T1.ret (show True ∧ (((2 : Int32).toInt = 0 → 0 ≤ x1.toInt ∧ x1.toInt < (g r0 0).toInt)) from ⟨trivial, (by omega)⟩)
      · skip
        have chc4 := zc_geF hc4
        exact T1.ret (show True ∧ (((0 : Int32).toInt = 0 → 0 ≤ x1.toInt ∧ x1.toInt < (g r0 0).toInt)) from ⟨trivial, (by omega)⟩)
/-- EveningFirst$Sheet.put -/
theorem s_51 (r0 : Nat) (x1 : Int32) (x2 : Int32) (h0 : zg_cl r0 = 5) (g : G) (hI : Inv g) (hp : 0 ≤ x1.toInt ∧ x1.toInt ≤ 39) : S1 (d_51 r0 x1 x2 g) (fun q : G => Inv q ∧ True) := by
  unfold d_51
  have L0 := zl_0
  have L1 := zl_1
  refine S1.ite (fun hc1 => ?_) (fun hc1 => ?_)
  · skip
    have chc1 := zc_bT hc1
    refine S1.ix (by omega) ?_
    intro k3 hk3 bk3
    refine S1.lt ?_
    intro g2 hg2
    have Ig2 : Inv g2 := Inv.up hI hg2 (show zg_cl (r0 + 1) = 9 from zg_c9 h0) (bdP_cells h0)
    exact S1.ret (show Inv g2 ∧ True from ⟨Ig2, trivial⟩)
  · skip
    have chc1 := zc_bF hc1
    refine S1.ite (fun hc4 => ?_) (fun hc4 => ?_)
    · skip
      have chc4 := zc_bT hc4
      refine S1.ix (by omega) ?_
      intro k6 hk6 bk6
      refine S1.lt ?_
      intro g5 hg5
      have Ig5 : Inv g5 := Inv.up hI hg5 (show zg_cl (r0 + 1) = 9 from zg_c9 h0) (bdP_cells h0)
      exact S1.ret (show Inv g5 ∧ True from ⟨Ig5, trivial⟩)
    · skip
      have chc4 := zc_bF hc4
      refine S1.ix (by omega) ?_
      intro k8 hk8 bk8
      refine S1.lt ?_
      intro g7 hg7
      have Ig7 : Inv g7 := Inv.up hI hg7 (show zg_cl (r0 + 1) = 9 from zg_c9 h0) (bdP_cells h0)
      exact S1.ret (show Inv g7 ∧ True from ⟨Ig7, trivial⟩)
/-- EveningFirst.lay -/
theorem s_86 (x1 : Int32) (x2 : Int32) (x3 : Int32) (g : G) (hI : Inv g) (hp : True) : S1 (d_86 x1 x2 x3 g) (fun q : Int32 × G => Inv q.2 ∧ True) := by
  unfold d_86
  have Lm10 := zl_m10
  have Lm1 := zl_m1
  have L0 := zl_0
  have L1 := zl_1
  refine S1.lc (s_93 x1 g hI trivial) ?_
  intro v1 hvv1 hRv1
  have hRv1 : True ∧ True ∧ (v1 = true → x1.toInt < 0 ∨ 3 < x1.toInt) ∧ (v1 = false → 0 ≤ x1.toInt ∧ x1.toInt ≤ 3) := hRv1
  refine S1.ite (fun hc2 => ?_) (fun hc2 => ?_)
  · skip
    have chc2 := hRv1.2.2.1 hc2
    exact S1.ret (show Inv g ∧ True from ⟨hI, trivial⟩)
  · skip
    have chc2 := hRv1.2.2.2 hc2
    refine S1.ix (by omega) ?_
    intro k3 hk3 bk3
    refine S1.lc (s_49 (105 + 2 * k3) x2 (zg_sheet hk3) g hI trivial) ?_
    intro v4 hvv4 hRv4
    have hRv4 : True ∧ ((v4.toInt = 0 → 0 ≤ x2.toInt ∧ x2.toInt < (g (105 + 2 * k3) 0).toInt)) := hRv4
    have y1 : -1 ≤ (g (105 + 2 * k3) 0).toInt ∧ (g (105 + 2 * k3) 0).toInt ≤ 40 := Inv.rd (r := (105 + 2 * k3)) (c := 5) hI 0 (zg_sheet hk3)
    refine S1.ite (fun hc5 => ?_) (fun hc5 => ?_)
    · skip
      have chc5 := zc_eqT hc5
      refine S1.ix (by omega) ?_
      intro k6 hk6 bk6
      refine S1.bd (s_51 (105 + 2 * k6) x2 x3 (zg_sheet hk6) g hI (by omega)) ?_
      intro g7 hvg7 hRg7
      have hRg7 : Inv g7 ∧ True := hRg7
      exact S1.ret (show Inv g7 ∧ True from ⟨hRg7.1, trivial⟩)
    · skip
      have chc5 := zc_eqF hc5
      try have y2 := zi_sub (x := (-10 : Int32)) (y := v4) (by omega) (by omega)
      exact S1.ret (show Inv g ∧ True from ⟨hI, trivial⟩)
/-- EveningFirstModel.lay -/
theorem s_185 (x1 : Int32) (x2 : Int32) (x3 : Int32) (g : G) (hI : Inv g) (hp : True) : S1 (d_185 x1 x2 x3 g) (fun q : Int32 × G => Inv q.2 ∧ True) := by
  unfold d_185
  have Lm12 := zl_m12
  have Lm11 := zl_m11
  have Lm4 := zl_m4
  have Lm1 := zl_m1
  have L0 := zl_0
  have L1 := zl_1
  have L40 := zl_40
  refine S1.lc (s_183 x1 (0 : Int32) g hI trivial) ?_
  intro v1 hvv1 hRv1
  have hRv1 : True ∧ True ∧ (v1 = true → 0 ≤ x1.toInt ∧ x1.toInt ≤ 3 ∧ 0 ≤ (0 : Int32).toInt ∧ (0 : Int32).toInt ≤ 2) ∧ (v1 = false → x1.toInt < 0 ∨ 3 < x1.toInt ∨ (0 : Int32).toInt < 0 ∨ 2 < (0 : Int32).toInt) := hRv1
  refine S1.ite (fun hc2 => ?_) (fun hc2 => ?_)
  · skip
    have chc2 := hRv1.2.2.1 hc2
    refine S1.ix (by omega) ?_
    intro k3 hk3 bk3
    refine S1.ite (fun hc4 => ?_) (fun hc4 => ?_)
    · skip
      have chc4 := zc_neT hc4
      refine S1.ix (by omega) ?_
      intro k5 hk5 bk5
      have y1 := zi_i64 x2
      have y2 : 0 ≤ (g 120 k5).toInt ∧ (g 120 k5).toInt ≤ 40 := Inv.rd (r := 120) (c := 9) hI k5 rfl
      try have y3 := zi_sub (x := (g 120 k5)) (y := (1 : Int32)) (by omega) (by omega)
      have y4 := zi_i64 ((g 120 k5) - 1)
      have y5 : (0 : Int64).toInt = 0 := by decide
      refine S1.lc (zin_c (a := (Int32.toInt64 x2)) (b := (0 : Int64)) (c := (Int32.toInt64 ((g 120 k5) - 1)))) ?_
      intro v6 hvv6 hRv6
      have hRv6 : (v6 = true → (0 : Int64).toInt ≤ (Int32.toInt64 x2).toInt ∧ (Int32.toInt64 x2).toInt ≤ (Int32.toInt64 ((g 120 k5) - 1)).toInt) ∧ (v6 = false → (Int32.toInt64 x2).toInt < (0 : Int64).toInt ∨ (Int32.toInt64 ((g 120 k5) - 1)).toInt < (Int32.toInt64 x2).toInt) := hRv6
      refine S1.ite (fun hc7 => ?_) (fun hc7 => ?_)
      · skip
        have chc7 := hRv6.1 hc7
        refine S1.ix (by omega) ?_
        intro k8 hk8 bk8
        refine S1.ite (fun hc9 => ?_) (fun hc9 => ?_)
        · skip
          have chc9 := zc_neT hc9
          refine S1.ix (by omega) ?_
          intro k10 hk10 bk10
          refine S1.ite (fun hc11 => ?_) (fun hc11 => ?_)
          · skip
            have chc11 := zc_neT hc11
            try have y6 := zi_mul (x := (40 : Int32)) (y := x1) (n := 40) (by decide) (by omega) (by omega)
            try have y7 := zi_add (x := (40 * x1)) (y := x2) (by omega) (by omega)
            refine S1.ix (by omega) ?_
            intro k13 hk13 bk13
            refine S1.lt ?_
            intro g12 hg12
            have Ig12 : Inv g12 := Inv.up hI hg12 rfl trivial
            exact S1.ret (show Inv g12 ∧ True from ⟨Ig12, trivial⟩)
          · skip
            have chc11 := zc_neF hc11
            try have y8 := zi_mul (x := (40 : Int32)) (y := x1) (n := 40) (by decide) (by omega) (by omega)
            try have y9 := zi_add (x := (40 * x1)) (y := x2) (by omega) (by omega)
            refine S1.ix (by omega) ?_
            intro k15 hk15 bk15
            refine S1.lt ?_
            intro g14 hg14
            have Ig14 : Inv g14 := Inv.up hI hg14 rfl trivial
            exact S1.ret (show Inv g14 ∧ True from ⟨Ig14, trivial⟩)
        · skip
          have chc9 := zc_neF hc9
          try have y10 := zi_mul (x := (40 : Int32)) (y := x1) (n := 40) (by decide) (by omega) (by omega)
          try have y11 := zi_add (x := (40 * x1)) (y := x2) (by omega) (by omega)
          refine S1.ix (by omega) ?_
          intro k17 hk17 bk17
          refine S1.lt ?_
          intro g16 hg16
          have Ig16 : Inv g16 := Inv.up hI hg16 rfl trivial
          exact S1.ret (show Inv g16 ∧ True from ⟨Ig16, trivial⟩)
      · skip
        have chc7 := hRv6.2 hc7
        exact S1.ret (show Inv g ∧ True from ⟨hI, trivial⟩)
    · skip
      have chc4 := zc_neF hc4
      exact S1.ret (show Inv g ∧ True from ⟨hI, trivial⟩)
  · skip
    have chc2 := hRv1.2.2.2 hc2
    exact S1.ret (show Inv g ∧ True from ⟨hI, trivial⟩)
