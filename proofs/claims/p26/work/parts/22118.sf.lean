/-! printed by wip/tools/safe.py -/
theorem s_173_19 (x1 : Int32) (g : G) (hI : Inv g) : ∀ (f : Nat) (x2 : Int64) (x4 : Int32), 0 ≤ x4.toInt ∧ x4.toInt ≤ 256 ∧ 256 - x4.toInt < (f : Int) → S1 (d_173_19 x1 g f x2 x4) (fun q : Int64 => True ∧ True) := by
  intro f
  induction f with
  | zero =>
    intro x2 x4 hp
    exfalso
    omega
  | succ f ih =>
    intro x2 x4 hp
    rw [d_173_19.eq_2]
    have L0 := zl_0
    have L1 := zl_1
    refine S1.lc (s_158 g hI trivial) ?_
    intro v3 hvv3 hRv3
    have hRv3 : True ∧ (0 ≤ v3.toInt ∧ v3.toInt ≤ 255) := hRv3
    refine S1.ite (fun hc4 => ?_) (fun hc4 => ?_)
    · skip
      have chc4 := zc_gtT hc4
      refine S1.bd (s_172 x2 x1 g hI trivial) ?_
      intro v5 hvv5 hRv5
      have hRv5 : True ∧ True := hRv5
      exact S1.ret (show True ∧ True from ⟨trivial, trivial⟩)
    · skip
      have chc4 := zc_gtF hc4
      refine S1.bd (s_152 x4 g hI trivial) ?_
      intro v6 hvv6 hRv6
      have hRv6 : True ∧ True ∧ (v6 = true → True) ∧ (v6 = false → True) := hRv6
      refine S1.ite (fun hc7 => ?_) (fun hc7 => ?_)
      · skip
        have chc7 := hRv6.2.2.1 hc7
        refine S1.bd (s_171 x4 g hI trivial) ?_
        intro v8 hvv8 hRv8
        have hRv8 : True ∧ True := hRv8
        try have y1 := zj_add (x := x2) (y := v8) (by omega) (by omega)
        try have y2 := zi_add (x := x4) (y := (1 : Int32)) (by omega) (by omega)
        exact (ih (x2 + v8) (x4 + 1) (by omega))
      · skip
        have chc7 := hRv6.2.2.2 hc7
        try have y3 := zj_add (x := x2) (y := (0 : Int64)) (by omega) (by omega)
        try have y4 := zi_add (x := x4) (y := (1 : Int32)) (by omega) (by omega)
        exact (ih (x2 + 0) (x4 + 1) (by omega))
/-- EveningFirstModel.odds -/
theorem s_173 (x1 : Int32) (g : G) (hI : Inv g) (hp : True) : S1 (d_173 x1 g) (fun q : Int64 => True ∧ True) := by
  unfold d_173
  have Lm1 := zl_m1
  have L0 := zl_0
  have L1 := zl_1
  have y5 := zi_i64 x1
  have y6 : (0 : Int64).toInt = 0 := by decide
  have y7 : (1 : Int64).toInt = 1 := by decide
  refine S1.lc (zin_c (a := (Int32.toInt64 x1)) (b := (0 : Int64)) (c := (1 : Int64))) ?_
  intro v1 hvv1 hRv1
  have hRv1 : (v1 = true → (0 : Int64).toInt ≤ (Int32.toInt64 x1).toInt ∧ (Int32.toInt64 x1).toInt ≤ (1 : Int64).toInt) ∧ (v1 = false → (Int32.toInt64 x1).toInt < (0 : Int64).toInt ∨ (1 : Int64).toInt < (Int32.toInt64 x1).toInt) := hRv1
  refine S1.ite (fun hc2 => ?_) (fun hc2 => ?_)
  · skip
    have chc2 := hRv1.1 hc2
    exact (s_173_19 x1 g hI 300 (0 : Int64) (0 : Int32) (by omega))
  · skip
    have chc2 := hRv1.2 hc2
    exact S1.ret (show True ∧ True from ⟨trivial, trivial⟩)
/-- EveningFirst.luck -/
theorem s_78 (x1 : Int32) (x2 : Int32) (x3 : Int32) (x4 : Int32) (g : G) (hI : Inv g) (hp : True) : S1 (d_78 x1 x2 x3 x4 g) (fun q : Int64 × G => Inv q.2 ∧ True) := by
  unfold d_78
  have Lm1 := zl_m1
  have yp3 : 0 ≤ (g 1 1).toInt ∧ (g 1 1).toInt ≤ 4 := Inv.rd (r := 1) (c := 2) hI 1 rfl
  refine S1.lc (s_96 x1 x2 x3 g hI trivial) ?_
  intro v1 hvv1 hRv1
  have hRv1 : True ∧ True ∧ (v1 = true → True) ∧ (v1 = false → 0 ≤ x1.toInt ∧ x1.toInt < (g 1 1).toInt) := hRv1
  have y1 : 0 ≤ (g 1 1).toInt ∧ (g 1 1).toInt ≤ 4 := Inv.rd (r := 1) (c := 2) hI 1 rfl
  refine S1.ite (fun hc2 => ?_) (fun hc2 => ?_)
  · skip
    have chc2 := hRv1.2.2.1 hc2
    exact S1.ret (show Inv g ∧ True from ⟨hI, trivial⟩)
  · skip
    have chc2 := hRv1.2.2.2 hc2
    refine S1.lt ?_
    intro v3 hvv3
    refine S1.ite (fun hc4 => ?_) (fun hc4 => ?_)
    · skip
      exact S1.ret (show Inv g ∧ True from ⟨hI, trivial⟩)
    · skip
      refine S1.bp (s_102 x1 x2 x3 g hI (by omega)) ?_
      intro v5 g6 hvv5 hRv5
      have hRv5 : Inv g6 ∧ True := hRv5
      have y2 : 0 ≤ (g6 1 1).toInt ∧ (g6 1 1).toInt ≤ 4 := Inv.rd (r := 1) (c := 2) hRv5.1 1 rfl
      refine S1.bd (s_104 v5 x4 g6 hRv5.1 trivial) ?_
      intro v7 hvv7 hRv7
      have hRv7 : True ∧ True := hRv7
      exact S1.ret (show Inv g6 ∧ True from ⟨hRv5.1, trivial⟩)
theorem s_174_44 (x1 : Int32) (x2 : Int32) (x3 : Int32) (x4 : Int32) (g : G) (hI : Inv g) : ∀ (f : Nat) (x5 : Int64) (x7 : Int32), 0 ≤ x7.toInt ∧ x7.toInt ≤ 256 ∧ 256 - x7.toInt < (f : Int) ∧ 0 ≤ x1.toInt ∧ x1.toInt ≤ 3 ∧ 0 ≤ x3.toInt ∧ x3.toInt ≤ 7 → S1 (d_174_44 x1 x2 x3 x4 g f x5 x7) (fun q : Int64 => True ∧ True) := by
  intro f
  induction f with
  | zero =>
    intro x5 x7 hp
    exfalso
    omega
  | succ f ih =>
    intro x5 x7 hp
    rw [d_174_44.eq_2]
    have L0 := zl_0
    have L1 := zl_1
    have L31 := zl_31
    refine S1.lc (s_158 g hI trivial) ?_
    intro v9 hvv9 hRv9
    have hRv9 : True ∧ (0 ≤ v9.toInt ∧ v9.toInt ≤ 255) := hRv9
    refine S1.ite (fun hc10 => ?_) (fun hc10 => ?_)
    · skip
      have chc10 := zc_gtT hc10
      refine S1.bd (s_172 x5 x4 g hI trivial) ?_
      intro v11 hvv11 hRv11
      have hRv11 : True ∧ True := hRv11
      exact S1.ret (show True ∧ True from ⟨trivial, trivial⟩)
    · skip
      have chc10 := zc_gtF hc10
      refine S1.bd (s_152 x7 g hI trivial) ?_
      intro v12 hvv12 hRv12
      have hRv12 : True ∧ True ∧ (v12 = true → True) ∧ (v12 = false → True) := hRv12
      refine S1.ite (fun hc13 => ?_) (fun hc13 => ?_)
      · skip
        have chc13 := hRv12.2.2.1 hc13
        refine S1.bd (s_150 x1 x3 x7 g hI (by omega)) ?_
        intro v14 hvv14 hRv14
        have hRv14 : True ∧ True := hRv14
        try have y1 := zi_and (x := x2) (y := (31 : Int32)) (by omega)
        try have y2 := zi_and (x := (v14 >>> (x2 &&& 31))) (y := (1 : Int32)) (by omega)
        refine S1.ite (fun hc15 => ?_) (fun hc15 => ?_)
        · skip
          have chc15 := zc_neT hc15
          try have y3 := zj_add (x := x5) (y := (0 : Int64)) (by omega) (by omega)
          try have y4 := zi_add (x := x7) (y := (1 : Int32)) (by omega) (by omega)
          exact (ih (x5 + 0) (x7 + 1) (by omega))
        · skip
          have chc15 := zc_neF hc15
          refine S1.bd (s_171 x7 g hI trivial) ?_
          intro v16 hvv16 hRv16
          have hRv16 : True ∧ True := hRv16
          try have y5 := zj_add (x := x5) (y := v16) (by omega) (by omega)
          try have y6 := zi_add (x := x7) (y := (1 : Int32)) (by omega) (by omega)
          exact (ih (x5 + v16) (x7 + 1) (by omega))
      · skip
        have chc13 := hRv12.2.2.2 hc13
        try have y7 := zj_add (x := x5) (y := (0 : Int64)) (by omega) (by omega)
        try have y8 := zi_add (x := x7) (y := (1 : Int32)) (by omega) (by omega)
        exact (ih (x5 + 0) (x7 + 1) (by omega))
/-- EveningFirstModel.luck -/
theorem s_174 (x1 : Int32) (x2 : Int32) (x3 : Int32) (x4 : Int32) (g : G) (hI : Inv g) (hp : True) : S1 (d_174 x1 x2 x3 x4 g) (fun q : Int64 => True ∧ True) := by
  unfold d_174
  have Lm1 := zl_m1
  have L0 := zl_0
  have L1 := zl_1
  have yp14 : 0 ≤ (g 113 2).toInt ∧ (g 113 2).toInt ≤ 8 := Inv.rd (r := 113) (c := 8) hI 2 rfl
  have yp15 : 0 ≤ (g 113 3).toInt ∧ (g 113 3).toInt ≤ 4 := Inv.rd (r := 113) (c := 8) hI 3 rfl
  refine S1.lc (s_131 x1 g hI trivial) ?_
  intro v1 hvv1 hRv1
  have hRv1 : True ∧ True ∧ (v1 = true → 0 ≤ x1.toInt ∧ x1.toInt < (g 113 3).toInt) ∧ (v1 = false → True) := hRv1
  have y9 : 0 ≤ (g 113 3).toInt ∧ (g 113 3).toInt ≤ 4 := Inv.rd (r := 113) (c := 8) hI 3 rfl
  refine S1.ite (fun hc2 => ?_) (fun hc2 => ?_)
  · skip
    have chc2 := hRv1.2.2.1 hc2
    refine S1.lt ?_
    intro v3 hvv3
    refine S1.ite (fun hc4 => ?_) (fun hc4 => ?_)
    · skip
      refine S1.lc (s_133 x3 g hI trivial) ?_
      intro v5 hvv5 hRv5
      have hRv5 : True ∧ True ∧ (v5 = true → 0 ≤ x3.toInt ∧ x3.toInt < (g 113 2).toInt) ∧ (v5 = false → True) := hRv5
      have y10 : 0 ≤ (g 113 2).toInt ∧ (g 113 2).toInt ≤ 8 := Inv.rd (r := 113) (c := 8) hI 2 rfl
      refine S1.ite (fun hc6 => ?_) (fun hc6 => ?_)
      · skip
        have chc6 := hRv5.2.2.1 hc6
        have y11 := zi_i64 x4
        have y12 : (0 : Int64).toInt = 0 := by decide
        have y13 : (1 : Int64).toInt = 1 := by decide
        refine S1.lc (zin_c (a := (Int32.toInt64 x4)) (b := (0 : Int64)) (c := (1 : Int64))) ?_
        intro v7 hvv7 hRv7
        have hRv7 : (v7 = true → (0 : Int64).toInt ≤ (Int32.toInt64 x4).toInt ∧ (Int32.toInt64 x4).toInt ≤ (1 : Int64).toInt) ∧ (v7 = false → (Int32.toInt64 x4).toInt < (0 : Int64).toInt ∨ (1 : Int64).toInt < (Int32.toInt64 x4).toInt) := hRv7
        refine S1.ite (fun hc8 => ?_) (fun hc8 => ?_)
        · skip
          have chc8 := hRv7.1 hc8
          exact (s_174_44 x1 x2 x3 x4 g hI 300 (0 : Int64) (0 : Int32) (by omega))
        · skip
          have chc8 := hRv7.2 hc8
          exact S1.ret (show True ∧ True from ⟨trivial, trivial⟩)
      · skip
        have chc6 := hRv5.2.2.2 hc6
        exact S1.ret (show True ∧ True from ⟨trivial, trivial⟩)
    · skip
      exact S1.ret (show True ∧ True from ⟨trivial, trivial⟩)
  · skip
    have chc2 := hRv1.2.2.2 hc2
    exact S1.ret (show True ∧ True from ⟨trivial, trivial⟩)
/-- EveningFirst.see -/
theorem s_79 (x1 : Int32) (x2 : Int32) (x3 : Int32) (x4 : Int32) (g : G) (hI : Inv g) (hp : 0 ≤ x4.toInt ∧ x4.toInt ≤ 1) : S1 (d_79 x1 x2 x3 x4 g) (fun q : Int32 × G => Inv q.2 ∧ True) := by
  unfold d_79
  have Lm3 := zl_m3
  have Lm1 := zl_m1
  have L1 := zl_1
  have L8 := zl_8
  have yp16 : 0 ≤ (g 1 1).toInt ∧ (g 1 1).toInt ≤ 4 := Inv.rd (r := 1) (c := 2) hI 1 rfl
  have yp17 : 0 ≤ (g 1 3).toInt ∧ (g 1 3).toInt ≤ 8 := Inv.rd (r := 1) (c := 2) hI 3 rfl
  refine S1.lc (s_96 x1 x2 x3 g hI trivial) ?_
  intro v1 hvv1 hRv1
  have hRv1 : True ∧ True ∧ (v1 = true → True) ∧ (v1 = false → 0 ≤ x1.toInt ∧ x1.toInt < (g 1 1).toInt) := hRv1
  have y1 : 0 ≤ (g 1 1).toInt ∧ (g 1 1).toInt ≤ 4 := Inv.rd (r := 1) (c := 2) hI 1 rfl
  refine S1.ite (fun hc2 => ?_) (fun hc2 => ?_)
  · skip
    have chc2 := hRv1.2.2.1 hc2
    exact S1.ret (show Inv g ∧ True from ⟨hI, trivial⟩)
  · skip
    have chc2 := hRv1.2.2.2 hc2
    have y2 : 0 ≤ (g 1 3).toInt ∧ (g 1 3).toInt ≤ 8 := Inv.rd (r := 1) (c := 2) hI 3 rfl
    refine S1.ite (fun hc3 => ?_) (fun hc3 => ?_)
    · skip
      have chc3 := zc_ltT hc3
      refine S1.ix (by omega) ?_
      intro k4 hk4 bk4
      refine S1.lt ?_
      intro g5 hg5
      have Ig5 : Inv g5 := Inv.up hI hg5 (zg_seen (b := 1) rfl hk4) (show 0 ≤ x1.toInt ∧ x1.toInt ≤ 3 by omega)
      have u3 : (g5 1 1).toInt = (g 1 1).toInt := zg_upc hg5 (zg_seen (b := 1) rfl hk4) (by decide)
      have u4 : (g5 1 3).toInt = (g 1 3).toInt := zg_upc hg5 (zg_seen (b := 1) rfl hk4) (by decide)
      refine S1.lt ?_
      intro g6 hg6
      have Ig6 : Inv g6 := Inv.up Ig5 hg6 (zg_seen (b := 1) rfl hk4) trivial
      have u5 : (g6 1 1).toInt = (g5 1 1).toInt := zg_upc hg6 (zg_seen (b := 1) rfl hk4) (by decide)
      have u6 : (g6 1 3).toInt = (g5 1 3).toInt := zg_upc hg6 (zg_seen (b := 1) rfl hk4) (by decide)
      refine S1.lt ?_
      intro g7 hg7
      have Ig7 : Inv g7 := Inv.up Ig6 hg7 (zg_seen (b := 1) rfl hk4) trivial
      have u7 : (g7 1 1).toInt = (g6 1 1).toInt := zg_upc hg7 (zg_seen (b := 1) rfl hk4) (by decide)
      have u8 : (g7 1 3).toInt = (g6 1 3).toInt := zg_upc hg7 (zg_seen (b := 1) rfl hk4) (by decide)
      refine S1.nd (by omega) ?_
      refine S1.lt ?_
      intro g8 hg8
      have Ig8 : Inv g8 := Inv.up Ig7 hg8 (zg_seen (b := 1) rfl hk4) (show 0 ≤ x4.toInt ∧ x4.toInt ≤ 1 by omega)
      have u9 : (g8 1 1).toInt = (g7 1 1).toInt := zg_upc hg8 (zg_seen (b := 1) rfl hk4) (by decide)
      have u10 : (g8 1 3).toInt = (g7 1 3).toInt := zg_upc hg8 (zg_seen (b := 1) rfl hk4) (by decide)
      have y11 : 0 ≤ (g8 1 3).toInt ∧ (g8 1 3).toInt ≤ 8 := Inv.rd (r := 1) (c := 2) Ig8 3 rfl
      try have y12 := zi_add (x := (g8 1 3)) (y := (1 : Int32)) (by omega) (by omega)
      refine S1.lt ?_
      intro g10 hg10
      have Ig10 : Inv g10 := Inv.up Ig8 hg10 rfl (show 0 ≤ ((g8 1 3) + 1).toInt ∧ ((g8 1 3) + 1).toInt ≤ 8 by omega)
      have u13 : (g10 1 1).toInt = (g8 1 1).toInt := by rw [← hg10]; rfl
      have u14 : (g10 1 3).toInt = ((g8 1 3) + 1).toInt := by rw [← hg10]; rfl
      have y15 : 0 ≤ (g10 1 3).toInt ∧ (g10 1 3).toInt ≤ 8 := Inv.rd (r := 1) (c := 2) Ig10 3 rfl
      exact S1.ret (show Inv g10 ∧ True from ⟨Ig10, trivial⟩)
    · skip
      have chc3 := zc_ltF hc3
      exact S1.ret (show Inv g ∧ True from ⟨hI, trivial⟩)
/-- EveningFirstModel.see -/
theorem s_175 (x1 : Int32) (x2 : Int32) (x3 : Int32) (x4 : Int32) (g : G) (hI : Inv g) (hp : True) : S1 (d_175 x1 x2 x3 x4 g) (fun q : Int32 × G => Inv q.2 ∧ True) := by
  unfold d_175
  have Lm3 := zl_m3
  have Lm1 := zl_m1
  have L1 := zl_1
  have L2 := zl_2
  have L3 := zl_3
  have L4 := zl_4
  have L8 := zl_8
  have L66 := zl_66
  have yp27 : 0 ≤ (g 113 2).toInt ∧ (g 113 2).toInt ≤ 8 := Inv.rd (r := 113) (c := 8) hI 2 rfl
  have yp28 : 0 ≤ (g 113 3).toInt ∧ (g 113 3).toInt ≤ 4 := Inv.rd (r := 113) (c := 8) hI 3 rfl
  have yp29 := hI.m65
  refine S1.lc (s_131 x1 g hI trivial) ?_
  intro v1 hvv1 hRv1
  have hRv1 : True ∧ True ∧ (v1 = true → 0 ≤ x1.toInt ∧ x1.toInt < (g 113 3).toInt) ∧ (v1 = false → True) := hRv1
  have y1 : 0 ≤ (g 113 3).toInt ∧ (g 113 3).toInt ≤ 4 := Inv.rd (r := 113) (c := 8) hI 3 rfl
  refine S1.ite (fun hc2 => ?_) (fun hc2 => ?_)
  · skip
    have chc2 := hRv1.2.2.1 hc2
    refine S1.lt ?_
    intro v3 hvv3
    refine S1.ite (fun hc4 => ?_) (fun hc4 => ?_)
    · skip
      refine S1.lc (s_133 x3 g hI trivial) ?_
      intro v5 hvv5 hRv5
      have hRv5 : True ∧ True ∧ (v5 = true → 0 ≤ x3.toInt ∧ x3.toInt < (g 113 2).toInt) ∧ (v5 = false → True) := hRv5
      have y2 : 0 ≤ (g 113 2).toInt ∧ (g 113 2).toInt ≤ 8 := Inv.rd (r := 113) (c := 8) hI 2 rfl
      refine S1.ite (fun hc6 => ?_) (fun hc6 => ?_)
      · skip
        have chc6 := hRv5.2.2.1 hc6
        have y3 := hI.m65
        refine S1.ite (fun hc7 => ?_) (fun hc7 => ?_)
        · skip
          have chc7 := zc_neT hc7
          try have y4 := zi_mul (x := (4 : Int32)) (y := (g 114 65)) (n := 4) (by decide) (by omega) (by omega)
          try have y5 := zi_add (x := (66 : Int32)) (y := (4 * (g 114 65))) (by omega) (by omega)
          refine S1.ix (by omega) ?_
          intro k9 hk9 bk9
          refine S1.lt ?_
          intro g8 hg8
          have Ig8 : Inv g8 := Inv.up hI hg8 rfl (bdP_st (by omega) ((stP_s (d := (g 114 65).toInt) (o := 0) (by omega) (by omega) (by omega)).mpr ⟨fun w => by omega, fun w => by omega⟩))
          have u6 : (g8 113 2).toInt = (g 113 2).toInt := by rw [← hg8]; rfl
          have u7 : (g8 113 3).toInt = (g 113 3).toInt := by rw [← hg8]; rfl
          try have u8 : (g8 114 65).toInt = (g 114 65).toInt := zg_upk hg8 (by omega)
          try have y9 := zi_add (x := (66 + (4 * (g 114 65)))) (y := (1 : Int32)) (by omega) (by omega)
          refine S1.ix (by omega) ?_
          intro k11 hk11 bk11
          refine S1.lt ?_
          intro g10 hg10
          have Ig10 : Inv g10 := Inv.up Ig8 hg10 rfl (bdP_st (by omega) ((stP_s (d := (g 114 65).toInt) (o := 1) (by omega) (by omega) (by omega)).mpr ⟨fun w => by omega, fun w => by omega⟩))
          have u10 : (g10 113 2).toInt = (g8 113 2).toInt := by rw [← hg10]; rfl
          have u11 : (g10 113 3).toInt = (g8 113 3).toInt := by rw [← hg10]; rfl
          try have u12 : (g10 114 65).toInt = (g8 114 65).toInt := zg_upk hg10 (by omega)
          try have y13 := zi_add (x := (66 + (4 * (g 114 65)))) (y := (2 : Int32)) (by omega) (by omega)
          refine S1.ix (by omega) ?_
          intro k13 hk13 bk13
          refine S1.lt ?_
          intro g12 hg12
          have Ig12 : Inv g12 := Inv.up Ig10 hg12 rfl (bdP_st (by omega) ((stP_s (d := (g 114 65).toInt) (o := 2) (by omega) (by omega) (by omega)).mpr ⟨fun w => by omega, fun w => by omega⟩))
          have u14 : (g12 113 2).toInt = (g10 113 2).toInt := by rw [← hg12]; rfl
          have u15 : (g12 113 3).toInt = (g10 113 3).toInt := by rw [← hg12]; rfl
          try have u16 : (g12 114 65).toInt = (g10 114 65).toInt := zg_upk hg12 (by omega)
          refine S1.lt ?_
          intro v14 hvv14
          try have y17 := zi_add (x := (66 + (4 * (g 114 65)))) (y := (3 : Int32)) (by omega) (by omega)
          refine S1.ix (by omega) ?_
          intro k16 hk16 bk16
          refine S1.lt ?_
          intro g15 hg15
          have Ig15 : Inv g15 := Inv.up Ig12 hg15 rfl (bdP_st (by omega) ((stP_s (d := (g 114 65).toInt) (o := 3) (by omega) (by omega) (by omega)).mpr ⟨fun w => by omega, fun w => by omega⟩))
          have u18 : (g15 113 2).toInt = (g12 113 2).toInt := by rw [← hg15]; rfl
          have u19 : (g15 113 3).toInt = (g12 113 3).toInt := by rw [← hg15]; rfl
          try have u20 : (g15 114 65).toInt = (g12 114 65).toInt := zg_upk hg15 (by omega)
          have y21 := Ig15.m65
          try have y22 := zi_add (x := (g15 114 65)) (y := (1 : Int32)) (by omega) (by omega)
          refine S1.lt ?_
          intro g17 hg17
          have Ig17 : Inv g17 := Inv.up Ig15 hg17 rfl (bdP_st (by omega) ((stP_m (by omega)).mpr (by omega)))
          have u23 : (g17 113 2).toInt = (g15 113 2).toInt := by rw [← hg17]; rfl
          have u24 : (g17 113 3).toInt = (g15 113 3).toInt := by rw [← hg17]; rfl
          have u25 : (g17 114 65).toInt = ((g15 114 65) + 1).toInt := by rw [← hg17]; rfl
          have y26 := Ig17.m65
          exact S1.ret (show Inv g17 ∧ True from ⟨Ig17, trivial⟩)
        · skip
          have chc7 := zc_neF hc7
          exact S1.ret (show Inv g ∧ True from ⟨hI, trivial⟩)
      · skip
        have chc6 := hRv5.2.2.2 hc6
        exact S1.ret (show Inv g ∧ True from ⟨hI, trivial⟩)
    · skip
      exact S1.ret (show Inv g ∧ True from ⟨hI, trivial⟩)
  · skip
    have chc2 := hRv1.2.2.2 hc2
    exact S1.ret (show Inv g ∧ True from ⟨hI, trivial⟩)
/-- EveningFirst.forget -/
theorem s_80 (x1 : Int32) (g : G) (hI : Inv g) (hp : True) : T1 (d_80 x1 g) (fun q : Int32 × G => Inv q.2 ∧ True) := by
  unfold d_80
  have Lm1 := zl_m1
  have L0 := zl_0
  have yp3 : 0 ≤ (g 1 3).toInt ∧ (g 1 3).toInt ≤ 8 := Inv.rd (r := 1) (c := 2) hI 3 rfl
  refine T1.ite (fun hc1 => ?_) (fun hc1 => ?_)
  · skip
    have chc1 := zc_ltT hc1
    exact T1.ret (show Inv g ∧ True from ⟨hI, trivial⟩)
  · skip
    have chc1 := zc_ltF hc1
    have y1 : 0 ≤ (g 1 3).toInt ∧ (g 1 3).toInt ≤ 8 := Inv.rd (r := 1) (c := 2) hI 3 rfl
    refine T1.ite (fun hc2 => ?_) (fun hc2 => ?_)
    · skip
      have chc2 := zc_leT hc2
      refine T1.lt ?_
      intro g3 hg3
      have Ig3 : Inv g3 := Inv.up hI hg3 rfl (show 0 ≤ x1.toInt ∧ x1.toInt ≤ 8 by omega)
      have u2 : (g3 1 3).toInt = x1.toInt := by rw [← hg3]; rfl
      exact T1.ret (show Inv g3 ∧ True from ⟨Ig3, trivial⟩)
    · skip
      have chc2 := zc_leF hc2
      exact T1.ret (show Inv g ∧ True from ⟨hI, trivial⟩)
/-- EveningFirstModel.forget -/
theorem s_176 (x1 : Int32) (g : G) (hI : Inv g) (hp : True) : S1 (d_176 x1 g) (fun q : Int32 × G => Inv q.2 ∧ True) := by
  unfold d_176
  have Lm1 := zl_m1
  have L0 := zl_0
  have L65 := zl_65
  have yp6 := hI.m65
  have y1 := zi_i64 x1
  have y2 := hI.m65
  have y3 := zi_i64 (g 114 65)
  have y4 : (0 : Int64).toInt = 0 := by decide
  refine S1.lc (zin_c (a := (Int32.toInt64 x1)) (b := (0 : Int64)) (c := (Int32.toInt64 (g 114 65)))) ?_
  intro v1 hvv1 hRv1
  have hRv1 : (v1 = true → (0 : Int64).toInt ≤ (Int32.toInt64 x1).toInt ∧ (Int32.toInt64 x1).toInt ≤ (Int32.toInt64 (g 114 65)).toInt) ∧ (v1 = false → (Int32.toInt64 x1).toInt < (0 : Int64).toInt ∨ (Int32.toInt64 (g 114 65)).toInt < (Int32.toInt64 x1).toInt) := hRv1
  refine S1.ite (fun hc2 => ?_) (fun hc2 => ?_)
  · skip
    have chc2 := hRv1.1 hc2
    refine S1.bp (s_142 (65 : Int32) x1 g hI ⟨by omega, by omega, ((stP_m (by omega)).mpr (by omega))⟩) ?_
    intro v3 g4 hvv3 hRv3
    have hRv3 : Inv g4 ∧ (stP (65 : Int32).toInt.toNat v3.toInt) := hRv3
    have y5 := hRv3.1.m65
    exact S1.ret (show Inv g4 ∧ True from ⟨hRv3.1, trivial⟩)
  · skip
    have chc2 := hRv1.2 hc2
    exact S1.ret (show Inv g ∧ True from ⟨hI, trivial⟩)
theorem s_25_4 (r0 : Nat) (h0 : zg_cl r0 = 2) (g : G) (hI : Inv g) : ∀ (f : Nat) (x1 : Int32) (x2 : Int32), 0 ≤ x2.toInt ∧ x2.toInt ≤ 4 ∧ 4 - x2.toInt < (f : Int) ∧ (x2.toInt = 0 ∧ x1.toInt = 1 ∨ x2.toInt = 1 ∧ x1.toInt = 3 ∨ x2.toInt = 2 ∧ x1.toInt = 9 ∨ x2.toInt = 3 ∧ x1.toInt = 27 ∨ x2.toInt = 4 ∧ x1.toInt = 81) → S1 (d_25_4 r0 g f x1 x2) (fun q : Int32 => True ∧ (1 ≤ q.toInt ∧ q.toInt ≤ 81)) := by
  intro f
  induction f with
  | zero =>
    intro x1 x2 hp
    exfalso
    omega
  | succ f ih =>
    intro x1 x2 hp
    rw [d_25_4.eq_2]
    have L1 := zl_1
    have L3 := zl_3
    have y1 : 0 ≤ (g r0 1).toInt ∧ (g r0 1).toInt ≤ 4 := Inv.rd (r := r0) (c := 2) hI 1 h0
    refine S1.ite (fun hc1 => ?_) (fun hc1 => ?_)
    · skip
      have chc1 := zc_geT hc1
      exact S1.ret (show True ∧ (1 ≤ x1.toInt ∧ x1.toInt ≤ 81) from ⟨trivial, (by omega)⟩)
    · skip
      have chc1 := zc_geF hc1
      try have y2 := zi_mulr (x := x1) (y := (3 : Int32)) (n := 3) (by decide) (by omega) (by omega)
      try have y3 := zi_add (x := x2) (y := (1 : Int32)) (by omega) (by omega)
      exact (ih (x1 * 3) (x2 + 1) (by omega))
/-- EveningFirst$Family.wayCodes -/
theorem s_25 (r0 : Nat) (h0 : zg_cl r0 = 2) (g : G) (hI : Inv g) (hp : True) : S1 (d_25 r0 g) (fun q : Int32 => True ∧ (1 ≤ q.toInt ∧ q.toInt ≤ 81)) := by
  unfold d_25
  have L0 := zl_0
  have L1 := zl_1
  exact (s_25_4 r0 h0 g hI 300 (1 : Int32) (0 : Int32) (by omega))
theorem s_26_4 (r0 : Nat) (h0 : zg_cl r0 = 2) : ∀ (f : Nat) (x2 : Int32) (x3 : Int32) (g : G), Inv g → 0 ≤ x3.toInt ∧ x3.toInt ≤ 4 ∧ 4 - x3.toInt < (f : Int) → S1 (d_26_4 r0 f x2 x3 g) (fun q : G => Inv q ∧ True) := by
  intro f
  induction f with
  | zero =>
    intro x2 x3 g hI hp
    exfalso
    omega
  | succ f ih =>
    intro x2 x3 g hI hp
    rw [d_26_4.eq_2]
    have L1 := zl_1
    have L3 := zl_3
    have y1 : 0 ≤ (g r0 1).toInt ∧ (g r0 1).toInt ≤ 4 := Inv.rd (r := r0) (c := 2) hI 1 h0
    refine S1.ite (fun hc1 => ?_) (fun hc1 => ?_)
    · skip
      have chc1 := zc_geT hc1
      exact S1.ret (show Inv g ∧ True from ⟨hI, trivial⟩)
    · skip
      have chc1 := zc_geF hc1
      refine S1.ix (by omega) ?_
      intro k2 hk2 bk2
      try have y2 := zi_rem (x := x2) (y := (3 : Int32)) (by omega) (by omega)
      refine S1.lt ?_
      intro g3 hg3
      have Ig3 : Inv g3 := Inv.up hI hg3 (zg_one (b := r0) h0 hk2) trivial
      try have y3 := zi_add (x := x3) (y := (1 : Int32)) (by omega) (by omega)
      exact (ih (x2 / 3) (x3 + 1) g3 Ig3 (by omega))
/-- EveningFirst$Family.goBy -/
theorem s_26 (r0 : Nat) (x1 : Int32) (h0 : zg_cl r0 = 2) (g : G) (hI : Inv g) (hp : True) : S1 (d_26 r0 x1 g) (fun q : G => Inv q ∧ True) := by
  unfold d_26
  have L0 := zl_0
  exact (s_26_4 r0 h0 300 x1 (0 : Int32) g hI (by omega))
theorem s_101_25 (r1 : Nat) (x2 : Int32) (h1 : zg_cl r1 = 2) (g : G) (hI : Inv g) : ∀ (f : Nat) (x3 : Int32), 0 ≤ x3.toInt ∧ x3.toInt ≤ 8 ∧ 8 - x3.toInt < (f : Int) → S1 (d_101_25 r1 x2 g f x3) (fun q : Bool × G => Inv q.2 ∧ True ∧ (q.1 = true → True) ∧ (q.1 = false → True)) := by
  intro f
  induction f with
  | zero =>
    intro x3 hp
    exfalso
    omega
  | succ f ih =>
    intro x3 hp
    rw [d_101_25.eq_2]
    have L1 := zl_1
    have y1 : 0 ≤ (g r1 3).toInt ∧ (g r1 3).toInt ≤ 8 := Inv.rd (r := r1) (c := 2) hI 3 h1
    refine S1.ite (fun hc3 => ?_) (fun hc3 => ?_)
    · skip
      have chc3 := zc_geT hc3
      exact S1.ret (show Inv g ∧ True ∧ (true = true → True) ∧ (true = false → True) from ⟨hI, trivial, (fun _ => trivial), (fun _ => trivial)⟩)
    · skip
      have chc3 := zc_geF hc3
      refine S1.ix (by omega) ?_
      intro k4 hk4 bk4
      have y2 : 0 ≤ (g (r1 + 16 + k4) 0).toInt ∧ (g (r1 + 16 + k4) 0).toInt ≤ 3 := Inv.rd (r := (r1 + 16 + k4)) (c := 6) hI 0 (zg_seen (b := r1) h1 hk4)
      refine S1.bd (s_24 r1 (g (r1 + 16 + k4) 0) (g (r1 + 16 + k4) 2) x2 h1 g hI (by omega)) ?_
      intro v5 hvv5 hRv5
      have hRv5 : True ∧ True := hRv5
      refine S1.lt ?_
      intro v6 hvv6
      have y3 := zi_b v6
      have y4 : 0 ≤ (g (r1 + 16 + k4) 3).toInt ∧ (g (r1 + 16 + k4) 3).toInt ≤ 1 := Inv.rd (r := (r1 + 16 + k4)) (c := 6) hI 3 (zg_seen (b := r1) h1 hk4)
      refine S1.ite (fun hc7 => ?_) (fun hc7 => ?_)
      · skip
        have chc7 := zc_eqT hc7
        try have y5 := zi_add (x := x3) (y := (1 : Int32)) (by omega) (by omega)
        exact (ih (x3 + 1) (by omega))
      · skip
        have chc7 := zc_eqF hc7
        exact S1.ret (show Inv g ∧ True ∧ (false = true → True) ∧ (false = false → True) from ⟨hI, trivial, (fun _ => trivial), (fun _ => trivial)⟩)
/-- EveningFirst.isFit -/
theorem s_101 (r1 : Nat) (h1 : zg_cl r1 = 2) (g : G) (hI : Inv g) (hp : True) : S1 (d_101 r1 g) (fun q : Bool × G => Inv q.2 ∧ True ∧ (q.1 = true → True) ∧ (q.1 = false → True)) := by
  unfold d_101
  have L0 := zl_0
  refine S1.bd (s_2 r1 h1 g hI trivial) ?_
  intro g1 hvg1 hRg1
  have hRg1 : Inv g1 ∧ True := hRg1
  refine S1.bd (s_8 (g1 25 2) g1 hRg1.1 trivial) ?_
  intro v2 hvv2 hRv2
  have hRv2 : True ∧ True := hRv2
  exact (s_101_25 r1 v2 h1 g1 hRg1.1 300 (0 : Int32) (by omega))
theorem s_81_73 (x1 : Int32) (x2 : Int32) (x6 : Int32) : ∀ (f : Nat) (x3 : Int32) (x4 : Int32) (x5 : Int32) (x7 : Int32) (g : G), Inv g → 0 ≤ x7.toInt ∧ x7.toInt ≤ 81 ∧ x6.toInt ≤ 81 ∧ 81 - x7.toInt < (f : Int) ∧ (x2.toInt = 0 ∨ 10 ≤ x1.toInt ∧ x1.toInt ≤ 13) → S1 (d_81_73 x1 x2 x6 f x3 x4 x5 x7 g) (fun q : Int32 × G => Inv q.2 ∧ True) := by
  intro f
  induction f with
  | zero =>
    intro x3 x4 x5 x7 g hI hp
    exfalso
    omega
  | succ f ih =>
    intro x3 x4 x5 x7 g hI hp
    rw [d_81_73.eq_2]
    have L0 := zl_0
    have L1 := zl_1
    have L10 := zl_10
    have L31 := zl_31
    refine S1.ite (fun hc5 => ?_) (fun hc5 => ?_)
    · skip
      have chc5 := zc_geT hc5
      refine S1.ite (fun hc6 => ?_) (fun hc6 => ?_)
      · skip
        have chc6 := zc_neT hc6
        refine S1.ite (fun hc7 => ?_) (fun hc7 => ?_)
        · skip
          have chc7 := zc_neT hc7
          exact S1.ret (show Inv g ∧ True from ⟨hI, trivial⟩)
        · skip
          have chc7 := zc_neF hc7
          exact S1.ret (show Inv g ∧ True from ⟨hI, trivial⟩)
      · skip
        have chc6 := zc_neF hc6
        exact S1.ret (show Inv g ∧ True from ⟨hI, trivial⟩)
    · skip
      have chc5 := zc_geF hc5
      refine S1.bd (s_26 30 x7 rfl g hI trivial) ?_
      intro g8 hvg8 hRg8
      have hRg8 : Inv g8 ∧ True := hRg8
      refine S1.bp (s_101 30 rfl g8 hRg8.1 trivial) ?_
      intro v9 g10 hvv9 hRv9
      have hRv9 : Inv g10 ∧ True ∧ (v9 = true → True) ∧ (v9 = false → True) := hRv9
      refine S1.ite (fun hc11 => ?_) (fun hc11 => ?_)
      · skip
        have chc11 := hRv9.2.2.1 hc11
        refine S1.ite (fun hc12 => ?_) (fun hc12 => ?_)
        · skip
          have chc12 := zc_neT hc12
          refine S1.ite (fun hc13 => ?_) (fun hc13 => ?_)
          · skip
            have chc13 := zc_eqT hc13
            try have y1 := zi_add (x := x3) (y := (1 : Int32)) (by omega) (by omega)
            try have y2 := zi_add (x := x7) (y := (1 : Int32)) (by omega) (by omega)
            exact (ih (x3 + 1) x4 x5 (x7 + 1) g10 hRv9.1 (by omega))
          · skip
            have chc13 := zc_eqF hc13
            try have y3 := zi_sub (x := x1) (y := (10 : Int32)) (by omega) (by omega)
            refine S1.ix (by omega) ?_
            intro k14 hk14 bk14
            try have y4 := zi_add (x := x3) (y := (1 : Int32)) (by omega) (by omega)
            try have y5 := zi_and (x := (g10 (34 + k14) 0)) (y := (31 : Int32)) (by omega)
            try have y6 := zi_shl1 (x := (g10 (34 + k14) 0)) (by omega)
            try have y7 := zi_add (x := x7) (y := (1 : Int32)) (by omega) (by omega)
            exact (ih (x3 + 1) x4 (x5 ||| ((1 : Int32) <<< ((g10 (34 + k14) 0) &&& 31))) (x7 + 1) g10 hRv9.1 (by omega))
        · skip
          have chc12 := zc_neF hc12
          refine S1.ite (fun hc15 => ?_) (fun hc15 => ?_)
          · skip
            have chc15 := zc_eqT hc15
            try have y8 := zi_add (x := x3) (y := (1 : Int32)) (by omega) (by omega)
            try have y9 := zi_add (x := x7) (y := (1 : Int32)) (by omega) (by omega)
            exact (ih (x3 + 1) x7 x5 (x7 + 1) g10 hRv9.1 (by omega))
          · skip
            have chc15 := zc_eqF hc15
            try have y10 := zi_sub (x := x1) (y := (10 : Int32)) (by omega) (by omega)
            refine S1.ix (by omega) ?_
            intro k16 hk16 bk16
            try have y11 := zi_add (x := x3) (y := (1 : Int32)) (by omega) (by omega)
            try have y12 := zi_and (x := (g10 (34 + k16) 0)) (y := (31 : Int32)) (by omega)
            try have y13 := zi_shl1 (x := (g10 (34 + k16) 0)) (by omega)
            try have y14 := zi_add (x := x7) (y := (1 : Int32)) (by omega) (by omega)
            exact (ih (x3 + 1) x7 (x5 ||| ((1 : Int32) <<< ((g10 (34 + k16) 0) &&& 31))) (x7 + 1) g10 hRv9.1 (by omega))
      · skip
        have chc11 := hRv9.2.2.2 hc11
        try have y15 := zi_add (x := x7) (y := (1 : Int32)) (by omega) (by omega)
        exact (ih x3 x4 x5 (x7 + 1) g10 hRv9.1 (by omega))
theorem s_81_25 (x1 : Int32) (s0 : Int32) (g : G) (hI : Inv g) (hp : (s0.toInt = 0 ∨ 10 ≤ x1.toInt ∧ x1.toInt ≤ 13)) : S1 (d_81_25 x1 s0 g) (fun q : Int32 × G => Inv q.2 ∧ True) := by
  unfold d_81_25
  have Lm4 := zl_m4
  have Lm1 := zl_m1
  have L0 := zl_0
  have L1 := zl_1
  refine S1.ite (fun hc2 => ?_) (fun hc2 => ?_)
  · skip
    have chc2 := zc_eqT hc2
    refine S1.bd (s_17 30 1 rfl rfl g hI trivial) ?_
    intro g3 hvg3 hRg3
    have hRg3 : Inv g3 ∧ True := hRg3
    refine S1.bd (s_25 30 rfl g3 hRg3.1 trivial) ?_
    intro v4 hvv4 hRv4
    have hRv4 : True ∧ (1 ≤ v4.toInt ∧ v4.toInt ≤ 81) := hRv4
    exact (s_81_73 x1 s0 v4 300 (0 : Int32) (-4 : Int32) (0 : Int32) (0 : Int32) g3 hRg3.1 (by omega))
  · skip
    have chc2 := zc_eqF hc2
    refine S1.ite (fun hc17 => ?_) (fun hc17 => ?_)
    · skip
      have chc17 := zc_eqT hc17
      refine S1.bd (s_17 30 1 rfl rfl g hI trivial) ?_
      intro g18 hvg18 hRg18
      have hRg18 : Inv g18 ∧ True := hRg18
      refine S1.bd (s_25 30 rfl g18 hRg18.1 trivial) ?_
      intro v19 hvv19 hRv19
      have hRv19 : True ∧ (1 ≤ v19.toInt ∧ v19.toInt ≤ 81) := hRv19
      exact (s_81_73 x1 s0 v19 300 (0 : Int32) (-4 : Int32) (0 : Int32) (0 : Int32) g18 hRg18.1 (by omega))
    · skip
      have chc17 := zc_eqF hc17
      refine S1.ite (fun hc20 => ?_) (fun hc20 => ?_)
      · skip
        have chc20 := zc_neT hc20
        refine S1.bd (s_17 30 1 rfl rfl g hI trivial) ?_
        intro g21 hvg21 hRg21
        have hRg21 : Inv g21 ∧ True := hRg21
        refine S1.bd (s_25 30 rfl g21 hRg21.1 trivial) ?_
        intro v22 hvv22 hRv22
        have hRv22 : True ∧ (1 ≤ v22.toInt ∧ v22.toInt ≤ 81) := hRv22
        exact (s_81_73 x1 s0 v22 300 (0 : Int32) (-4 : Int32) (0 : Int32) (0 : Int32) g21 hRg21.1 (by omega))
      · skip
        have chc20 := zc_neF hc20
        exact S1.ret (show Inv g ∧ True from ⟨hI, trivial⟩)
/-- EveningFirst.ways -/
theorem s_81 (x1 : Int32) (g : G) (hI : Inv g) (hp : True) : S1 (d_81 x1 g) (fun q : Int32 × G => Inv q.2 ∧ True) := by
  unfold d_81
  have L0 := zl_0
  have L1 := zl_1
  have L10 := zl_10
  have yp18 : 0 ≤ (g 1 1).toInt ∧ (g 1 1).toInt ≤ 4 := Inv.rd (r := 1) (c := 2) hI 1 rfl
  refine S1.ite (fun hc1 => ?_) (fun hc1 => ?_)
  · skip
    have chc1 := zc_ltT hc1
    exact (s_81_25 x1 (0 : Int32) g hI (by omega))
  · skip
    have chc1 := zc_ltF hc1
    have y16 : 0 ≤ (g 1 1).toInt ∧ (g 1 1).toInt ≤ 4 := Inv.rd (r := 1) (c := 2) hI 1 rfl
    try have y17 := zi_add (x := (10 : Int32)) (y := (g 1 1)) (by omega) (by omega)
    refine S1.ite (fun hc23 => ?_) (fun hc23 => ?_)
    · skip
      have chc23 := zc_geT hc23
      exact (s_81_25 x1 (0 : Int32) g hI (by omega))
    · skip
      have chc23 := zc_geF hc23
      exact (s_81_25 x1 (1 : Int32) g hI (by omega))
