/-! printed by wip/tools/safe.py -/
/-- EveningFirst.isThing -/
theorem s_91 (x0 : Int32) (g : G) (hI : Inv g) (hp : True) : T1 (d_91 x0) (fun q : Bool => True ∧ True ∧ (q = true → 0 ≤ x0.toInt ∧ x0.toInt ≤ 5) ∧ (q = false → True)) := by
  unfold d_91
  have L0 := zl_0
  have L6 := zl_6
  refine T1.ite (fun hc1 => ?_) (fun hc1 => ?_)
  · skip
    have chc1 := zc_ltT hc1
    exact T1.ret (show True ∧ True ∧ (false = true → 0 ≤ x0.toInt ∧ x0.toInt ≤ 5) ∧ (false = false → True) from ⟨trivial, trivial, (fun w => by cases w), (fun _ => trivial)⟩)
  · skip
    have chc1 := zc_ltF hc1
    refine T1.ite (fun hc2 => ?_) (fun hc2 => ?_)
    · skip
      have chc2 := zc_geT hc2
      exact T1.ret (show True ∧ True ∧ (false = true → 0 ≤ x0.toInt ∧ x0.toInt ≤ 5) ∧ (false = false → True) from ⟨trivial, trivial, (fun w => by cases w), (fun _ => trivial)⟩)
    · skip
      have chc2 := zc_geF hc2
      exact T1.ret (show True ∧ True ∧ (true = true → 0 ≤ x0.toInt ∧ x0.toInt ≤ 5) ∧ (true = false → True) from ⟨trivial, trivial, (fun _ => by omega), (fun _ => trivial)⟩)
/-- EveningFirst.does -/
theorem s_63 (x1 : Int32) (x2 : Int32) (x3 : Int32) (x4 : Int32) (x5 : Int32) (g : G) (hI : Inv g) (hp : True) : S1 (d_63 x1 x2 x3 x4 x5 g) (fun q : Int32 × G => Inv q.2 ∧ True) := by
  unfold d_63
  have Lm3 := zl_m3
  have Lm1 := zl_m1
  have L0 := zl_0
  have L1 := zl_1
  have L8 := zl_8
  have L10 := zl_10
  have yp15 : 0 ≤ (g 1 2).toInt ∧ (g 1 2).toInt ≤ 8 := Inv.rd (r := 1) (c := 2) hI 2 rfl
  refine S1.lc (s_19 1 x1 rfl g hI trivial) ?_
  intro v1 hvv1 hRv1
  have hRv1 : True ∧ True ∧ (v1 = true → 0 ≤ x1.toInt ∧ x1.toInt < (g 1 0).toInt) ∧ (v1 = false → True) := hRv1
  have y1 : 0 ≤ (g 1 0).toInt ∧ (g 1 0).toInt ≤ 8 := Inv.rd (r := 1) (c := 2) hI 0 rfl
  refine S1.ite (fun hc2 => ?_) (fun hc2 => ?_)
  · skip
    have chc2 := hRv1.2.2.1 hc2
    refine S1.lc (s_18 1 x2 rfl g hI trivial) ?_
    intro v3 hvv3 hRv3
    have hRv3 : True ∧ True ∧ (v3 = true → 0 ≤ x2.toInt ∧ x2.toInt < (g 1 1).toInt) ∧ (v3 = false → True) := hRv3
    have y2 : 0 ≤ (g 1 1).toInt ∧ (g 1 1).toInt ≤ 4 := Inv.rd (r := 1) (c := 2) hI 1 rfl
    refine S1.ite (fun hc4 => ?_) (fun hc4 => ?_)
    · skip
      have chc4 := hRv3.2.2.1 hc4
      refine S1.lc (s_18 1 x3 rfl g hI trivial) ?_
      intro v5 hvv5 hRv5
      have hRv5 : True ∧ True ∧ (v5 = true → 0 ≤ x3.toInt ∧ x3.toInt < (g 1 1).toInt) ∧ (v5 = false → True) := hRv5
      refine S1.ite (fun hc6 => ?_) (fun hc6 => ?_)
      · skip
        have chc6 := hRv5.2.2.1 hc6
        refine S1.lc (s_91 x4 g hI trivial) ?_
        intro v7 hvv7 hRv7
        have hRv7 : True ∧ True ∧ (v7 = true → 0 ≤ x4.toInt ∧ x4.toInt ≤ 5) ∧ (v7 = false → True) := hRv7
        refine S1.ite (fun hc8 => ?_) (fun hc8 => ?_)
        · skip
          have chc8 := hRv7.2.2.1 hc8
          refine S1.lt ?_
          intro v9 hvv9
          refine S1.ite (fun hc10 => ?_) (fun hc10 => ?_)
          · skip
            have y3 : 0 ≤ (g 1 2).toInt ∧ (g 1 2).toInt ≤ 8 := Inv.rd (r := 1) (c := 2) hI 2 rfl
            refine S1.ite (fun hc11 => ?_) (fun hc11 => ?_)
            · skip
              have chc11 := zc_ltT hc11
              refine S1.ix (by omega) ?_
              intro k12 hk12 bk12
              refine S1.lt ?_
              intro g13 hg13
              have Ig13 : Inv g13 := Inv.up hI hg13 (zg_deed (b := 1) rfl hk12) trivial
              have u4 : (g13 1 2).toInt = (g 1 2).toInt := zg_upc hg13 (zg_deed (b := 1) rfl hk12) (by decide)
              refine S1.lt ?_
              intro g14 hg14
              have Ig14 : Inv g14 := Inv.up Ig13 hg14 (zg_deed (b := 1) rfl hk12) (show 0 ≤ x2.toInt ∧ x2.toInt ≤ 3 by omega)
              have u5 : (g14 1 2).toInt = (g13 1 2).toInt := zg_upc hg14 (zg_deed (b := 1) rfl hk12) (by decide)
              refine S1.lt ?_
              intro g15 hg15
              have Ig15 : Inv g15 := Inv.up Ig14 hg15 (zg_deed (b := 1) rfl hk12) trivial
              have u6 : (g15 1 2).toInt = (g14 1 2).toInt := zg_upc hg15 (zg_deed (b := 1) rfl hk12) (by decide)
              refine S1.lt ?_
              intro g16 hg16
              have Ig16 : Inv g16 := Inv.up Ig15 hg16 (zg_deed (b := 1) rfl hk12) (show 0 ≤ x4.toInt ∧ x4.toInt ≤ 5 by omega)
              have u7 : (g16 1 2).toInt = (g15 1 2).toInt := zg_upc hg16 (zg_deed (b := 1) rfl hk12) (by decide)
              refine S1.lt ?_
              intro g17 hg17
              have Ig17 : Inv g17 := Inv.up Ig16 hg17 (zg_deed (b := 1) rfl hk12) trivial
              have u8 : (g17 1 2).toInt = (g16 1 2).toInt := zg_upc hg17 (zg_deed (b := 1) rfl hk12) (by decide)
              refine S1.lt ?_
              intro g18 hg18
              have Ig18 : Inv g18 := Inv.up Ig17 hg18 (zg_deed (b := 1) rfl hk12) trivial
              have u9 : (g18 1 2).toInt = (g17 1 2).toInt := zg_upc hg18 (zg_deed (b := 1) rfl hk12) (by decide)
              refine S1.lt ?_
              intro g19 hg19
              have Ig19 : Inv g19 := Inv.up Ig18 hg19 (zg_deed (b := 1) rfl hk12) trivial
              have u10 : (g19 1 2).toInt = (g18 1 2).toInt := zg_upc hg19 (zg_deed (b := 1) rfl hk12) (by decide)
              have y11 : 0 ≤ (g19 1 2).toInt ∧ (g19 1 2).toInt ≤ 8 := Inv.rd (r := 1) (c := 2) Ig19 2 rfl
              try have y12 := zi_add (x := (g19 1 2)) (y := (1 : Int32)) (by omega) (by omega)
              refine S1.lt ?_
              intro g20 hg20
              have Ig20 : Inv g20 := Inv.up Ig19 hg20 rfl (show 0 ≤ ((g19 1 2) + 1).toInt ∧ ((g19 1 2) + 1).toInt ≤ 8 by omega)
              have u13 : (g20 1 2).toInt = ((g19 1 2) + 1).toInt := by rw [← hg20]; rfl
              have y14 : 0 ≤ (g20 1 2).toInt ∧ (g20 1 2).toInt ≤ 8 := Inv.rd (r := 1) (c := 2) Ig20 2 rfl
              exact S1.ret (show Inv g20 ∧ True from ⟨Ig20, trivial⟩)
            · skip
              have chc11 := zc_ltF hc11
              exact S1.ret (show Inv g ∧ True from ⟨hI, trivial⟩)
          · skip
            exact S1.ret (show Inv g ∧ True from ⟨hI, trivial⟩)
        · skip
          have chc8 := hRv7.2.2.2 hc8
          exact S1.ret (show Inv g ∧ True from ⟨hI, trivial⟩)
      · skip
        have chc6 := hRv5.2.2.2 hc6
        exact S1.ret (show Inv g ∧ True from ⟨hI, trivial⟩)
    · skip
      have chc4 := hRv3.2.2.2 hc4
      exact S1.ret (show Inv g ∧ True from ⟨hI, trivial⟩)
  · skip
    have chc2 := hRv1.2.2.2 hc2
    exact S1.ret (show Inv g ∧ True from ⟨hI, trivial⟩)
/-- EveningFirstModel.does -/
theorem s_146 (x1 : Int32) (x2 : Int32) (x3 : Int32) (x4 : Int32) (x5 : Int32) (g : G) (hI : Inv g) (hp : True) : S1 (d_146 x1 x2 x3 x4 x5 g) (fun q : Int32 × G => Inv q.2 ∧ True) := by
  unfold d_146
  have Lm3 := zl_m3
  have Lm1 := zl_m1
  have L0 := zl_0
  have L1 := zl_1
  have L2 := zl_2
  have L3 := zl_3
  have L4 := zl_4
  have L5 := zl_5
  have L6 := zl_6
  have L7 := zl_7
  have L8 := zl_8
  have L9 := zl_9
  have L10 := zl_10
  have yp40 : 0 ≤ (g 113 2).toInt ∧ (g 113 2).toInt ≤ 8 := Inv.rd (r := 113) (c := 8) hI 2 rfl
  have yp41 : 0 ≤ (g 113 3).toInt ∧ (g 113 3).toInt ≤ 4 := Inv.rd (r := 113) (c := 8) hI 3 rfl
  have yp42 := hI.m8
  refine S1.lc (s_133 x1 g hI trivial) ?_
  intro v1 hvv1 hRv1
  have hRv1 : True ∧ True ∧ (v1 = true → 0 ≤ x1.toInt ∧ x1.toInt < (g 113 2).toInt) ∧ (v1 = false → True) := hRv1
  have y1 : 0 ≤ (g 113 2).toInt ∧ (g 113 2).toInt ≤ 8 := Inv.rd (r := 113) (c := 8) hI 2 rfl
  refine S1.ite (fun hc2 => ?_) (fun hc2 => ?_)
  · skip
    have chc2 := hRv1.2.2.1 hc2
    refine S1.lc (s_131 x2 g hI trivial) ?_
    intro v3 hvv3 hRv3
    have hRv3 : True ∧ True ∧ (v3 = true → 0 ≤ x2.toInt ∧ x2.toInt < (g 113 3).toInt) ∧ (v3 = false → True) := hRv3
    have y2 : 0 ≤ (g 113 3).toInt ∧ (g 113 3).toInt ≤ 4 := Inv.rd (r := 113) (c := 8) hI 3 rfl
    refine S1.ite (fun hc4 => ?_) (fun hc4 => ?_)
    · skip
      have chc4 := hRv3.2.2.1 hc4
      refine S1.lc (s_131 x3 g hI trivial) ?_
      intro v5 hvv5 hRv5
      have hRv5 : True ∧ True ∧ (v5 = true → 0 ≤ x3.toInt ∧ x3.toInt < (g 113 3).toInt) ∧ (v5 = false → True) := hRv5
      refine S1.ite (fun hc6 => ?_) (fun hc6 => ?_)
      · skip
        have chc6 := hRv5.2.2.1 hc6
        refine S1.lt ?_
        intro v7 hvv7
        refine S1.ite (fun hc8 => ?_) (fun hc8 => ?_)
        · skip
          refine S1.lt ?_
          intro v9 hvv9
          refine S1.ite (fun hc10 => ?_) (fun hc10 => ?_)
          · skip
            have y3 := hI.m8
            refine S1.ite (fun hc11 => ?_) (fun hc11 => ?_)
            · skip
              have chc11 := zc_neT hc11
              try have y4 := zi_mul (x := (7 : Int32)) (y := (g 114 8)) (n := 7) (by decide) (by omega) (by omega)
              try have y5 := zi_add (x := (9 : Int32)) (y := (7 * (g 114 8))) (by omega) (by omega)
              try have y6 := zi_add (x := (9 + (7 * (g 114 8)))) (y := (0 : Int32)) (by omega) (by omega)
              refine S1.ix (by omega) ?_
              intro k13 hk13 bk13
              refine S1.lt ?_
              intro g12 hg12
              have Ig12 : Inv g12 := Inv.up hI hg12 rfl (bdP_st (by omega) ((stP_d (d := (g 114 8).toInt) (o := 0) (by omega) (by omega) (by omega)).mpr ⟨fun w => by omega, fun w => by omega⟩))
              have u7 : (g12 113 2).toInt = (g 113 2).toInt := by rw [← hg12]; rfl
              have u8 : (g12 113 3).toInt = (g 113 3).toInt := by rw [← hg12]; rfl
              try have u9 : (g12 114 8).toInt = (g 114 8).toInt := zg_upk hg12 (by omega)
              try have y10 := zi_add (x := (9 + (7 * (g 114 8)))) (y := (1 : Int32)) (by omega) (by omega)
              refine S1.ix (by omega) ?_
              intro k15 hk15 bk15
              refine S1.lt ?_
              intro g14 hg14
              have Ig14 : Inv g14 := Inv.up Ig12 hg14 rfl (bdP_st (by omega) ((stP_d (d := (g 114 8).toInt) (o := 1) (by omega) (by omega) (by omega)).mpr ⟨fun w => by omega, fun w => by omega⟩))
              have u11 : (g14 113 2).toInt = (g12 113 2).toInt := by rw [← hg14]; rfl
              have u12 : (g14 113 3).toInt = (g12 113 3).toInt := by rw [← hg14]; rfl
              try have u13 : (g14 114 8).toInt = (g12 114 8).toInt := zg_upk hg14 (by omega)
              try have y14 := zi_add (x := (9 + (7 * (g 114 8)))) (y := (2 : Int32)) (by omega) (by omega)
              refine S1.ix (by omega) ?_
              intro k17 hk17 bk17
              refine S1.lt ?_
              intro g16 hg16
              have Ig16 : Inv g16 := Inv.up Ig14 hg16 rfl (bdP_st (by omega) ((stP_d (d := (g 114 8).toInt) (o := 2) (by omega) (by omega) (by omega)).mpr ⟨fun w => by omega, fun w => by omega⟩))
              have u15 : (g16 113 2).toInt = (g14 113 2).toInt := by rw [← hg16]; rfl
              have u16 : (g16 113 3).toInt = (g14 113 3).toInt := by rw [← hg16]; rfl
              try have u17 : (g16 114 8).toInt = (g14 114 8).toInt := zg_upk hg16 (by omega)
              try have y18 := zi_add (x := (9 + (7 * (g 114 8)))) (y := (3 : Int32)) (by omega) (by omega)
              refine S1.ix (by omega) ?_
              intro k19 hk19 bk19
              refine S1.lt ?_
              intro g18 hg18
              have Ig18 : Inv g18 := Inv.up Ig16 hg18 rfl (bdP_st (by omega) ((stP_d (d := (g 114 8).toInt) (o := 3) (by omega) (by omega) (by omega)).mpr ⟨fun w => by omega, fun w => by omega⟩))
              have u19 : (g18 113 2).toInt = (g16 113 2).toInt := by rw [← hg18]; rfl
              have u20 : (g18 113 3).toInt = (g16 113 3).toInt := by rw [← hg18]; rfl
              try have u21 : (g18 114 8).toInt = (g16 114 8).toInt := zg_upk hg18 (by omega)
              try have y22 := zi_add (x := (9 + (7 * (g 114 8)))) (y := (4 : Int32)) (by omega) (by omega)
              refine S1.ix (by omega) ?_
              intro k21 hk21 bk21
              refine S1.lt ?_
              intro g20 hg20
              have Ig20 : Inv g20 := Inv.up Ig18 hg20 rfl (bdP_st (by omega) ((stP_d (d := (g 114 8).toInt) (o := 4) (by omega) (by omega) (by omega)).mpr ⟨fun w => by omega, fun w => by omega⟩))
              have u23 : (g20 113 2).toInt = (g18 113 2).toInt := by rw [← hg20]; rfl
              have u24 : (g20 113 3).toInt = (g18 113 3).toInt := by rw [← hg20]; rfl
              try have u25 : (g20 114 8).toInt = (g18 114 8).toInt := zg_upk hg20 (by omega)
              try have y26 := zi_add (x := (9 + (7 * (g 114 8)))) (y := (5 : Int32)) (by omega) (by omega)
              refine S1.ix (by omega) ?_
              intro k23 hk23 bk23
              refine S1.lt ?_
              intro g22 hg22
              have Ig22 : Inv g22 := Inv.up Ig20 hg22 rfl (bdP_st (by omega) ((stP_d (d := (g 114 8).toInt) (o := 5) (by omega) (by omega) (by omega)).mpr ⟨fun w => by omega, fun w => by omega⟩))
              have u27 : (g22 113 2).toInt = (g20 113 2).toInt := by rw [← hg22]; rfl
              have u28 : (g22 113 3).toInt = (g20 113 3).toInt := by rw [← hg22]; rfl
              try have u29 : (g22 114 8).toInt = (g20 114 8).toInt := zg_upk hg22 (by omega)
              try have y30 := zi_add (x := (9 + (7 * (g 114 8)))) (y := (6 : Int32)) (by omega) (by omega)
              refine S1.ix (by omega) ?_
              intro k25 hk25 bk25
              refine S1.lt ?_
              intro g24 hg24
              have Ig24 : Inv g24 := Inv.up Ig22 hg24 rfl (bdP_st (by omega) ((stP_d (d := (g 114 8).toInt) (o := 6) (by omega) (by omega) (by omega)).mpr ⟨fun w => by omega, fun w => by omega⟩))
              have u31 : (g24 113 2).toInt = (g22 113 2).toInt := by rw [← hg24]; rfl
              have u32 : (g24 113 3).toInt = (g22 113 3).toInt := by rw [← hg24]; rfl
              try have u33 : (g24 114 8).toInt = (g22 114 8).toInt := zg_upk hg24 (by omega)
              have y34 := Ig24.m8
              try have y35 := zi_add (x := (g24 114 8)) (y := (1 : Int32)) (by omega) (by omega)
              refine S1.lt ?_
              intro g26 hg26
              have Ig26 : Inv g26 := Inv.up Ig24 hg26 rfl (bdP_st (by omega) ((stP_m (by omega)).mpr (by omega)))
              have u36 : (g26 113 2).toInt = (g24 113 2).toInt := by rw [← hg26]; rfl
              have u37 : (g26 113 3).toInt = (g24 113 3).toInt := by rw [← hg26]; rfl
              have u38 : (g26 114 8).toInt = ((g24 114 8) + 1).toInt := by rw [← hg26]; rfl
              have y39 := Ig26.m8
              exact S1.ret (show Inv g26 ∧ True from ⟨Ig26, trivial⟩)
            · skip
              have chc11 := zc_neF hc11
              exact S1.ret (show Inv g ∧ True from ⟨hI, trivial⟩)
          · skip
            exact S1.ret (show Inv g ∧ True from ⟨hI, trivial⟩)
        · skip
          exact S1.ret (show Inv g ∧ True from ⟨hI, trivial⟩)
      · skip
        have chc6 := hRv5.2.2.2 hc6
        exact S1.ret (show Inv g ∧ True from ⟨hI, trivial⟩)
    · skip
      have chc4 := hRv3.2.2.2 hc4
      exact S1.ret (show Inv g ∧ True from ⟨hI, trivial⟩)
  · skip
    have chc2 := hRv1.2.2.2 hc2
    exact S1.ret (show Inv g ∧ True from ⟨hI, trivial⟩)
/-- EveningFirst.shift -/
theorem s_64 (x1 : Int32) (x2 : Int32) (g : G) (hI : Inv g) (hp : True) : S1 (d_64 x1 x2 g) (fun q : Int32 × G => Inv q.2 ∧ True) := by
  unfold d_64
  have Lm1 := zl_m1
  refine S1.lc (s_20 1 x1 rfl g hI trivial) ?_
  intro v1 hvv1 hRv1
  have hRv1 : True ∧ True ∧ (v1 = true → 0 ≤ x1.toInt ∧ x1.toInt < (g 1 2).toInt) ∧ (v1 = false → True) := hRv1
  have y1 : 0 ≤ (g 1 2).toInt ∧ (g 1 2).toInt ≤ 8 := Inv.rd (r := 1) (c := 2) hI 2 rfl
  refine S1.ite (fun hc2 => ?_) (fun hc2 => ?_)
  · skip
    have chc2 := hRv1.2.2.1 hc2
    refine S1.lc (s_19 1 x2 rfl g hI trivial) ?_
    intro v3 hvv3 hRv3
    have hRv3 : True ∧ True ∧ (v3 = true → 0 ≤ x2.toInt ∧ x2.toInt < (g 1 0).toInt) ∧ (v3 = false → True) := hRv3
    have y2 : 0 ≤ (g 1 0).toInt ∧ (g 1 0).toInt ≤ 8 := Inv.rd (r := 1) (c := 2) hI 0 rfl
    refine S1.ite (fun hc4 => ?_) (fun hc4 => ?_)
    · skip
      have chc4 := hRv3.2.2.1 hc4
      refine S1.ix (by omega) ?_
      intro k5 hk5 bk5
      refine S1.ix (by omega) ?_
      intro k6 hk6 bk6
      refine S1.lt ?_
      intro g7 hg7
      have Ig7 : Inv g7 := Inv.up hI hg7 (zg_deed (b := 1) rfl hk6) trivial
      exact S1.ret (show Inv g7 ∧ True from ⟨Ig7, trivial⟩)
    · skip
      have chc4 := hRv3.2.2.2 hc4
      exact S1.ret (show Inv g ∧ True from ⟨hI, trivial⟩)
  · skip
    have chc2 := hRv1.2.2.2 hc2
    exact S1.ret (show Inv g ∧ True from ⟨hI, trivial⟩)
/-- EveningFirstModel.shift -/
theorem s_147 (x1 : Int32) (x2 : Int32) (g : G) (hI : Inv g) (hp : True) : S1 (d_147 x1 x2 g) (fun q : Int32 × G => Inv q.2 ∧ True) := by
  unfold d_147
  have Lm1 := zl_m1
  have L0 := zl_0
  have L7 := zl_7
  have L9 := zl_9
  have yp8 : 0 ≤ (g 113 2).toInt ∧ (g 113 2).toInt ≤ 8 := Inv.rd (r := 113) (c := 8) hI 2 rfl
  have yp9 := hI.m8
  refine S1.lc (s_132 x1 g hI trivial) ?_
  intro v1 hvv1 hRv1
  have hRv1 : True ∧ True ∧ (v1 = true → 0 ≤ x1.toInt ∧ x1.toInt < (g 114 8).toInt) ∧ (v1 = false → True) := hRv1
  have y1 := hI.m8
  refine S1.ite (fun hc2 => ?_) (fun hc2 => ?_)
  · skip
    have chc2 := hRv1.2.2.1 hc2
    refine S1.lc (s_133 x2 g hI trivial) ?_
    intro v3 hvv3 hRv3
    have hRv3 : True ∧ True ∧ (v3 = true → 0 ≤ x2.toInt ∧ x2.toInt < (g 113 2).toInt) ∧ (v3 = false → True) := hRv3
    have y2 : 0 ≤ (g 113 2).toInt ∧ (g 113 2).toInt ≤ 8 := Inv.rd (r := 113) (c := 8) hI 2 rfl
    refine S1.ite (fun hc4 => ?_) (fun hc4 => ?_)
    · skip
      have chc4 := hRv3.2.2.1 hc4
      try have y3 := zi_mul (x := (7 : Int32)) (y := x1) (n := 7) (by decide) (by omega) (by omega)
      try have y4 := zi_add (x := (9 : Int32)) (y := (7 * x1)) (by omega) (by omega)
      try have y5 := zi_add (x := (9 + (7 * x1))) (y := (0 : Int32)) (by omega) (by omega)
      refine S1.bp (s_142 ((9 + (7 * x1)) + 0) x2 g hI ⟨by omega, by omega, ((stP_d (d := x1.toInt) (o := 0) (by omega) (by omega) (by omega)).mpr ⟨fun w => by omega, fun w => by omega⟩)⟩) ?_
      intro v5 g6 hvv5 hRv5
      have hRv5 : Inv g6 ∧ (stP ((9 + (7 * x1)) + 0).toInt.toNat v5.toInt) := hRv5
      have y6 : 0 ≤ (g6 113 2).toInt ∧ (g6 113 2).toInt ≤ 8 := Inv.rd (r := 113) (c := 8) hRv5.1 2 rfl
      have y7 := hRv5.1.m8
      exact S1.ret (show Inv g6 ∧ True from ⟨hRv5.1, trivial⟩)
    · skip
      have chc4 := hRv3.2.2.2 hc4
      exact S1.ret (show Inv g ∧ True from ⟨hI, trivial⟩)
  · skip
    have chc2 := hRv1.2.2.2 hc2
    exact S1.ret (show Inv g ∧ True from ⟨hI, trivial⟩)
/-- EveningFirst$Family.isMarkOf -/
theorem s_22 (r0 : Nat) (x1 : Int32) (x2 : Int32) (h0 : zg_cl r0 = 2) (g : G) (hI : Inv g) (hp : True) : T1 (d_22 r0 x1 x2 g) (fun q : Bool => True ∧ True ∧ (q = true → 0 ≤ x1.toInt ∧ x1.toInt < (g r0 2).toInt) ∧ (q = false → True)) := by
  unfold d_22
  have L0 := zl_0
  have L2 := zl_2
  refine T1.lc (s_20 r0 x1 h0 g hI trivial) ?_
  intro v1 hvv1 hRv1
  have hRv1 : True ∧ True ∧ (v1 = true → 0 ≤ x1.toInt ∧ x1.toInt < (g r0 2).toInt) ∧ (v1 = false → True) := hRv1
  have y1 : 0 ≤ (g r0 2).toInt ∧ (g r0 2).toInt ≤ 8 := Inv.rd (r := r0) (c := 2) hI 2 h0
  refine T1.ite (fun hc2 => ?_) (fun hc2 => ?_)
  · skip
    have chc2 := hRv1.2.2.1 hc2
    refine T1.ite (fun hc3 => ?_) (fun hc3 => ?_)
    · skip
      have chc3 := zc_ltT hc3
      exact T1.ret (show True ∧ True ∧ (false = true → 0 ≤ x1.toInt ∧ x1.toInt < (g r0 2).toInt) ∧ (false = false → True) from ⟨trivial, trivial, (fun w => by cases w), (fun _ => trivial)⟩)
    · skip
      have chc3 := zc_ltF hc3
      refine T1.ite (fun hc4 => ?_) (fun hc4 => ?_)
      · skip
        have chc4 := zc_gtT hc4
        exact T1.ret (show True ∧ True ∧ (false = true → 0 ≤ x1.toInt ∧ x1.toInt < (g r0 2).toInt) ∧ (false = false → True) from ⟨trivial, trivial, (fun w => by cases w), (fun _ => trivial)⟩)
      · skip
        have chc4 := zc_gtF hc4
        exact T1.ret (show True ∧ True ∧ (true = true → 0 ≤ x1.toInt ∧ x1.toInt < (g r0 2).toInt) ∧ (true = false → True) from ⟨trivial, trivial, (fun _ => by omega), (fun _ => trivial)⟩)
  · skip
    have chc2 := hRv1.2.2.2 hc2
    exact T1.ret (show True ∧ True ∧ (false = true → 0 ≤ x1.toInt ∧ x1.toInt < (g r0 2).toInt) ∧ (false = false → True) from ⟨trivial, trivial, (fun w => by cases w), (fun _ => trivial)⟩)
/-- EveningFirst.mark -/
theorem s_65 (x1 : Int32) (x2 : Int32) (g : G) (hI : Inv g) (hp : True) : S1 (d_65 x1 x2 g) (fun q : Int32 × G => Inv q.2 ∧ True) := by
  unfold d_65
  have Lm1 := zl_m1
  refine S1.lc (s_22 1 x1 x2 rfl g hI trivial) ?_
  intro v1 hvv1 hRv1
  have hRv1 : True ∧ True ∧ (v1 = true → 0 ≤ x1.toInt ∧ x1.toInt < (g 1 2).toInt) ∧ (v1 = false → True) := hRv1
  have y1 : 0 ≤ (g 1 2).toInt ∧ (g 1 2).toInt ≤ 8 := Inv.rd (r := 1) (c := 2) hI 2 rfl
  refine S1.ite (fun hc2 => ?_) (fun hc2 => ?_)
  · skip
    have chc2 := hRv1.2.2.1 hc2
    refine S1.ix (by omega) ?_
    intro k3 hk3 bk3
    refine S1.ix (by omega) ?_
    intro k4 hk4 bk4
    refine S1.lt ?_
    intro g5 hg5
    have Ig5 : Inv g5 := Inv.up hI hg5 (zg_deed (b := 1) rfl hk4) trivial
    exact S1.ret (show Inv g5 ∧ True from ⟨Ig5, trivial⟩)
  · skip
    have chc2 := hRv1.2.2.2 hc2
    exact S1.ret (show Inv g ∧ True from ⟨hI, trivial⟩)
/-- EveningFirstModel.mark -/
theorem s_148 (x1 : Int32) (x2 : Int32) (g : G) (hI : Inv g) (hp : True) : S1 (d_148 x1 x2 g) (fun q : Int32 × G => Inv q.2 ∧ True) := by
  unfold d_148
  have Lm1 := zl_m1
  have L0 := zl_0
  have L2 := zl_2
  have L5 := zl_5
  have L7 := zl_7
  have L9 := zl_9
  have yp9 := hI.m8
  refine S1.lc (s_132 x1 g hI trivial) ?_
  intro v1 hvv1 hRv1
  have hRv1 : True ∧ True ∧ (v1 = true → 0 ≤ x1.toInt ∧ x1.toInt < (g 114 8).toInt) ∧ (v1 = false → True) := hRv1
  have y1 := hI.m8
  refine S1.ite (fun hc2 => ?_) (fun hc2 => ?_)
  · skip
    have chc2 := hRv1.2.2.1 hc2
    have y2 := zi_i64 x2
    have y3 : (0 : Int64).toInt = 0 := by decide
    have y4 : (2 : Int64).toInt = 2 := by decide
    refine S1.lc (zin_c (a := (Int32.toInt64 x2)) (b := (0 : Int64)) (c := (2 : Int64))) ?_
    intro v3 hvv3 hRv3
    have hRv3 : (v3 = true → (0 : Int64).toInt ≤ (Int32.toInt64 x2).toInt ∧ (Int32.toInt64 x2).toInt ≤ (2 : Int64).toInt) ∧ (v3 = false → (Int32.toInt64 x2).toInt < (0 : Int64).toInt ∨ (2 : Int64).toInt < (Int32.toInt64 x2).toInt) := hRv3
    refine S1.ite (fun hc4 => ?_) (fun hc4 => ?_)
    · skip
      have chc4 := hRv3.1 hc4
      try have y5 := zi_mul (x := (7 : Int32)) (y := x1) (n := 7) (by decide) (by omega) (by omega)
      try have y6 := zi_add (x := (9 : Int32)) (y := (7 * x1)) (by omega) (by omega)
      try have y7 := zi_add (x := (9 + (7 * x1))) (y := (5 : Int32)) (by omega) (by omega)
      refine S1.bp (s_142 ((9 + (7 * x1)) + 5) x2 g hI ⟨by omega, by omega, ((stP_d (d := x1.toInt) (o := 5) (by omega) (by omega) (by omega)).mpr ⟨fun w => by omega, fun w => by omega⟩)⟩) ?_
      intro v5 g6 hvv5 hRv5
      have hRv5 : Inv g6 ∧ (stP ((9 + (7 * x1)) + 5).toInt.toNat v5.toInt) := hRv5
      have y8 := hRv5.1.m8
      exact S1.ret (show Inv g6 ∧ True from ⟨hRv5.1, trivial⟩)
    · skip
      have chc4 := hRv3.2 hc4
      exact S1.ret (show Inv g ∧ True from ⟨hI, trivial⟩)
  · skip
    have chc2 := hRv1.2.2.2 hc2
    exact S1.ret (show Inv g ∧ True from ⟨hI, trivial⟩)
/-- EveningFirst.odd -/
theorem s_66 (x1 : Int32) (x2 : Int32) (g : G) (hI : Inv g) (hp : True) : S1 (d_66 x1 x2 g) (fun q : Int32 × G => Inv q.2 ∧ True) := by
  unfold d_66
  have Lm1 := zl_m1
  have L0 := zl_0
  have L10 := zl_10
  refine S1.lc (s_20 1 x1 rfl g hI trivial) ?_
  intro v1 hvv1 hRv1
  have hRv1 : True ∧ True ∧ (v1 = true → 0 ≤ x1.toInt ∧ x1.toInt < (g 1 2).toInt) ∧ (v1 = false → True) := hRv1
  have y1 : 0 ≤ (g 1 2).toInt ∧ (g 1 2).toInt ≤ 8 := Inv.rd (r := 1) (c := 2) hI 2 rfl
  refine S1.ite (fun hc2 => ?_) (fun hc2 => ?_)
  · skip
    have chc2 := hRv1.2.2.1 hc2
    refine S1.ite (fun hc3 => ?_) (fun hc3 => ?_)
    · skip
      have chc3 := zc_ltT hc3
      exact S1.ret (show Inv g ∧ True from ⟨hI, trivial⟩)
    · skip
      have chc3 := zc_ltF hc3
      refine S1.ite (fun hc4 => ?_) (fun hc4 => ?_)
      · skip
        have chc4 := zc_leT hc4
        refine S1.ix (by omega) ?_
        intro k5 hk5 bk5
        refine S1.ix (by omega) ?_
        intro k6 hk6 bk6
        refine S1.lt ?_
        intro g7 hg7
        have Ig7 : Inv g7 := Inv.up hI hg7 (zg_deed (b := 1) rfl hk6) trivial
        exact S1.ret (show Inv g7 ∧ True from ⟨Ig7, trivial⟩)
      · skip
        have chc4 := zc_leF hc4
        exact S1.ret (show Inv g ∧ True from ⟨hI, trivial⟩)
  · skip
    have chc2 := hRv1.2.2.2 hc2
    exact S1.ret (show Inv g ∧ True from ⟨hI, trivial⟩)
/-- EveningFirstModel.odd -/
theorem s_149 (x1 : Int32) (x2 : Int32) (g : G) (hI : Inv g) (hp : True) : S1 (d_149 x1 x2 g) (fun q : Int32 × G => Inv q.2 ∧ True) := by
  unfold d_149
  have Lm1 := zl_m1
  have L0 := zl_0
  have L6 := zl_6
  have L7 := zl_7
  have L9 := zl_9
  have L10 := zl_10
  have yp9 := hI.m8
  refine S1.lc (s_132 x1 g hI trivial) ?_
  intro v1 hvv1 hRv1
  have hRv1 : True ∧ True ∧ (v1 = true → 0 ≤ x1.toInt ∧ x1.toInt < (g 114 8).toInt) ∧ (v1 = false → True) := hRv1
  have y1 := hI.m8
  refine S1.ite (fun hc2 => ?_) (fun hc2 => ?_)
  · skip
    have chc2 := hRv1.2.2.1 hc2
    have y2 := zi_i64 x2
    have y3 : (0 : Int64).toInt = 0 := by decide
    have y4 : (10 : Int64).toInt = 10 := by decide
    refine S1.lc (zin_c (a := (Int32.toInt64 x2)) (b := (0 : Int64)) (c := (10 : Int64))) ?_
    intro v3 hvv3 hRv3
    have hRv3 : (v3 = true → (0 : Int64).toInt ≤ (Int32.toInt64 x2).toInt ∧ (Int32.toInt64 x2).toInt ≤ (10 : Int64).toInt) ∧ (v3 = false → (Int32.toInt64 x2).toInt < (0 : Int64).toInt ∨ (10 : Int64).toInt < (Int32.toInt64 x2).toInt) := hRv3
    refine S1.ite (fun hc4 => ?_) (fun hc4 => ?_)
    · skip
      have chc4 := hRv3.1 hc4
      try have y5 := zi_mul (x := (7 : Int32)) (y := x1) (n := 7) (by decide) (by omega) (by omega)
      try have y6 := zi_add (x := (9 : Int32)) (y := (7 * x1)) (by omega) (by omega)
      try have y7 := zi_add (x := (9 + (7 * x1))) (y := (6 : Int32)) (by omega) (by omega)
      refine S1.bp (s_142 ((9 + (7 * x1)) + 6) x2 g hI ⟨by omega, by omega, ((stP_d (d := x1.toInt) (o := 6) (by omega) (by omega) (by omega)).mpr ⟨fun w => by omega, fun w => by omega⟩)⟩) ?_
      intro v5 g6 hvv5 hRv5
      have hRv5 : Inv g6 ∧ (stP ((9 + (7 * x1)) + 6).toInt.toNat v5.toInt) := hRv5
      have y8 := hRv5.1.m8
      exact S1.ret (show Inv g6 ∧ True from ⟨hRv5.1, trivial⟩)
    · skip
      have chc4 := hRv3.2 hc4
      exact S1.ret (show Inv g ∧ True from ⟨hI, trivial⟩)
  · skip
    have chc2 := hRv1.2.2.2 hc2
    exact S1.ret (show Inv g ∧ True from ⟨hI, trivial⟩)
