/-! printed by wip/tools/safe.py -/
/-- EveningFirstModel.is -/
theorem s_115 (x1 : Int32) (x2 : Int32) (x3 : Int32) (x4 : Int32) (g : G) (hI : Inv g) (hp : True) : S1 (d_115 x1 x2 x3 x4 g) (fun q : Bool => True ∧ True ∧ (q = true → True) ∧ (q = false → True)) := by
  unfold d_115
  have L1 := zl_1
  have L2 := zl_2
  have yp7 : 0 ≤ (g 113 14).toInt ∧ (g 113 14).toInt ≤ 160 := Inv.rd (r := 113) (c := 8) hI 14 rfl
  have yp8 : 0 ≤ (g 113 15).toInt ∧ (g 113 15).toInt ≤ 160 := Inv.rd (r := 113) (c := 8) hI 15 rfl
  have yp9 : 0 ≤ (g 113 16).toInt ∧ (g 113 16).toInt ≤ 160 := Inv.rd (r := 113) (c := 8) hI 16 rfl
  have y1 : 0 ≤ (g 113 15).toInt ∧ (g 113 15).toInt ≤ 160 := Inv.rd (r := 113) (c := 8) hI 15 rfl
  have y2 : 0 ≤ (g 113 16).toInt ∧ (g 113 16).toInt ≤ 160 := Inv.rd (r := 113) (c := 8) hI 16 rfl
  try have y3 := zi_sub (x := (g 113 15)) (y := (g 113 16)) (by omega) (by omega)
  refine S1.ite (fun hc1 => ?_) (fun hc1 => ?_)
  · skip
    have chc1 := zc_neT hc1
    exact S1.ret (show True ∧ True ∧ (false = true → True) ∧ (false = false → True) from ⟨trivial, trivial, (fun _ => trivial), (fun _ => trivial)⟩)
  · skip
    have chc1 := zc_neF hc1
    refine S1.bd (s_114 (g 113 16) g hI (by omega)) ?_
    intro v2 hvv2 hRv2
    have hRv2 : True ∧ (((g 113 14).toInt ≤ (g 113 16).toInt → v2.toInt = -1) ∧ ((g 113 16).toInt < (g 113 14).toInt → v2.toInt = (g 117 (g 113 16).toInt.toNat).toInt)) := hRv2
    have y4 : 0 ≤ (g 113 14).toInt ∧ (g 113 14).toInt ≤ 160 := Inv.rd (r := 113) (c := 8) hI 14 rfl
    refine S1.ite (fun hc3 => ?_) (fun hc3 => ?_)
    · skip
      have chc3 := zc_neT hc3
      exact S1.ret (show True ∧ True ∧ (false = true → True) ∧ (false = false → True) from ⟨trivial, trivial, (fun _ => trivial), (fun _ => trivial)⟩)
    · skip
      have chc3 := zc_neF hc3
      try have y5 := zi_add (x := (g 113 16)) (y := (1 : Int32)) (by omega) (by omega)
      refine S1.bd (s_114 ((g 113 16) + 1) g hI (by omega)) ?_
      intro v4 hvv4 hRv4
      have hRv4 : True ∧ (((g 113 14).toInt ≤ ((g 113 16) + 1).toInt → v4.toInt = -1) ∧ (((g 113 16) + 1).toInt < (g 113 14).toInt → v4.toInt = (g 117 ((g 113 16) + 1).toInt.toNat).toInt)) := hRv4
      refine S1.ite (fun hc5 => ?_) (fun hc5 => ?_)
      · skip
        have chc5 := zc_neT hc5
        exact S1.ret (show True ∧ True ∧ (false = true → True) ∧ (false = false → True) from ⟨trivial, trivial, (fun _ => trivial), (fun _ => trivial)⟩)
      · skip
        have chc5 := zc_neF hc5
        try have y6 := zi_add (x := (g 113 16)) (y := (2 : Int32)) (by omega) (by omega)
        refine S1.bd (s_114 ((g 113 16) + 2) g hI (by omega)) ?_
        intro v6 hvv6 hRv6
        have hRv6 : True ∧ (((g 113 14).toInt ≤ ((g 113 16) + 2).toInt → v6.toInt = -1) ∧ (((g 113 16) + 2).toInt < (g 113 14).toInt → v6.toInt = (g 117 ((g 113 16) + 2).toInt.toNat).toInt)) := hRv6
        refine S1.ite (fun hc7 => ?_) (fun hc7 => ?_)
        · skip
          have chc7 := zc_neT hc7
          exact S1.ret (show True ∧ True ∧ (false = true → True) ∧ (false = false → True) from ⟨trivial, trivial, (fun _ => trivial), (fun _ => trivial)⟩)
        · skip
          have chc7 := zc_neF hc7
          exact S1.ret (show True ∧ True ∧ (true = true → True) ∧ (true = false → True) from ⟨trivial, trivial, (fun _ => trivial), (fun _ => trivial)⟩)
/-- EveningFirstModel.ends -/
theorem s_116 (x1 : Int32) (x2 : Int32) (g : G) (hI : Inv g) (hp : True) : S1 (d_116 x1 x2 g) (fun q : Bool => True ∧ True ∧ (q = true → True) ∧ (q = false → True)) := by
  unfold d_116
  have L0 := zl_0
  have L3 := zl_3
  have L4 := zl_4
  have yp5 : 0 ≤ (g 113 14).toInt ∧ (g 113 14).toInt ≤ 160 := Inv.rd (r := 113) (c := 8) hI 14 rfl
  have yp6 : 0 ≤ (g 113 16).toInt ∧ (g 113 16).toInt ≤ 160 := Inv.rd (r := 113) (c := 8) hI 16 rfl
  have y1 : 0 ≤ (g 113 16).toInt ∧ (g 113 16).toInt ≤ 160 := Inv.rd (r := 113) (c := 8) hI 16 rfl
  try have y2 := zi_add (x := (g 113 16)) (y := (3 : Int32)) (by omega) (by omega)
  refine S1.bd (s_114 ((g 113 16) + 3) g hI (by omega)) ?_
  intro v1 hvv1 hRv1
  have hRv1 : True ∧ (((g 113 14).toInt ≤ ((g 113 16) + 3).toInt → v1.toInt = -1) ∧ (((g 113 16) + 3).toInt < (g 113 14).toInt → v1.toInt = (g 117 ((g 113 16) + 3).toInt.toNat).toInt)) := hRv1
  have y3 : 0 ≤ (g 113 14).toInt ∧ (g 113 14).toInt ≤ 160 := Inv.rd (r := 113) (c := 8) hI 14 rfl
  refine S1.ite (fun hc2 => ?_) (fun hc2 => ?_)
  · skip
    have chc2 := zc_neT hc2
    exact S1.ret (show True ∧ True ∧ (false = true → True) ∧ (false = false → True) from ⟨trivial, trivial, (fun _ => trivial), (fun _ => trivial)⟩)
  · skip
    have chc2 := zc_neF hc2
    refine S1.ite (fun hc3 => ?_) (fun hc3 => ?_)
    · skip
      have chc3 := zc_eqT hc3
      exact S1.ret (show True ∧ True ∧ (true = true → True) ∧ (true = false → True) from ⟨trivial, trivial, (fun _ => trivial), (fun _ => trivial)⟩)
    · skip
      have chc3 := zc_eqF hc3
      try have y4 := zi_add (x := (g 113 16)) (y := (4 : Int32)) (by omega) (by omega)
      refine S1.bd (s_114 ((g 113 16) + 4) g hI (by omega)) ?_
      intro v4 hvv4 hRv4
      have hRv4 : True ∧ (((g 113 14).toInt ≤ ((g 113 16) + 4).toInt → v4.toInt = -1) ∧ (((g 113 16) + 4).toInt < (g 113 14).toInt → v4.toInt = (g 117 ((g 113 16) + 4).toInt.toNat).toInt)) := hRv4
      refine S1.ite (fun hc5 => ?_) (fun hc5 => ?_)
      · skip
        have chc5 := zc_neT hc5
        exact S1.ret (show True ∧ True ∧ (false = true → True) ∧ (false = false → True) from ⟨trivial, trivial, (fun _ => trivial), (fun _ => trivial)⟩)
      · skip
        have chc5 := zc_neF hc5
        exact S1.ret (show True ∧ True ∧ (true = true → True) ∧ (true = false → True) from ⟨trivial, trivial, (fun _ => trivial), (fun _ => trivial)⟩)
theorem s_117_95 (g : G) (hI : Inv g) (hp : True) : S1 (d_117_95 g) (fun q : Int32 => True ∧ True) := by
  unfold d_117_95
  have Lm4 := zl_m4
  have L0 := zl_0
  have L4 := zl_4
  have L5 := zl_5
  have L100 := zl_100
  have L101 := zl_101
  have L110 := zl_110
  have L111 := zl_111
  have L114 := zl_114
  have L115 := zl_115
  have L118 := zl_118
  refine S1.bd (s_115 (5 : Int32) (110 : Int32) (101 : Int32) (118 : Int32) g hI trivial) ?_
  intro v9 hvv9 hRv9
  have hRv9 : True ∧ True ∧ (v9 = true → True) ∧ (v9 = false → True) := hRv9
  refine S1.ite (fun hc10 => ?_) (fun hc10 => ?_)
  · skip
    have chc10 := hRv9.2.2.1 hc10
    refine S1.bd (s_116 (101 : Int32) (114 : Int32) g hI trivial) ?_
    intro v15 hvv15 hRv15
    have hRv15 : True ∧ True ∧ (v15 = true → True) ∧ (v15 = false → True) := hRv15
    refine S1.ite (fun hc16 => ?_) (fun hc16 => ?_)
    · skip
      have chc16 := hRv15.2.2.1 hc16
      exact S1.ret (show True ∧ True from ⟨trivial, trivial⟩)
    · skip
      have chc16 := hRv15.2.2.2 hc16
      refine S1.bd (s_115 (4 : Int32) (111 : Int32) (100 : Int32) (100 : Int32) g hI trivial) ?_
      intro v17 hvv17 hRv17
      have hRv17 : True ∧ True ∧ (v17 = true → True) ∧ (v17 = false → True) := hRv17
      refine S1.ite (fun hc18 => ?_) (fun hc18 => ?_)
      · skip
        have chc18 := hRv17.2.2.1 hc18
        refine S1.bd (s_116 (115 : Int32) (0 : Int32) g hI trivial) ?_
        intro v19 hvv19 hRv19
        have hRv19 : True ∧ True ∧ (v19 = true → True) ∧ (v19 = false → True) := hRv19
        refine S1.ite (fun hc20 => ?_) (fun hc20 => ?_)
        · skip
          have chc20 := hRv19.2.2.1 hc20
          exact S1.ret (show True ∧ True from ⟨trivial, trivial⟩)
        · skip
          have chc20 := hRv19.2.2.2 hc20
          exact S1.ret (show True ∧ True from ⟨trivial, trivial⟩)
      · skip
        have chc18 := hRv17.2.2.2 hc18
        exact S1.ret (show True ∧ True from ⟨trivial, trivial⟩)
  · skip
    have chc10 := hRv9.2.2.2 hc10
    refine S1.bd (s_115 (4 : Int32) (111 : Int32) (100 : Int32) (100 : Int32) g hI trivial) ?_
    intro v11 hvv11 hRv11
    have hRv11 : True ∧ True ∧ (v11 = true → True) ∧ (v11 = false → True) := hRv11
    refine S1.ite (fun hc12 => ?_) (fun hc12 => ?_)
    · skip
      have chc12 := hRv11.2.2.1 hc12
      refine S1.bd (s_116 (115 : Int32) (0 : Int32) g hI trivial) ?_
      intro v13 hvv13 hRv13
      have hRv13 : True ∧ True ∧ (v13 = true → True) ∧ (v13 = false → True) := hRv13
      refine S1.ite (fun hc14 => ?_) (fun hc14 => ?_)
      · skip
        have chc14 := hRv13.2.2.1 hc14
        exact S1.ret (show True ∧ True from ⟨trivial, trivial⟩)
      · skip
        have chc14 := hRv13.2.2.2 hc14
        exact S1.ret (show True ∧ True from ⟨trivial, trivial⟩)
    · skip
      have chc12 := hRv11.2.2.2 hc12
      exact S1.ret (show True ∧ True from ⟨trivial, trivial⟩)
theorem s_117_27 (g : G) (hI : Inv g) (hp : True) : S1 (d_117_27 g) (fun q : Int32 => True ∧ True) := by
  unfold d_117_27
  have L0 := zl_0
  have L1 := zl_1
  have L2 := zl_2
  have L3 := zl_3
  have L4 := zl_4
  have L100 := zl_100
  have L101 := zl_101
  have L109 := zl_109
  have L110 := zl_110
  have L111 := zl_111
  have L115 := zl_115
  have L116 := zl_116
  have L117 := zl_117
  refine S1.bd (s_115 (3 : Int32) (111 : Int32) (110 : Int32) (101 : Int32) g hI trivial) ?_
  intro v3 hvv3 hRv3
  have hRv3 : True ∧ True ∧ (v3 = true → True) ∧ (v3 = false → True) := hRv3
  refine S1.ite (fun hc4 => ?_) (fun hc4 => ?_)
  · skip
    have chc4 := hRv3.2.2.1 hc4
    exact S1.ret (show True ∧ True from ⟨trivial, trivial⟩)
  · skip
    have chc4 := hRv3.2.2.2 hc4
    refine S1.bd (s_115 (4 : Int32) (100 : Int32) (101 : Int32) (101 : Int32) g hI trivial) ?_
    intro v5 hvv5 hRv5
    have hRv5 : True ∧ True ∧ (v5 = true → True) ∧ (v5 = false → True) := hRv5
    refine S1.ite (fun hc6 => ?_) (fun hc6 => ?_)
    · skip
      have chc6 := hRv5.2.2.1 hc6
      refine S1.bd (s_116 (100 : Int32) (0 : Int32) g hI trivial) ?_
      intro v23 hvv23 hRv23
      have hRv23 : True ∧ True ∧ (v23 = true → True) ∧ (v23 = false → True) := hRv23
      refine S1.ite (fun hc24 => ?_) (fun hc24 => ?_)
      · skip
        have chc24 := hRv23.2.2.1 hc24
        exact S1.ret (show True ∧ True from ⟨trivial, trivial⟩)
      · skip
        have chc24 := hRv23.2.2.2 hc24
        refine S1.bd (s_115 (4 : Int32) (109 : Int32) (117 : Int32) (115 : Int32) g hI trivial) ?_
        intro v25 hvv25 hRv25
        have hRv25 : True ∧ True ∧ (v25 = true → True) ∧ (v25 = false → True) := hRv25
        refine S1.ite (fun hc26 => ?_) (fun hc26 => ?_)
        · skip
          have chc26 := hRv25.2.2.1 hc26
          refine S1.bd (s_116 (116 : Int32) (0 : Int32) g hI trivial) ?_
          intro v27 hvv27 hRv27
          have hRv27 : True ∧ True ∧ (v27 = true → True) ∧ (v27 = false → True) := hRv27
          refine S1.ite (fun hc28 => ?_) (fun hc28 => ?_)
          · skip
            have chc28 := hRv27.2.2.1 hc28
            exact S1.ret (show True ∧ True from ⟨trivial, trivial⟩)
          · skip
            have chc28 := hRv27.2.2.2 hc28
            exact (s_117_95 g hI trivial)
        · skip
          have chc26 := hRv25.2.2.2 hc26
          exact (s_117_95 g hI trivial)
    · skip
      have chc6 := hRv5.2.2.2 hc6
      refine S1.bd (s_115 (4 : Int32) (109 : Int32) (117 : Int32) (115 : Int32) g hI trivial) ?_
      intro v7 hvv7 hRv7
      have hRv7 : True ∧ True ∧ (v7 = true → True) ∧ (v7 = false → True) := hRv7
      refine S1.ite (fun hc8 => ?_) (fun hc8 => ?_)
      · skip
        have chc8 := hRv7.2.2.1 hc8
        refine S1.bd (s_116 (116 : Int32) (0 : Int32) g hI trivial) ?_
        intro v21 hvv21 hRv21
        have hRv21 : True ∧ True ∧ (v21 = true → True) ∧ (v21 = false → True) := hRv21
        refine S1.ite (fun hc22 => ?_) (fun hc22 => ?_)
        · skip
          have chc22 := hRv21.2.2.1 hc22
          exact S1.ret (show True ∧ True from ⟨trivial, trivial⟩)
        · skip
          have chc22 := hRv21.2.2.2 hc22
          exact (s_117_95 g hI trivial)
      · skip
        have chc8 := hRv7.2.2.2 hc8
        exact (s_117_95 g hI trivial)
/-- EveningFirstModel.lineNow -/
theorem s_117 (g : G) (hI : Inv g) (hp : True) : S1 (d_117 g) (fun q : Int32 => True ∧ True) := by
  unfold d_117
  have L0 := zl_0
  have L5 := zl_5
  have L104 := zl_104
  have L111 := zl_111
  have L114 := zl_114
  have L115 := zl_115
  have L117 := zl_117
  refine S1.bd (s_115 (5 : Int32) (104 : Int32) (111 : Int32) (117 : Int32) g hI trivial) ?_
  intro v1 hvv1 hRv1
  have hRv1 : True ∧ True ∧ (v1 = true → True) ∧ (v1 = false → True) := hRv1
  refine S1.ite (fun hc2 => ?_) (fun hc2 => ?_)
  · skip
    have chc2 := hRv1.2.2.1 hc2
    refine S1.bd (s_116 (114 : Int32) (115 : Int32) g hI trivial) ?_
    intro v29 hvv29 hRv29
    have hRv29 : True ∧ True ∧ (v29 = true → True) ∧ (v29 = false → True) := hRv29
    refine S1.ite (fun hc30 => ?_) (fun hc30 => ?_)
    · skip
      have chc30 := hRv29.2.2.1 hc30
      exact S1.ret (show True ∧ True from ⟨trivial, trivial⟩)
    · skip
      have chc30 := hRv29.2.2.2 hc30
      exact (s_117_27 g hI trivial)
  · skip
    have chc2 := hRv1.2.2.2 hc2
    exact (s_117_27 g hI trivial)
/-- EveningFirstModel.looked -/
theorem s_120 (x1 : Int32) (x2 : Int32) (g : G) (hI : Inv g) (hp : x1.toInt ≤ x2.toInt) : T1 (d_120 x1 x2 g) (fun q : Int32 × G => Inv q.2 ∧ ((q.2 113 6).toInt = (g 113 6).toInt ∧ (q.2 113 14).toInt = (g 113 14).toInt ∧ (q.2 116 8).toInt = (g 116 8).toInt ∧ ((g 113 19).toInt ≠ 0 → (q.2 113 19).toInt ≠ 0) ∧ (q.2 113 15).toInt = (g 113 15).toInt ∧ (q.1.toInt = 0 ∨ x1.toInt ≤ q.1.toInt ∧ q.1.toInt ≤ x2.toInt))) := by
  unfold d_120
  have L0 := zl_0
  have L1 := zl_1
  have L2 := zl_2
  have L3 := zl_3
  have yp62 : 0 ≤ (g 113 14).toInt ∧ (g 113 14).toInt ≤ 160 := Inv.rd (r := 113) (c := 8) hI 14 rfl
  have yp63 : 0 ≤ (g 113 15).toInt ∧ (g 113 15).toInt ≤ 160 := Inv.rd (r := 113) (c := 8) hI 15 rfl
  have yp64 : 0 ≤ (g 113 16).toInt ∧ (g 113 16).toInt ≤ 160 := Inv.rd (r := 113) (c := 8) hI 16 rfl
  have yp65 : 0 ≤ (g 113 19).toInt ∧ (g 113 19).toInt ≤ 6 := Inv.rd (r := 113) (c := 8) hI 19 rfl
  have yp66 : 0 ≤ (g 113 6).toInt ∧ (g 113 6).toInt ≤ 4 := Inv.rd (r := 113) (c := 8) hI 6 rfl
  have yp67 := hI.d8
  have y1 : 0 ≤ (g 113 19).toInt ∧ (g 113 19).toInt ≤ 6 := Inv.rd (r := 113) (c := 8) hI 19 rfl
  refine T1.ite (fun hc1 => ?_) (fun hc1 => ?_)
  · skip
    have chc1 := zc_neT hc1
    refine T1.ite (fun hc2 => ?_) (fun hc2 => ?_)
    · skip
      have chc2 := zc_neT hc2
      refine T1.ite (fun hc3 => ?_) (fun hc3 => ?_)
      · skip
        have chc3 := zc_neT hc3
        exact T1.ret (show Inv g ∧ ((g 113 6).toInt = (g 113 6).toInt ∧ (g 113 14).toInt = (g 113 14).toInt ∧ (g 116 8).toInt = (g 116 8).toInt ∧ ((g 113 19).toInt ≠ 0 → (g 113 19).toInt ≠ 0) ∧ (g 113 15).toInt = (g 113 15).toInt ∧ ((0 : Int32).toInt = 0 ∨ x1.toInt ≤ (0 : Int32).toInt ∧ (0 : Int32).toInt ≤ x2.toInt)) from ⟨hI, (by omega)⟩)
      · skip
        have chc3 := zc_neF hc3
        exact T1.ret (show Inv g ∧ ((g 113 6).toInt = (g 113 6).toInt ∧ (g 113 14).toInt = (g 113 14).toInt ∧ (g 116 8).toInt = (g 116 8).toInt ∧ ((g 113 19).toInt ≠ 0 → (g 113 19).toInt ≠ 0) ∧ (g 113 15).toInt = (g 113 15).toInt ∧ ((g 113 18).toInt = 0 ∨ x1.toInt ≤ (g 113 18).toInt ∧ (g 113 18).toInt ≤ x2.toInt)) from ⟨hI, (by omega)⟩)
    · skip
      have chc2 := zc_neF hc2
      have y2 := zi_i64 (g 113 18)
      have y3 := zi_i64 x1
      have y4 := zi_i64 x2
      refine T1.lc (zin_c (a := (Int32.toInt64 (g 113 18))) (b := (Int32.toInt64 x1)) (c := (Int32.toInt64 x2))) ?_
      intro v4 hvv4 hRv4
      have hRv4 : (v4 = true → (Int32.toInt64 x1).toInt ≤ (Int32.toInt64 (g 113 18)).toInt ∧ (Int32.toInt64 (g 113 18)).toInt ≤ (Int32.toInt64 x2).toInt) ∧ (v4 = false → (Int32.toInt64 (g 113 18)).toInt < (Int32.toInt64 x1).toInt ∨ (Int32.toInt64 x2).toInt < (Int32.toInt64 (g 113 18)).toInt) := hRv4
      have y5 := zi_b v4
      have y6 := zi_bp hRv4
      refine T1.lc (s_113 (zb_i v4) (3 : Int32) g hI (by omega)) ?_
      intro g5 hvg5 hRg5
      have hRg5 : Inv g5 ∧ ((g5 113 6).toInt = (g 113 6).toInt ∧ (g5 113 14).toInt = (g 113 14).toInt ∧ (g5 116 8).toInt = (g 116 8).toInt ∧ (g5 113 15).toInt = (g 113 15).toInt ∧ (g5 113 16).toInt = (g 113 16).toInt ∧ (g5 113 17).toInt = (g 113 17).toInt ∧ (g5 113 18).toInt = (g 113 18).toInt ∧ ((g 113 19).toInt ≠ 0 → (g5 113 19).toInt ≠ 0) ∧ ((zb_i v4).toInt = 0 → (g5 113 19).toInt ≠ 0) ∧ ((zb_i v4).toInt ≠ 0 → (g5 113 19).toInt = (g 113 19).toInt)) := hRg5
      have y7 : 0 ≤ (g 113 14).toInt ∧ (g 113 14).toInt ≤ 160 := Inv.rd (r := 113) (c := 8) hI 14 rfl
      have y8 : 0 ≤ (g 113 15).toInt ∧ (g 113 15).toInt ≤ 160 := Inv.rd (r := 113) (c := 8) hI 15 rfl
      have y9 : 0 ≤ (g 113 16).toInt ∧ (g 113 16).toInt ≤ 160 := Inv.rd (r := 113) (c := 8) hI 16 rfl
      have y10 : 0 ≤ (g 113 6).toInt ∧ (g 113 6).toInt ≤ 4 := Inv.rd (r := 113) (c := 8) hI 6 rfl
      have y11 := hI.d8
      have y12 : 0 ≤ (g5 113 6).toInt ∧ (g5 113 6).toInt ≤ 4 := Inv.rd (r := 113) (c := 8) hRg5.1 6 rfl
      have y13 : 0 ≤ (g5 113 14).toInt ∧ (g5 113 14).toInt ≤ 160 := Inv.rd (r := 113) (c := 8) hRg5.1 14 rfl
      have y14 : 0 ≤ (g5 113 15).toInt ∧ (g5 113 15).toInt ≤ 160 := Inv.rd (r := 113) (c := 8) hRg5.1 15 rfl
      have y15 : 0 ≤ (g5 113 16).toInt ∧ (g5 113 16).toInt ≤ 160 := Inv.rd (r := 113) (c := 8) hRg5.1 16 rfl
      have y16 : 0 ≤ (g5 113 19).toInt ∧ (g5 113 19).toInt ≤ 6 := Inv.rd (r := 113) (c := 8) hRg5.1 19 rfl
      have y17 := hRg5.1.d8
      refine T1.ite (fun hc6 => ?_) (fun hc6 => ?_)
      · skip
        have chc6 := zc_neT hc6
        exact T1.ret (show Inv g5 ∧ ((g5 113 6).toInt = (g 113 6).toInt ∧ (g5 113 14).toInt = (g 113 14).toInt ∧ (g5 116 8).toInt = (g 116 8).toInt ∧ ((g 113 19).toInt ≠ 0 → (g5 113 19).toInt ≠ 0) ∧ (g5 113 15).toInt = (g 113 15).toInt ∧ ((0 : Int32).toInt = 0 ∨ x1.toInt ≤ (0 : Int32).toInt ∧ (0 : Int32).toInt ≤ x2.toInt)) from ⟨hRg5.1, (by omega)⟩)
      · skip
        have chc6 := zc_neF hc6
        exact T1.ret (show Inv g5 ∧ ((g5 113 6).toInt = (g 113 6).toInt ∧ (g5 113 14).toInt = (g 113 14).toInt ∧ (g5 116 8).toInt = (g 116 8).toInt ∧ ((g 113 19).toInt ≠ 0 → (g5 113 19).toInt ≠ 0) ∧ (g5 113 15).toInt = (g 113 15).toInt ∧ ((g5 113 18).toInt = 0 ∨ x1.toInt ≤ (g5 113 18).toInt ∧ (g5 113 18).toInt ≤ x2.toInt)) from ⟨hRg5.1, (by omega)⟩)
  · skip
    have chc1 := zc_neF hc1
    refine T1.ite (fun hc7 => ?_) (fun hc7 => ?_)
    · skip
      have chc7 := zc_neT hc7
      refine T1.lc (s_113 (0 : Int32) (2 : Int32) g hI (by omega)) ?_
      intro g8 hvg8 hRg8
      have hRg8 : Inv g8 ∧ ((g8 113 6).toInt = (g 113 6).toInt ∧ (g8 113 14).toInt = (g 113 14).toInt ∧ (g8 116 8).toInt = (g 116 8).toInt ∧ (g8 113 15).toInt = (g 113 15).toInt ∧ (g8 113 16).toInt = (g 113 16).toInt ∧ (g8 113 17).toInt = (g 113 17).toInt ∧ (g8 113 18).toInt = (g 113 18).toInt ∧ ((g 113 19).toInt ≠ 0 → (g8 113 19).toInt ≠ 0) ∧ ((0 : Int32).toInt = 0 → (g8 113 19).toInt ≠ 0) ∧ ((0 : Int32).toInt ≠ 0 → (g8 113 19).toInt = (g 113 19).toInt)) := hRg8
      have y18 : 0 ≤ (g 113 14).toInt ∧ (g 113 14).toInt ≤ 160 := Inv.rd (r := 113) (c := 8) hI 14 rfl
      have y19 : 0 ≤ (g 113 15).toInt ∧ (g 113 15).toInt ≤ 160 := Inv.rd (r := 113) (c := 8) hI 15 rfl
      have y20 : 0 ≤ (g 113 16).toInt ∧ (g 113 16).toInt ≤ 160 := Inv.rd (r := 113) (c := 8) hI 16 rfl
      have y21 : 0 ≤ (g 113 6).toInt ∧ (g 113 6).toInt ≤ 4 := Inv.rd (r := 113) (c := 8) hI 6 rfl
      have y22 := hI.d8
      have y23 : 0 ≤ (g8 113 6).toInt ∧ (g8 113 6).toInt ≤ 4 := Inv.rd (r := 113) (c := 8) hRg8.1 6 rfl
      have y24 : 0 ≤ (g8 113 14).toInt ∧ (g8 113 14).toInt ≤ 160 := Inv.rd (r := 113) (c := 8) hRg8.1 14 rfl
      have y25 : 0 ≤ (g8 113 15).toInt ∧ (g8 113 15).toInt ≤ 160 := Inv.rd (r := 113) (c := 8) hRg8.1 15 rfl
      have y26 : 0 ≤ (g8 113 16).toInt ∧ (g8 113 16).toInt ≤ 160 := Inv.rd (r := 113) (c := 8) hRg8.1 16 rfl
      have y27 : 0 ≤ (g8 113 19).toInt ∧ (g8 113 19).toInt ≤ 6 := Inv.rd (r := 113) (c := 8) hRg8.1 19 rfl
      have y28 := hRg8.1.d8
      refine T1.ite (fun hc9 => ?_) (fun hc9 => ?_)
      · skip
        have chc9 := zc_neT hc9
        refine T1.ite (fun hc10 => ?_) (fun hc10 => ?_)
        · skip
          have chc10 := zc_neT hc10
          exact T1.ret (show Inv g8 ∧ ((g8 113 6).toInt = (g 113 6).toInt ∧ (g8 113 14).toInt = (g 113 14).toInt ∧ (g8 116 8).toInt = (g 116 8).toInt ∧ ((g 113 19).toInt ≠ 0 → (g8 113 19).toInt ≠ 0) ∧ (g8 113 15).toInt = (g 113 15).toInt ∧ ((0 : Int32).toInt = 0 ∨ x1.toInt ≤ (0 : Int32).toInt ∧ (0 : Int32).toInt ≤ x2.toInt)) from ⟨hRg8.1, (by omega)⟩)
        · skip
          have chc10 := zc_neF hc10
          exact T1.ret (show Inv g8 ∧ ((g8 113 6).toInt = (g 113 6).toInt ∧ (g8 113 14).toInt = (g 113 14).toInt ∧ (g8 116 8).toInt = (g 116 8).toInt ∧ ((g 113 19).toInt ≠ 0 → (g8 113 19).toInt ≠ 0) ∧ (g8 113 15).toInt = (g 113 15).toInt ∧ ((g8 113 18).toInt = 0 ∨ x1.toInt ≤ (g8 113 18).toInt ∧ (g8 113 18).toInt ≤ x2.toInt)) from ⟨hRg8.1, (by omega)⟩)
      · skip
        have chc9 := zc_neF hc9
        have y29 := zi_i64 (g8 113 18)
        have y30 := zi_i64 x1
        have y31 := zi_i64 x2
        refine T1.lc (zin_c (a := (Int32.toInt64 (g8 113 18))) (b := (Int32.toInt64 x1)) (c := (Int32.toInt64 x2))) ?_
        intro v11 hvv11 hRv11
        have hRv11 : (v11 = true → (Int32.toInt64 x1).toInt ≤ (Int32.toInt64 (g8 113 18)).toInt ∧ (Int32.toInt64 (g8 113 18)).toInt ≤ (Int32.toInt64 x2).toInt) ∧ (v11 = false → (Int32.toInt64 (g8 113 18)).toInt < (Int32.toInt64 x1).toInt ∨ (Int32.toInt64 x2).toInt < (Int32.toInt64 (g8 113 18)).toInt) := hRv11
        have y32 := zi_b v11
        have y33 := zi_bp hRv11
        refine T1.lc (s_113 (zb_i v11) (3 : Int32) g8 hRg8.1 (by omega)) ?_
        intro g12 hvg12 hRg12
        have hRg12 : Inv g12 ∧ ((g12 113 6).toInt = (g8 113 6).toInt ∧ (g12 113 14).toInt = (g8 113 14).toInt ∧ (g12 116 8).toInt = (g8 116 8).toInt ∧ (g12 113 15).toInt = (g8 113 15).toInt ∧ (g12 113 16).toInt = (g8 113 16).toInt ∧ (g12 113 17).toInt = (g8 113 17).toInt ∧ (g12 113 18).toInt = (g8 113 18).toInt ∧ ((g8 113 19).toInt ≠ 0 → (g12 113 19).toInt ≠ 0) ∧ ((zb_i v11).toInt = 0 → (g12 113 19).toInt ≠ 0) ∧ ((zb_i v11).toInt ≠ 0 → (g12 113 19).toInt = (g8 113 19).toInt)) := hRg12
        have y34 : 0 ≤ (g12 113 6).toInt ∧ (g12 113 6).toInt ≤ 4 := Inv.rd (r := 113) (c := 8) hRg12.1 6 rfl
        have y35 : 0 ≤ (g12 113 14).toInt ∧ (g12 113 14).toInt ≤ 160 := Inv.rd (r := 113) (c := 8) hRg12.1 14 rfl
        have y36 : 0 ≤ (g12 113 15).toInt ∧ (g12 113 15).toInt ≤ 160 := Inv.rd (r := 113) (c := 8) hRg12.1 15 rfl
        have y37 : 0 ≤ (g12 113 16).toInt ∧ (g12 113 16).toInt ≤ 160 := Inv.rd (r := 113) (c := 8) hRg12.1 16 rfl
        have y38 : 0 ≤ (g12 113 19).toInt ∧ (g12 113 19).toInt ≤ 6 := Inv.rd (r := 113) (c := 8) hRg12.1 19 rfl
        have y39 := hRg12.1.d8
        refine T1.ite (fun hc13 => ?_) (fun hc13 => ?_)
        · skip
          have chc13 := zc_neT hc13
          exact T1.ret (show Inv g12 ∧ ((g12 113 6).toInt = (g 113 6).toInt ∧ (g12 113 14).toInt = (g 113 14).toInt ∧ (g12 116 8).toInt = (g 116 8).toInt ∧ ((g 113 19).toInt ≠ 0 → (g12 113 19).toInt ≠ 0) ∧ (g12 113 15).toInt = (g 113 15).toInt ∧ ((0 : Int32).toInt = 0 ∨ x1.toInt ≤ (0 : Int32).toInt ∧ (0 : Int32).toInt ≤ x2.toInt)) from ⟨hRg12.1, (by omega)⟩)
        · skip
          have chc13 := zc_neF hc13
          exact T1.ret (show Inv g12 ∧ ((g12 113 6).toInt = (g 113 6).toInt ∧ (g12 113 14).toInt = (g 113 14).toInt ∧ (g12 116 8).toInt = (g 116 8).toInt ∧ ((g 113 19).toInt ≠ 0 → (g12 113 19).toInt ≠ 0) ∧ (g12 113 15).toInt = (g 113 15).toInt ∧ ((g12 113 18).toInt = 0 ∨ x1.toInt ≤ (g12 113 18).toInt ∧ (g12 113 18).toInt ≤ x2.toInt)) from ⟨hRg12.1, (by omega)⟩)
    · skip
      have chc7 := zc_neF hc7
      refine T1.lc (s_113 (1 : Int32) (2 : Int32) g hI (by omega)) ?_
      intro g14 hvg14 hRg14
      have hRg14 : Inv g14 ∧ ((g14 113 6).toInt = (g 113 6).toInt ∧ (g14 113 14).toInt = (g 113 14).toInt ∧ (g14 116 8).toInt = (g 116 8).toInt ∧ (g14 113 15).toInt = (g 113 15).toInt ∧ (g14 113 16).toInt = (g 113 16).toInt ∧ (g14 113 17).toInt = (g 113 17).toInt ∧ (g14 113 18).toInt = (g 113 18).toInt ∧ ((g 113 19).toInt ≠ 0 → (g14 113 19).toInt ≠ 0) ∧ ((1 : Int32).toInt = 0 → (g14 113 19).toInt ≠ 0) ∧ ((1 : Int32).toInt ≠ 0 → (g14 113 19).toInt = (g 113 19).toInt)) := hRg14
      have y40 : 0 ≤ (g 113 14).toInt ∧ (g 113 14).toInt ≤ 160 := Inv.rd (r := 113) (c := 8) hI 14 rfl
      have y41 : 0 ≤ (g 113 15).toInt ∧ (g 113 15).toInt ≤ 160 := Inv.rd (r := 113) (c := 8) hI 15 rfl
      have y42 : 0 ≤ (g 113 16).toInt ∧ (g 113 16).toInt ≤ 160 := Inv.rd (r := 113) (c := 8) hI 16 rfl
      have y43 : 0 ≤ (g 113 6).toInt ∧ (g 113 6).toInt ≤ 4 := Inv.rd (r := 113) (c := 8) hI 6 rfl
      have y44 := hI.d8
      have y45 : 0 ≤ (g14 113 6).toInt ∧ (g14 113 6).toInt ≤ 4 := Inv.rd (r := 113) (c := 8) hRg14.1 6 rfl
      have y46 : 0 ≤ (g14 113 14).toInt ∧ (g14 113 14).toInt ≤ 160 := Inv.rd (r := 113) (c := 8) hRg14.1 14 rfl
      have y47 : 0 ≤ (g14 113 15).toInt ∧ (g14 113 15).toInt ≤ 160 := Inv.rd (r := 113) (c := 8) hRg14.1 15 rfl
      have y48 : 0 ≤ (g14 113 16).toInt ∧ (g14 113 16).toInt ≤ 160 := Inv.rd (r := 113) (c := 8) hRg14.1 16 rfl
      have y49 : 0 ≤ (g14 113 19).toInt ∧ (g14 113 19).toInt ≤ 6 := Inv.rd (r := 113) (c := 8) hRg14.1 19 rfl
      have y50 := hRg14.1.d8
      refine T1.ite (fun hc15 => ?_) (fun hc15 => ?_)
      · skip
        have chc15 := zc_neT hc15
        refine T1.ite (fun hc16 => ?_) (fun hc16 => ?_)
        · skip
          have chc16 := zc_neT hc16
          exact T1.ret (show Inv g14 ∧ ((g14 113 6).toInt = (g 113 6).toInt ∧ (g14 113 14).toInt = (g 113 14).toInt ∧ (g14 116 8).toInt = (g 116 8).toInt ∧ ((g 113 19).toInt ≠ 0 → (g14 113 19).toInt ≠ 0) ∧ (g14 113 15).toInt = (g 113 15).toInt ∧ ((0 : Int32).toInt = 0 ∨ x1.toInt ≤ (0 : Int32).toInt ∧ (0 : Int32).toInt ≤ x2.toInt)) from ⟨hRg14.1, (by omega)⟩)
        · skip
          have chc16 := zc_neF hc16
          exact T1.ret (show Inv g14 ∧ ((g14 113 6).toInt = (g 113 6).toInt ∧ (g14 113 14).toInt = (g 113 14).toInt ∧ (g14 116 8).toInt = (g 116 8).toInt ∧ ((g 113 19).toInt ≠ 0 → (g14 113 19).toInt ≠ 0) ∧ (g14 113 15).toInt = (g 113 15).toInt ∧ ((g14 113 18).toInt = 0 ∨ x1.toInt ≤ (g14 113 18).toInt ∧ (g14 113 18).toInt ≤ x2.toInt)) from ⟨hRg14.1, (by omega)⟩)
      · skip
        have chc15 := zc_neF hc15
        have y51 := zi_i64 (g14 113 18)
        have y52 := zi_i64 x1
        have y53 := zi_i64 x2
        refine T1.lc (zin_c (a := (Int32.toInt64 (g14 113 18))) (b := (Int32.toInt64 x1)) (c := (Int32.toInt64 x2))) ?_
        intro v17 hvv17 hRv17
        have hRv17 : (v17 = true → (Int32.toInt64 x1).toInt ≤ (Int32.toInt64 (g14 113 18)).toInt ∧ (Int32.toInt64 (g14 113 18)).toInt ≤ (Int32.toInt64 x2).toInt) ∧ (v17 = false → (Int32.toInt64 (g14 113 18)).toInt < (Int32.toInt64 x1).toInt ∨ (Int32.toInt64 x2).toInt < (Int32.toInt64 (g14 113 18)).toInt) := hRv17
        have y54 := zi_b v17
        have y55 := zi_bp hRv17
        refine T1.lc (s_113 (zb_i v17) (3 : Int32) g14 hRg14.1 (by omega)) ?_
        intro g18 hvg18 hRg18
        have hRg18 : Inv g18 ∧ ((g18 113 6).toInt = (g14 113 6).toInt ∧ (g18 113 14).toInt = (g14 113 14).toInt ∧ (g18 116 8).toInt = (g14 116 8).toInt ∧ (g18 113 15).toInt = (g14 113 15).toInt ∧ (g18 113 16).toInt = (g14 113 16).toInt ∧ (g18 113 17).toInt = (g14 113 17).toInt ∧ (g18 113 18).toInt = (g14 113 18).toInt ∧ ((g14 113 19).toInt ≠ 0 → (g18 113 19).toInt ≠ 0) ∧ ((zb_i v17).toInt = 0 → (g18 113 19).toInt ≠ 0) ∧ ((zb_i v17).toInt ≠ 0 → (g18 113 19).toInt = (g14 113 19).toInt)) := hRg18
        have y56 : 0 ≤ (g18 113 6).toInt ∧ (g18 113 6).toInt ≤ 4 := Inv.rd (r := 113) (c := 8) hRg18.1 6 rfl
        have y57 : 0 ≤ (g18 113 14).toInt ∧ (g18 113 14).toInt ≤ 160 := Inv.rd (r := 113) (c := 8) hRg18.1 14 rfl
        have y58 : 0 ≤ (g18 113 15).toInt ∧ (g18 113 15).toInt ≤ 160 := Inv.rd (r := 113) (c := 8) hRg18.1 15 rfl
        have y59 : 0 ≤ (g18 113 16).toInt ∧ (g18 113 16).toInt ≤ 160 := Inv.rd (r := 113) (c := 8) hRg18.1 16 rfl
        have y60 : 0 ≤ (g18 113 19).toInt ∧ (g18 113 19).toInt ≤ 6 := Inv.rd (r := 113) (c := 8) hRg18.1 19 rfl
        have y61 := hRg18.1.d8
        refine T1.ite (fun hc19 => ?_) (fun hc19 => ?_)
        · skip
          have chc19 := zc_neT hc19
          exact T1.ret (show Inv g18 ∧ ((g18 113 6).toInt = (g 113 6).toInt ∧ (g18 113 14).toInt = (g 113 14).toInt ∧ (g18 116 8).toInt = (g 116 8).toInt ∧ ((g 113 19).toInt ≠ 0 → (g18 113 19).toInt ≠ 0) ∧ (g18 113 15).toInt = (g 113 15).toInt ∧ ((0 : Int32).toInt = 0 ∨ x1.toInt ≤ (0 : Int32).toInt ∧ (0 : Int32).toInt ≤ x2.toInt)) from ⟨hRg18.1, (by omega)⟩)
        · skip
          have chc19 := zc_neF hc19
          exact T1.ret (show Inv g18 ∧ ((g18 113 6).toInt = (g 113 6).toInt ∧ (g18 113 14).toInt = (g 113 14).toInt ∧ (g18 116 8).toInt = (g 116 8).toInt ∧ ((g 113 19).toInt ≠ 0 → (g18 113 19).toInt ≠ 0) ∧ (g18 113 15).toInt = (g 113 15).toInt ∧ ((g18 113 18).toInt = 0 ∨ x1.toInt ≤ (g18 113 18).toInt ∧ (g18 113 18).toInt ≤ x2.toInt)) from ⟨hRg18.1, (by omega)⟩)
