/-! printed by wip/tools/safe.py -/
theorem s_167_23 (x1 : Int32) : ∀ (f : Nat) (x2 : Int32) (x3 : Int32) (x4 : Int32) (g : G), Inv g → 0 ≤ x4.toInt ∧ x4.toInt ≤ 8 ∧ 8 - x4.toInt < (f : Int) → S1 (d_167_23 x1 f x2 x3 x4 g) (fun q : Int32 × G => Inv q.2 ∧ True) := by
  intro f
  induction f with
  | zero =>
    intro x2 x3 x4 g hI hp
    exfalso
    omega
  | succ f ih =>
    intro x2 x3 x4 g hI hp
    rw [d_167_23.eq_2]
    have Lm4 := zl_m4
    have L0 := zl_0
    have L1 := zl_1
    have L2 := zl_2
    have L5 := zl_5
    have L7 := zl_7
    have L9 := zl_9
    have yp12 := hI.m8
    have y1 := hI.m8
    refine S1.ite (fun hc5 => ?_) (fun hc5 => ?_)
    · skip
      have chc5 := zc_geT hc5
      refine S1.ite (fun hc6 => ?_) (fun hc6 => ?_)
      · skip
        have chc6 := zc_neT hc6
        refine S1.ite (fun hc7 => ?_) (fun hc7 => ?_)
        · skip
          have chc7 := zc_neT hc7
          exact S1.ret (show Inv g ∧ True from ⟨hI, trivial⟩)
        · skip
          have chc7 := zc_neF hc7
          exact S1.ret (show Inv g ∧ True from ⟨hI, trivial⟩)
      · skip
        have chc6 := zc_neF hc6
        exact S1.ret (show Inv g ∧ True from ⟨hI, trivial⟩)
    · skip
      have chc5 := zc_geF hc5
      try have y2 := zi_mul (x := (7 : Int32)) (y := x4) (n := 7) (by decide) (by omega) (by omega)
      try have y3 := zi_add (x := (9 : Int32)) (y := (7 * x4)) (by omega) (by omega)
      try have y4 := zi_add (x := (9 + (7 * x4))) (y := (5 : Int32)) (by omega) (by omega)
      refine S1.bp (s_142 ((9 + (7 * x4)) + 5) (2 : Int32) g hI ⟨by omega, by omega, ((stP_d (d := x4.toInt) (o := 5) (by omega) (by omega) (by omega)).mpr ⟨fun w => by omega, fun w => by omega⟩)⟩) ?_
      intro v8 g9 hvv8 hRv8
      have hRv8 : Inv g9 ∧ (stP ((9 + (7 * x4)) + 5).toInt.toNat v8.toInt) := hRv8
      have y5 := hRv8.1.m8
      refine S1.bp (s_166 g9 hRv8.1 trivial) ?_
      intro v10 g11 hvv10 hRv10
      have hRv10 : Inv g11 ∧ True := hRv10
      have y6 := hRv10.1.m8
      refine S1.ix (by omega) ?_
      intro k13 hk13 bk13
      refine S1.lt ?_
      intro g12 hg12
      have Ig12 : Inv g12 := Inv.up hRv10.1 hg12 rfl (bdP_st (by omega) ((stP_d (d := x4.toInt) (o := 5) (by omega) (by omega) (by omega)).mpr ⟨fun w => by omega, fun w => by omega⟩))
      try have u7 : (g12 114 8).toInt = (g11 114 8).toInt := zg_upk hg12 (by omega)
      refine S1.ite (fun hc14 => ?_) (fun hc14 => ?_)
      · skip
        have chc14 := zc_geT hc14
        refine S1.ite (fun hc15 => ?_) (fun hc15 => ?_)
        · skip
          have chc15 := zc_geT hc15
          try have y8 := zi_add (x := x4) (y := (1 : Int32)) (by omega) (by omega)
          exact (ih x2 x3 (x4 + 1) g12 Ig12 (by omega))
        · skip
          have chc15 := zc_geF hc15
          try have y9 := zi_add (x := x4) (y := (1 : Int32)) (by omega) (by omega)
          exact (ih v10 x3 (x4 + 1) g12 Ig12 (by omega))
      · skip
        have chc14 := zc_geF hc14
        refine S1.ite (fun hc16 => ?_) (fun hc16 => ?_)
        · skip
          have chc16 := zc_geT hc16
          try have y10 := zi_add (x := x4) (y := (1 : Int32)) (by omega) (by omega)
          exact (ih x2 x4 (x4 + 1) g12 Ig12 (by omega))
        · skip
          have chc16 := zc_geF hc16
          try have y11 := zi_add (x := x4) (y := (1 : Int32)) (by omega) (by omega)
          exact (ih v10 x4 (x4 + 1) g12 Ig12 (by omega))
/-- EveningFirstModel.stop -/
theorem s_167 (x1 : Int32) (g : G) (hI : Inv g) (hp : True) : S1 (d_167 x1 g) (fun q : Int32 × G => Inv q.2 ∧ True) := by
  unfold d_167
  have Lm4 := zl_m4
  have Lm1 := zl_m1
  have L0 := zl_0
  have L1 := zl_1
  have y13 := zi_i64 x1
  have y14 : (0 : Int64).toInt = 0 := by decide
  have y15 : (1 : Int64).toInt = 1 := by decide
  refine S1.lc (zin_c (a := (Int32.toInt64 x1)) (b := (0 : Int64)) (c := (1 : Int64))) ?_
  intro v1 hvv1 hRv1
  have hRv1 : (v1 = true → (0 : Int64).toInt ≤ (Int32.toInt64 x1).toInt ∧ (Int32.toInt64 x1).toInt ≤ (1 : Int64).toInt) ∧ (v1 = false → (Int32.toInt64 x1).toInt < (0 : Int64).toInt ∨ (1 : Int64).toInt < (Int32.toInt64 x1).toInt) := hRv1
  refine S1.ite (fun hc2 => ?_) (fun hc2 => ?_)
  · skip
    have chc2 := hRv1.1 hc2
    refine S1.bp (s_166 g hI trivial) ?_
    intro v3 g4 hvv3 hRv3
    have hRv3 : Inv g4 ∧ True := hRv3
    exact (s_167_23 x1 300 v3 (-4 : Int32) (0 : Int32) g4 hRv3.1 (by omega))
  · skip
    have chc2 := hRv1.2 hc2
    exact S1.ret (show Inv g ∧ True from ⟨hI, trivial⟩)
/-- EveningFirst.isNoSight -/
theorem s_96 (x1 : Int32) (x2 : Int32) (x3 : Int32) (g : G) (hI : Inv g) (hp : True) : T1 (d_96 x1 x2 x3 g) (fun q : Bool => True ∧ True ∧ (q = true → True) ∧ (q = false → 0 ≤ x1.toInt ∧ x1.toInt < (g 1 1).toInt)) := by
  unfold d_96
  have yp3 : 0 ≤ (g 1 1).toInt ∧ (g 1 1).toInt ≤ 4 := Inv.rd (r := 1) (c := 2) hI 1 rfl
  refine T1.lc (s_18 1 x1 rfl g hI trivial) ?_
  intro v1 hvv1 hRv1
  have hRv1 : True ∧ True ∧ (v1 = true → 0 ≤ x1.toInt ∧ x1.toInt < (g 1 1).toInt) ∧ (v1 = false → True) := hRv1
  have y1 : 0 ≤ (g 1 1).toInt ∧ (g 1 1).toInt ≤ 4 := Inv.rd (r := 1) (c := 2) hI 1 rfl
  refine T1.ite (fun hc2 => ?_) (fun hc2 => ?_)
  · skip
    have chc2 := hRv1.2.2.1 hc2
    refine T1.lc (s_91 x2 g hI trivial) ?_
    intro v3 hvv3 hRv3
    have hRv3 : True ∧ True ∧ (v3 = true → 0 ≤ x2.toInt ∧ x2.toInt ≤ 5) ∧ (v3 = false → True) := hRv3
    refine T1.ite (fun hc4 => ?_) (fun hc4 => ?_)
    · skip
      have chc4 := hRv3.2.2.1 hc4
      refine T1.lc (s_19 1 x3 rfl g hI trivial) ?_
      intro v5 hvv5 hRv5
      have hRv5 : True ∧ True ∧ (v5 = true → 0 ≤ x3.toInt ∧ x3.toInt < (g 1 0).toInt) ∧ (v5 = false → True) := hRv5
      have y2 : 0 ≤ (g 1 0).toInt ∧ (g 1 0).toInt ≤ 8 := Inv.rd (r := 1) (c := 2) hI 0 rfl
      refine T1.ite (fun hc6 => ?_) (fun hc6 => ?_)
      · skip
        have chc6 := hRv5.2.2.1 hc6
        exact T1.ret (show True ∧ True ∧ (false = true → True) ∧ (false = false → 0 ≤ x1.toInt ∧ x1.toInt < (g 1 1).toInt) from ⟨trivial, trivial, (fun _ => trivial), (fun _ => by omega)⟩)
      · skip
        have chc6 := hRv5.2.2.2 hc6
        exact T1.ret (show True ∧ True ∧ (true = true → True) ∧ (true = false → 0 ≤ x1.toInt ∧ x1.toInt < (g 1 1).toInt) from ⟨trivial, trivial, (fun _ => trivial), (fun w => by cases w)⟩)
    · skip
      have chc4 := hRv3.2.2.2 hc4
      exact T1.ret (show True ∧ True ∧ (true = true → True) ∧ (true = false → 0 ≤ x1.toInt ∧ x1.toInt < (g 1 1).toInt) from ⟨trivial, trivial, (fun _ => trivial), (fun w => by cases w)⟩)
  · skip
    have chc2 := hRv1.2.2.2 hc2
    exact T1.ret (show True ∧ True ∧ (true = true → True) ∧ (true = false → 0 ≤ x1.toInt ∧ x1.toInt < (g 1 1).toInt) from ⟨trivial, trivial, (fun _ => trivial), (fun w => by cases w)⟩)
theorem s_74_42 (x1 : Int32) (x2 : Int32) (x3 : Int32) (x4 : Int32) (g : G) (hI : Inv g) : ∀ (f : Nat) (x5 : Int32) (x6 : Int32) (x7 : Int32), 0 ≤ x7.toInt ∧ x7.toInt ≤ 256 ∧ 256 - x7.toInt < (f : Int) ∧ 0 ≤ x1.toInt ∧ x1.toInt ≤ 3 → S1 (d_74_42 x1 x2 x3 x4 g f x5 x6 x7) (fun q : Int32 × G => Inv q.2 ∧ True) := by
  intro f
  induction f with
  | zero =>
    intro x5 x6 x7 hp
    exfalso
    omega
  | succ f ih =>
    intro x5 x6 x7 hp
    rw [d_74_42.eq_2]
    have Lm4 := zl_m4
    have L0 := zl_0
    have L1 := zl_1
    have yp6 : 0 ≤ (g 25 0).toInt ∧ (g 25 0).toInt ≤ 255 := Inv.rd (r := 25) (c := 0) hI 0 rfl
    have y1 : 0 ≤ (g 25 0).toInt ∧ (g 25 0).toInt ≤ 255 := Inv.rd (r := 25) (c := 0) hI 0 rfl
    refine S1.ite (fun hc6 => ?_) (fun hc6 => ?_)
    · skip
      have chc6 := zc_gtT hc6
      refine S1.ite (fun hc7 => ?_) (fun hc7 => ?_)
      · skip
        have chc7 := zc_neT hc7
        refine S1.ite (fun hc8 => ?_) (fun hc8 => ?_)
        · skip
          have chc8 := zc_neT hc8
          exact S1.ret (show Inv g ∧ True from ⟨hI, trivial⟩)
        · skip
          have chc8 := zc_neF hc8
          exact S1.ret (show Inv g ∧ True from ⟨hI, trivial⟩)
      · skip
        have chc7 := zc_neF hc7
        exact S1.ret (show Inv g ∧ True from ⟨hI, trivial⟩)
    · skip
      have chc6 := zc_gtF hc6
      refine S1.lt ?_
      intro v9 hvv9
      refine S1.ite (fun hc10 => ?_) (fun hc10 => ?_)
      · skip
        have chc10 := zc_geT hc10
        try have y2 := zi_add (x := x7) (y := (1 : Int32)) (by omega) (by omega)
        exact (ih x5 x6 (x7 + 1) (by omega))
      · skip
        have chc10 := zc_geF hc10
        refine S1.bd (s_7 x7 g hI trivial) ?_
        intro v11 hvv11 hRv11
        have hRv11 : True ∧ True ∧ (v11 = true → True) ∧ (v11 = false → True) := hRv11
        refine S1.ite (fun hc12 => ?_) (fun hc12 => ?_)
        · skip
          have chc12 := hRv11.2.2.1 hc12
          refine S1.bd (s_24 1 x1 x3 x7 rfl g hI (by omega)) ?_
          intro v13 hvv13 hRv13
          have hRv13 : True ∧ True := hRv13
          refine S1.lt ?_
          intro v14 hvv14
          refine S1.ite (fun hc15 => ?_) (fun hc15 => ?_)
          · skip
            try have y3 := zi_add (x := x7) (y := (1 : Int32)) (by omega) (by omega)
            exact (ih x7 v9 (x7 + 1) (by omega))
          · skip
            try have y4 := zi_add (x := x7) (y := (1 : Int32)) (by omega) (by omega)
            exact (ih x5 x6 (x7 + 1) (by omega))
        · skip
          have chc12 := hRv11.2.2.2 hc12
          try have y5 := zi_add (x := x7) (y := (1 : Int32)) (by omega) (by omega)
          exact (ih x5 x6 (x7 + 1) (by omega))
/-- EveningFirst.reach -/
theorem s_74 (x1 : Int32) (x2 : Int32) (x3 : Int32) (x4 : Int32) (g : G) (hI : Inv g) (hp : True) : S1 (d_74 x1 x2 x3 x4 g) (fun q : Int32 × G => Inv q.2 ∧ True) := by
  unfold d_74
  have Lm4 := zl_m4
  have Lm1 := zl_m1
  have L0 := zl_0
  have L9 := zl_9
  have yp9 : 0 ≤ (g 1 1).toInt ∧ (g 1 1).toInt ≤ 4 := Inv.rd (r := 1) (c := 2) hI 1 rfl
  refine S1.lc (s_96 x1 x2 x3 g hI trivial) ?_
  intro v1 hvv1 hRv1
  have hRv1 : True ∧ True ∧ (v1 = true → True) ∧ (v1 = false → 0 ≤ x1.toInt ∧ x1.toInt < (g 1 1).toInt) := hRv1
  have y7 : 0 ≤ (g 1 1).toInt ∧ (g 1 1).toInt ≤ 4 := Inv.rd (r := 1) (c := 2) hI 1 rfl
  refine S1.ite (fun hc2 => ?_) (fun hc2 => ?_)
  · skip
    have chc2 := hRv1.2.2.1 hc2
    exact S1.ret (show Inv g ∧ True from ⟨hI, trivial⟩)
  · skip
    have chc2 := hRv1.2.2.2 hc2
    refine S1.lt ?_
    intro v3 hvv3
    refine S1.ite (fun hc4 => ?_) (fun hc4 => ?_)
    · skip
      exact S1.ret (show Inv g ∧ True from ⟨hI, trivial⟩)
    · skip
      refine S1.bd (s_2 1 rfl g hI trivial) ?_
      intro g5 hvg5 hRg5
      have hRg5 : Inv g5 ∧ True := hRg5
      have y8 : 0 ≤ (g5 1 1).toInt ∧ (g5 1 1).toInt ≤ 4 := Inv.rd (r := 1) (c := 2) hRg5.1 1 rfl
      exact (s_74_42 x1 x2 x3 x4 g5 hRg5.1 300 (-4 : Int32) (9 : Int32) (0 : Int32) (by omega))
theorem s_168_102 (x1 : Int32) (x2 : Int32) (x3 : Int32) (x4 : Int32) (x5 : Int32) (x6 : Int32) (x7 : Int32) (g : G) (hI : Inv g) (k47 : Int32 → Int32 → Int32 → Option Int32) (m47 : Int) (hk47 : ∀ (x5 : Int32) (x6 : Int32) (x7 : Int32), 0 ≤ x7.toInt ∧ x7.toInt ≤ 256 ∧ 256 - x7.toInt < m47 ∧ 0 ≤ x1.toInt ∧ x1.toInt ≤ 3 ∧ 0 ≤ x3.toInt ∧ x3.toInt ≤ 7 → S1 (k47 x5 x6 x7) (fun q : Int32 => True ∧ True)) (hp : x7.toInt ≤ 255 ∧ 0 ≤ x7.toInt ∧ x7.toInt ≤ 256 ∧ 256 - x7.toInt < (m47 + 1) ∧ 0 ≤ x1.toInt ∧ x1.toInt ≤ 3 ∧ 0 ≤ x3.toInt ∧ x3.toInt ≤ 7) : S1 (d_168_102 x1 x2 x3 x4 x5 x6 x7 g k47) (fun q : Int32 => True ∧ True) := by
  unfold d_168_102
  have L1 := zl_1
  try have y1 := zi_add (x := x7) (y := (1 : Int32)) (by omega) (by omega)
  exact hk47 x5 x6 (x7 + 1) (by omega)
theorem s_168_47 (x1 : Int32) (x2 : Int32) (x3 : Int32) (x4 : Int32) (g : G) (hI : Inv g) : ∀ (f : Nat) (x5 : Int32) (x6 : Int32) (x7 : Int32), 0 ≤ x7.toInt ∧ x7.toInt ≤ 256 ∧ 256 - x7.toInt < (f : Int) ∧ 0 ≤ x1.toInt ∧ x1.toInt ≤ 3 ∧ 0 ≤ x3.toInt ∧ x3.toInt ≤ 7 → S1 (d_168_47 x1 x2 x3 x4 g f x5 x6 x7) (fun q : Int32 => True ∧ True) := by
  intro f
  induction f with
  | zero =>
    intro x5 x6 x7 hp
    exfalso
    omega
  | succ f ih =>
    intro x5 x6 x7 hp
    rw [d_168_47.eq_2]
    have Lm4 := zl_m4
    have L0 := zl_0
    have L1 := zl_1
    have L31 := zl_31
    refine S1.lc (s_158 g hI trivial) ?_
    intro v9 hvv9 hRv9
    have hRv9 : True ∧ (0 ≤ v9.toInt ∧ v9.toInt ≤ 255) := hRv9
    refine S1.ite (fun hc10 => ?_) (fun hc10 => ?_)
    · skip
      have chc10 := zc_gtT hc10
      refine S1.ite (fun hc11 => ?_) (fun hc11 => ?_)
      · skip
        have chc11 := zc_neT hc11
        exact S1.ret (show True ∧ True from ⟨trivial, trivial⟩)
      · skip
        have chc11 := zc_neF hc11
        exact S1.ret (show True ∧ True from ⟨trivial, trivial⟩)
    · skip
      have chc10 := zc_gtF hc10
      refine S1.bd (s_159 x7 g hI trivial) ?_
      intro v12 hvv12 hRv12
      have hRv12 : True ∧ True ∧ (v12 = true → True) ∧ (v12 = false → True) := hRv12
      refine S1.ite (fun hc13 => ?_) (fun hc13 => ?_)
      · skip
        have chc13 := hRv12.2.2.1 hc13
        refine S1.bd (s_150 x1 x3 x7 g hI (by omega)) ?_
        intro v14 hvv14 hRv14
        have hRv14 : True ∧ True := hRv14
        try have y2 := zi_and (x := x2) (y := (31 : Int32)) (by omega)
        try have y3 := zi_and (x := (v14 >>> (x2 &&& 31))) (y := (1 : Int32)) (by omega)
        refine S1.ite (fun hc15 => ?_) (fun hc15 => ?_)
        · skip
          have chc15 := zc_neT hc15
          exact (s_168_102 x1 x2 x3 x4 x5 x6 x7 g hI (d_168_47 x1 x2 x3 x4 g f) (f : Int) ih (by omega))
        · skip
          have chc15 := zc_neF hc15
          refine S1.ite (fun hc16 => ?_) (fun hc16 => ?_)
          · skip
            have chc16 := zc_eqT hc16
            refine S1.bd (s_164 x7 g hI trivial) ?_
            intro v17 hvv17 hRv17
            have hRv17 : True ∧ True := hRv17
            try have y4 := zi_add (x := x7) (y := (1 : Int32)) (by omega) (by omega)
            exact (ih v17 x7 (x7 + 1) (by omega))
          · skip
            have chc16 := zc_eqF hc16
            refine S1.bd (s_164 x7 g hI trivial) ?_
            intro v18 hvv18 hRv18
            have hRv18 : True ∧ True := hRv18
            refine S1.ite (fun hc19 => ?_) (fun hc19 => ?_)
            · skip
              have chc19 := zc_geT hc19
              exact (s_168_102 x1 x2 x3 x4 x5 x6 x7 g hI (d_168_47 x1 x2 x3 x4 g f) (f : Int) ih (by omega))
            · skip
              have chc19 := zc_geF hc19
              refine S1.bd (s_164 x7 g hI trivial) ?_
              intro v20 hvv20 hRv20
              have hRv20 : True ∧ True := hRv20
              try have y5 := zi_add (x := x7) (y := (1 : Int32)) (by omega) (by omega)
              exact (ih v20 x7 (x7 + 1) (by omega))
      · skip
        have chc13 := hRv12.2.2.2 hc13
        exact (s_168_102 x1 x2 x3 x4 x5 x6 x7 g hI (d_168_47 x1 x2 x3 x4 g f) (f : Int) ih (by omega))
/-- EveningFirstModel.reach -/
theorem s_168 (x1 : Int32) (x2 : Int32) (x3 : Int32) (x4 : Int32) (g : G) (hI : Inv g) (hp : True) : S1 (d_168 x1 x2 x3 x4 g) (fun q : Int32 => True ∧ True) := by
  unfold d_168
  have Lm4 := zl_m4
  have Lm1 := zl_m1
  have L0 := zl_0
  have L1 := zl_1
  have yp11 : 0 ≤ (g 113 2).toInt ∧ (g 113 2).toInt ≤ 8 := Inv.rd (r := 113) (c := 8) hI 2 rfl
  have yp12 : 0 ≤ (g 113 3).toInt ∧ (g 113 3).toInt ≤ 4 := Inv.rd (r := 113) (c := 8) hI 3 rfl
  refine S1.lc (s_131 x1 g hI trivial) ?_
  intro v1 hvv1 hRv1
  have hRv1 : True ∧ True ∧ (v1 = true → 0 ≤ x1.toInt ∧ x1.toInt < (g 113 3).toInt) ∧ (v1 = false → True) := hRv1
  have y6 : 0 ≤ (g 113 3).toInt ∧ (g 113 3).toInt ≤ 4 := Inv.rd (r := 113) (c := 8) hI 3 rfl
  refine S1.ite (fun hc2 => ?_) (fun hc2 => ?_)
  · skip
    have chc2 := hRv1.2.2.1 hc2
    refine S1.lt ?_
    intro v3 hvv3
    refine S1.ite (fun hc4 => ?_) (fun hc4 => ?_)
    · skip
      refine S1.lc (s_133 x3 g hI trivial) ?_
      intro v5 hvv5 hRv5
      have hRv5 : True ∧ True ∧ (v5 = true → 0 ≤ x3.toInt ∧ x3.toInt < (g 113 2).toInt) ∧ (v5 = false → True) := hRv5
      have y7 : 0 ≤ (g 113 2).toInt ∧ (g 113 2).toInt ≤ 8 := Inv.rd (r := 113) (c := 8) hI 2 rfl
      refine S1.ite (fun hc6 => ?_) (fun hc6 => ?_)
      · skip
        have chc6 := hRv5.2.2.1 hc6
        have y8 := zi_i64 x4
        have y9 : (0 : Int64).toInt = 0 := by decide
        have y10 : (1 : Int64).toInt = 1 := by decide
        refine S1.lc (zin_c (a := (Int32.toInt64 x4)) (b := (0 : Int64)) (c := (1 : Int64))) ?_
        intro v7 hvv7 hRv7
        have hRv7 : (v7 = true → (0 : Int64).toInt ≤ (Int32.toInt64 x4).toInt ∧ (Int32.toInt64 x4).toInt ≤ (1 : Int64).toInt) ∧ (v7 = false → (Int32.toInt64 x4).toInt < (0 : Int64).toInt ∨ (1 : Int64).toInt < (Int32.toInt64 x4).toInt) := hRv7
        refine S1.ite (fun hc8 => ?_) (fun hc8 => ?_)
        · skip
          have chc8 := hRv7.1 hc8
          exact (s_168_47 x1 x2 x3 x4 g hI 300 (-4 : Int32) (-4 : Int32) (0 : Int32) (by omega))
        · skip
          have chc8 := hRv7.2 hc8
          exact S1.ret (show True ∧ True from ⟨trivial, trivial⟩)
      · skip
        have chc6 := hRv5.2.2.2 hc6
        exact S1.ret (show True ∧ True from ⟨trivial, trivial⟩)
    · skip
      exact S1.ret (show True ∧ True from ⟨trivial, trivial⟩)
  · skip
    have chc2 := hRv1.2.2.2 hc2
    exact S1.ret (show True ∧ True from ⟨trivial, trivial⟩)
/-- EveningFirst.sizeOfGreatest -/
theorem s_100 (r1 : Nat) (h1 : zg_cl r1 = 2) (g : G) (hI : Inv g) (hp : True) : S1 (d_100 r1 g) (fun q : Int32 × G => Inv q.2 ∧ True) := by
  unfold d_100
  refine S1.bd (s_2 r1 h1 g hI trivial) ?_
  intro g1 hvg1 hRg1
  have hRg1 : Inv g1 ∧ True := hRg1
  refine S1.bd (s_8 (g1 25 2) g1 hRg1.1 trivial) ?_
  intro v2 hvv2 hRv2
  have hRv2 : True ∧ True := hRv2
  refine S1.lt ?_
  intro v3 hvv3
  exact S1.ret (show Inv g1 ∧ True from ⟨hRg1.1, trivial⟩)
theorem s_75_47 (x1 : Int32) (x2 : Int32) : ∀ (f : Nat) (x3 : Int32) (x4 : Int32) (x5 : Int32) (g : G), Inv g → 0 ≤ x5.toInt ∧ x5.toInt ≤ 8 ∧ 8 - x5.toInt < (f : Int) ∧ 0 ≤ x1.toInt ∧ x1.toInt ≤ 7 → S1 (d_75_47 x1 x2 f x3 x4 x5 g) (fun q : Int32 × G => Inv q.2 ∧ True) := by
  intro f
  induction f with
  | zero =>
    intro x3 x4 x5 g hI hp
    exfalso
    omega
  | succ f ih =>
    intro x3 x4 x5 g hI hp
    rw [d_75_47.eq_2]
    have Lm4 := zl_m4
    have L0 := zl_0
    have L1 := zl_1
    have yp6 : 0 ≤ (g 1 0).toInt ∧ (g 1 0).toInt ≤ 8 := Inv.rd (r := 1) (c := 2) hI 0 rfl
    have y1 : 0 ≤ (g 1 0).toInt ∧ (g 1 0).toInt ≤ 8 := Inv.rd (r := 1) (c := 2) hI 0 rfl
    refine S1.ite (fun hc8 => ?_) (fun hc8 => ?_)
    · skip
      have chc8 := zc_geT hc8
      refine S1.ite (fun hc9 => ?_) (fun hc9 => ?_)
      · skip
        have chc9 := zc_neT hc9
        refine S1.ite (fun hc10 => ?_) (fun hc10 => ?_)
        · skip
          have chc10 := zc_neT hc10
          exact S1.ret (show Inv g ∧ True from ⟨hI, trivial⟩)
        · skip
          have chc10 := zc_neF hc10
          exact S1.ret (show Inv g ∧ True from ⟨hI, trivial⟩)
      · skip
        have chc9 := zc_neF hc9
        exact S1.ret (show Inv g ∧ True from ⟨hI, trivial⟩)
    · skip
      have chc8 := zc_geF hc8
      refine S1.ix (by omega) ?_
      intro k11 hk11 bk11
      refine S1.lt ?_
      intro g12 hg12
      have Ig12 : Inv g12 := Inv.up hI hg12 (zg_deed (b := 30) rfl hk11) trivial
      have u2 : (g12 1 0).toInt = (g 1 0).toInt := zg_upc hg12 (zg_deed (b := 30) rfl hk11) (by decide)
      refine S1.bp (s_100 30 rfl g12 Ig12 trivial) ?_
      intro v13 g14 hvv13 hRv13
      have hRv13 : Inv g14 ∧ True := hRv13
      have y3 : 0 ≤ (g14 1 0).toInt ∧ (g14 1 0).toInt ≤ 8 := Inv.rd (r := 1) (c := 2) hRv13.1 0 rfl
      refine S1.ite (fun hc15 => ?_) (fun hc15 => ?_)
      · skip
        have chc15 := zc_leT hc15
        try have y4 := zi_add (x := x5) (y := (1 : Int32)) (by omega) (by omega)
        exact (ih x3 x4 (x5 + 1) g14 hRv13.1 (by omega))
      · skip
        have chc15 := zc_leF hc15
        try have y5 := zi_add (x := x5) (y := (1 : Int32)) (by omega) (by omega)
        exact (ih v13 x5 (x5 + 1) g14 hRv13.1 (by omega))
/-- EveningFirst.better -/
theorem s_75 (x1 : Int32) (x2 : Int32) (g : G) (hI : Inv g) (hp : True) : S1 (d_75 x1 x2 g) (fun q : Int32 × G => Inv q.2 ∧ True) := by
  unfold d_75
  have Lm4 := zl_m4
  have Lm1 := zl_m1
  have L0 := zl_0
  refine S1.lc (s_20 1 x1 rfl g hI trivial) ?_
  intro v1 hvv1 hRv1
  have hRv1 : True ∧ True ∧ (v1 = true → 0 ≤ x1.toInt ∧ x1.toInt < (g 1 2).toInt) ∧ (v1 = false → True) := hRv1
  have y7 : 0 ≤ (g 1 2).toInt ∧ (g 1 2).toInt ≤ 8 := Inv.rd (r := 1) (c := 2) hI 2 rfl
  refine S1.ite (fun hc2 => ?_) (fun hc2 => ?_)
  · skip
    have chc2 := hRv1.2.2.1 hc2
    refine S1.lt ?_
    intro v3 hvv3
    refine S1.ite (fun hc4 => ?_) (fun hc4 => ?_)
    · skip
      exact S1.ret (show Inv g ∧ True from ⟨hI, trivial⟩)
    · skip
      refine S1.bp (s_100 1 rfl g hI trivial) ?_
      intro v5 g6 hvv5 hRv5
      have hRv5 : Inv g6 ∧ True := hRv5
      refine S1.bd (s_17 30 1 rfl rfl g6 hRv5.1 trivial) ?_
      intro g7 hvg7 hRg7
      have hRg7 : Inv g7 ∧ True := hRg7
      exact (s_75_47 x1 x2 300 v5 (-4 : Int32) (0 : Int32) g7 hRg7.1 (by omega))
  · skip
    have chc2 := hRv1.2.2.2 hc2
    exact S1.ret (show Inv g ∧ True from ⟨hI, trivial⟩)
theorem s_169_55 (x2 : Int32) (x5 : Int32) (x6 : Int32) : ∀ (f : Nat) (x3 : Int32) (x4 : Int32) (x7 : Int32) (g : G), Inv g → 0 ≤ x7.toInt ∧ x7.toInt ≤ 8 ∧ 8 - x7.toInt < (f : Int) ∧ 9 ≤ x5.toInt ∧ x5.toInt ≤ 58 ∧ (x5.toInt - 9) % 7 = 0 ∧ 0 ≤ x6.toInt ∧ x6.toInt ≤ 7 → S1 (d_169_55 x2 x5 x6 f x3 x4 x7 g) (fun q : Int32 × G => Inv q.2 ∧ True) := by
  intro f
  induction f with
  | zero =>
    intro x3 x4 x7 g hI hp
    exfalso
    omega
  | succ f ih =>
    intro x3 x4 x7 g hI hp
    rw [d_169_55.eq_2]
    have Lm4 := zl_m4
    have L0 := zl_0
    have L1 := zl_1
    have yp8 : 0 ≤ (g 113 2).toInt ∧ (g 113 2).toInt ≤ 8 := Inv.rd (r := 113) (c := 8) hI 2 rfl
    have y1 : 0 ≤ (g 113 2).toInt ∧ (g 113 2).toInt ≤ 8 := Inv.rd (r := 113) (c := 8) hI 2 rfl
    refine S1.ite (fun hc8 => ?_) (fun hc8 => ?_)
    · skip
      have chc8 := zc_geT hc8
      refine S1.ix (by omega) ?_
      intro k10 hk10 bk10
      refine S1.lt ?_
      intro g9 hg9
      have Ig9 : Inv g9 := Inv.up hI hg9 rfl (bdP_st (by omega) ((stP_d (d := ((x5.toInt - 9) / 7)) (o := 0) (by omega) (by omega) (by omega)).mpr ⟨fun w => by omega, fun w => by omega⟩))
      have u2 : (g9 113 2).toInt = (g 113 2).toInt := by rw [← hg9]; rfl
      refine S1.ite (fun hc11 => ?_) (fun hc11 => ?_)
      · skip
        have chc11 := zc_neT hc11
        refine S1.ite (fun hc12 => ?_) (fun hc12 => ?_)
        · skip
          have chc12 := zc_neT hc12
          exact S1.ret (show Inv g9 ∧ True from ⟨Ig9, trivial⟩)
        · skip
          have chc12 := zc_neF hc12
          exact S1.ret (show Inv g9 ∧ True from ⟨Ig9, trivial⟩)
      · skip
        have chc11 := zc_neF hc11
        exact S1.ret (show Inv g9 ∧ True from ⟨Ig9, trivial⟩)
    · skip
      have chc8 := zc_geF hc8
      refine S1.ix (by omega) ?_
      intro k14 hk14 bk14
      refine S1.lt ?_
      intro g13 hg13
      have Ig13 : Inv g13 := Inv.up hI hg13 rfl (bdP_st (by omega) ((stP_d (d := ((x5.toInt - 9) / 7)) (o := 0) (by omega) (by omega) (by omega)).mpr ⟨fun w => by omega, fun w => by omega⟩))
      have u3 : (g13 113 2).toInt = (g 113 2).toInt := by rw [← hg13]; rfl
      refine S1.bd (s_161 g13 Ig13 trivial) ?_
      intro v15 hvv15 hRv15
      have hRv15 : True ∧ True := hRv15
      refine S1.bd (s_164 v15 g13 Ig13 trivial) ?_
      intro v16 hvv16 hRv16
      have hRv16 : True ∧ True := hRv16
      refine S1.ite (fun hc17 => ?_) (fun hc17 => ?_)
      · skip
        have chc17 := zc_leT hc17
        refine S1.ite (fun hc18 => ?_) (fun hc18 => ?_)
        · skip
          have chc18 := zc_leT hc18
          try have y4 := zi_add (x := x7) (y := (1 : Int32)) (by omega) (by omega)
          exact (ih x3 x4 (x7 + 1) g13 Ig13 (by omega))
        · skip
          have chc18 := zc_leF hc18
          try have y5 := zi_add (x := x7) (y := (1 : Int32)) (by omega) (by omega)
          exact (ih v16 x4 (x7 + 1) g13 Ig13 (by omega))
      · skip
        have chc17 := zc_leF hc17
        refine S1.ite (fun hc19 => ?_) (fun hc19 => ?_)
        · skip
          have chc19 := zc_leT hc19
          try have y6 := zi_add (x := x7) (y := (1 : Int32)) (by omega) (by omega)
          exact (ih x3 x7 (x7 + 1) g13 Ig13 (by omega))
        · skip
          have chc19 := zc_leF hc19
          try have y7 := zi_add (x := x7) (y := (1 : Int32)) (by omega) (by omega)
          exact (ih v16 x7 (x7 + 1) g13 Ig13 (by omega))
/-- EveningFirstModel.better -/
theorem s_169 (x1 : Int32) (x2 : Int32) (g : G) (hI : Inv g) (hp : True) : S1 (d_169 x1 x2 g) (fun q : Int32 × G => Inv q.2 ∧ True) := by
  unfold d_169
  have Lm4 := zl_m4
  have Lm1 := zl_m1
  have L0 := zl_0
  have L1 := zl_1
  have L7 := zl_7
  have L9 := zl_9
  have yp17 := hI.m8
  refine S1.lc (s_132 x1 g hI trivial) ?_
  intro v1 hvv1 hRv1
  have hRv1 : True ∧ True ∧ (v1 = true → 0 ≤ x1.toInt ∧ x1.toInt < (g 114 8).toInt) ∧ (v1 = false → True) := hRv1
  have y9 := hI.m8
  refine S1.ite (fun hc2 => ?_) (fun hc2 => ?_)
  · skip
    have chc2 := hRv1.2.2.1 hc2
    have y10 := zi_i64 x2
    have y11 : (0 : Int64).toInt = 0 := by decide
    have y12 : (1 : Int64).toInt = 1 := by decide
    refine S1.lc (zin_c (a := (Int32.toInt64 x2)) (b := (0 : Int64)) (c := (1 : Int64))) ?_
    intro v3 hvv3 hRv3
    have hRv3 : (v3 = true → (0 : Int64).toInt ≤ (Int32.toInt64 x2).toInt ∧ (Int32.toInt64 x2).toInt ≤ (1 : Int64).toInt) ∧ (v3 = false → (Int32.toInt64 x2).toInt < (0 : Int64).toInt ∨ (1 : Int64).toInt < (Int32.toInt64 x2).toInt) := hRv3
    refine S1.ite (fun hc4 => ?_) (fun hc4 => ?_)
    · skip
      have chc4 := hRv3.1 hc4
      refine S1.bd (s_161 g hI trivial) ?_
      intro v5 hvv5 hRv5
      have hRv5 : True ∧ True := hRv5
      refine S1.bd (s_164 v5 g hI trivial) ?_
      intro v6 hvv6 hRv6
      have hRv6 : True ∧ True := hRv6
      try have y13 := zi_mul (x := (7 : Int32)) (y := x1) (n := 7) (by decide) (by omega) (by omega)
      try have y14 := zi_add (x := (9 : Int32)) (y := (7 * x1)) (by omega) (by omega)
      try have y15 := zi_add (x := (9 + (7 * x1))) (y := (0 : Int32)) (by omega) (by omega)
      refine S1.ix (by omega) ?_
      intro k7 hk7 bk7
      have y16 := ((stP_d (d := x1.toInt) (o := 0) (by omega) (by omega) (by omega)).mp (hI.st (k := k7) (by omega))).1 rfl
      exact (s_169_55 x2 ((9 + (7 * x1)) + 0) (g 114 k7) 300 v6 (-4 : Int32) (0 : Int32) g hI (by omega))
    · skip
      have chc4 := hRv3.2 hc4
      exact S1.ret (show Inv g ∧ True from ⟨hI, trivial⟩)
  · skip
    have chc2 := hRv1.2.2.2 hc2
    exact S1.ret (show Inv g ∧ True from ⟨hI, trivial⟩)
