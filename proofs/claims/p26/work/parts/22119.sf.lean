/-! printed by wip/tools/safe.py -/
theorem s_177_9 (x1 : Int32) (g : G) (hI : Inv g) : ∀ (f : Nat) (x2 : Bool) (x3 : Int32), 0 ≤ x3.toInt ∧ x3.toInt ≤ 8 ∧ 8 - x3.toInt < (f : Int) → S1 (d_177_9 x1 g f x2 x3) (fun q : Bool => True ∧ True ∧ (q = true → True) ∧ (q = false → True)) := by
  intro f
  induction f with
  | zero =>
    intro x2 x3 hp
    exfalso
    omega
  | succ f ih =>
    intro x2 x3 hp
    rw [d_177_9.eq_2]
    have L1 := zl_1
    have L2 := zl_2
    have L3 := zl_3
    have L4 := zl_4
    have L31 := zl_31
    have L66 := zl_66
    have yp14 := hI.m65
    have y1 := hI.m65
    refine S1.ite (fun hc2 => ?_) (fun hc2 => ?_)
    · skip
      have chc2 := zc_geT hc2
      exact S1.ret (show True ∧ True ∧ (x2 = true → True) ∧ (x2 = false → True) from ⟨trivial, trivial, (fun _ => trivial), (fun _ => trivial)⟩)
    · skip
      have chc2 := zc_geF hc2
      refine S1.ite (fun hc3 => ?_) (fun hc3 => ?_)
      · skip
        try have y2 := zi_mul (x := (4 : Int32)) (y := x3) (n := 4) (by decide) (by omega) (by omega)
        try have y3 := zi_add (x := (66 : Int32)) (y := (4 * x3)) (by omega) (by omega)
        refine S1.ix (by omega) ?_
        intro k4 hk4 bk4
        try have y4 := zi_add (x := (66 + (4 * x3))) (y := (2 : Int32)) (by omega) (by omega)
        refine S1.ix (by omega) ?_
        intro k5 hk5 bk5
        have y5 := ((stP_s (d := x3.toInt) (o := 0) (by omega) (by omega) (by omega)).mp (hI.st (k := k4) (by omega))).1 rfl
        have y6 := ((stP_s (d := x3.toInt) (o := 2) (by omega) (by omega) (by omega)).mp (hI.st (k := k5) (by omega))).2 rfl
        refine S1.bd (s_150 (g 114 k4) (g 114 k5) x1 g hI (by omega)) ?_
        intro v6 hvv6 hRv6
        have hRv6 : True ∧ True := hRv6
        try have y7 := zi_add (x := (66 + (4 * x3))) (y := (1 : Int32)) (by omega) (by omega)
        refine S1.ix (by omega) ?_
        intro k7 hk7 bk7
        try have y8 := zi_add (x := (66 + (4 * x3))) (y := (3 : Int32)) (by omega) (by omega)
        refine S1.ix (by omega) ?_
        intro k8 hk8 bk8
        try have y9 := zi_and (x := (g 114 k7)) (y := (31 : Int32)) (by omega)
        try have y10 := zi_and (x := (v6 >>> ((g 114 k7) &&& 31))) (y := (1 : Int32)) (by omega)
        refine S1.ite (fun hc9 => ?_) (fun hc9 => ?_)
        · skip
          have chc9 := zc_neT hc9
          try have y11 := zi_add (x := x3) (y := (1 : Int32)) (by omega) (by omega)
          exact (ih false (x3 + 1) (by omega))
        · skip
          have chc9 := zc_neF hc9
          try have y12 := zi_add (x := x3) (y := (1 : Int32)) (by omega) (by omega)
          exact (ih true (x3 + 1) (by omega))
      · skip
        try have y13 := zi_add (x := x3) (y := (1 : Int32)) (by omega) (by omega)
        exact (ih false (x3 + 1) (by omega))
/-- EveningFirstModel.isSo -/
theorem s_177 (g : G) (hI : Inv g) (hp : True) : S1 (d_177 g) (fun q : Bool => True ∧ True ∧ (q = true → True) ∧ (q = false → True)) := by
  unfold d_177
  have L0 := zl_0
  refine S1.bd (s_161 g hI trivial) ?_
  intro v1 hvv1 hRv1
  have hRv1 : True ∧ True := hRv1
  exact (s_177_9 v1 g hI 300 true (0 : Int32) (by omega))
theorem s_178_178 (x1 : Int32) (x3 : Int32) (x4 : Int32) (x5 : Int32) : ∀ (f : Nat) (x6 : Int32) (g : G), Inv g → 0 ≤ x6.toInt ∧ x6.toInt ≤ 4 ∧ 4 - x6.toInt < (f : Int) → S1 (d_178_178 x1 x3 x4 x5 f x6 g) (fun q : Int32 × G => Inv q.2 ∧ True) := by
  intro f
  induction f with
  | zero =>
    intro x6 g hI hp
    exfalso
    omega
  | succ f ih =>
    intro x6 g hI hp
    rw [d_178_178.eq_2]
    have L0 := zl_0
    have L1 := zl_1
    have yp5 : 0 ≤ (g 113 3).toInt ∧ (g 113 3).toInt ≤ 4 := Inv.rd (r := 113) (c := 8) hI 3 rfl
    have y1 : 0 ≤ (g 113 3).toInt ∧ (g 113 3).toInt ≤ 4 := Inv.rd (r := 113) (c := 8) hI 3 rfl
    refine S1.ite (fun hc5 => ?_) (fun hc5 => ?_)
    · skip
      have chc5 := zc_geT hc5
      refine S1.ite (fun hc6 => ?_) (fun hc6 => ?_)
      · skip
        have chc6 := zc_neT hc6
        refine S1.ite (fun hc7 => ?_) (fun hc7 => ?_)
        · skip
          have chc7 := zc_neT hc7
          exact S1.ret (show Inv g ∧ True from ⟨hI, trivial⟩)
        · skip
          have chc7 := zc_neF hc7
          exact S1.ret (show Inv g ∧ True from ⟨hI, trivial⟩)
      · skip
        have chc6 := zc_neF hc6
        exact S1.ret (show Inv g ∧ True from ⟨hI, trivial⟩)
    · skip
      have chc5 := zc_geF hc5
      refine S1.ix (by omega) ?_
      intro k8 hk8 bk8
      try have y2 := zi_add (x := (0 : Int32)) (y := x6) (by omega) (by omega)
      refine S1.ix (by omega) ?_
      intro k10 hk10 bk10
      refine S1.lt ?_
      intro g9 hg9
      have Ig9 : Inv g9 := Inv.up hI hg9 rfl (bdP_st (by omega) (stP_lo (by omega)))
      have u3 : (g9 113 3).toInt = (g 113 3).toInt := by rw [← hg9]; rfl
      try have y4 := zi_add (x := x6) (y := (1 : Int32)) (by omega) (by omega)
      exact (ih (x6 + 1) g9 Ig9 (by omega))
theorem s_178_84 (x1 : Int32) (x2 : Int32) (x3 : Int32) (x4 : Int32) (x5 : Int32) (x6 : Int32) (k71 : Int32 → Int32 → Int32 → Int32 → G → Option (Int32 × G)) (m71 : Int) (hk71 : ∀ (x3 : Int32) (x4 : Int32) (x5 : Int32) (x6 : Int32) (g : G), Inv g → 0 ≤ x6.toInt ∧ x6.toInt ≤ 81 ∧ x2.toInt ≤ 81 ∧ 81 - x6.toInt < m71 ∧ x1.toInt ≤ 13 → S1 (k71 x3 x4 x5 x6 g) (fun q : Int32 × G => Inv q.2 ∧ True)) : ∀ (f : Nat) (x7 : Int32) (x8 : Int32) (g : G), Inv g → 0 ≤ x8.toInt ∧ x8.toInt ≤ 4 ∧ 4 - x8.toInt < (f : Int) ∧ x6.toInt ≤ 80 ∧ 0 ≤ x6.toInt ∧ x6.toInt ≤ 81 ∧ x2.toInt ≤ 81 ∧ 81 - x6.toInt < (m71 + 1) ∧ x1.toInt ≤ 13 → S1 (d_178_84 x1 x2 x3 x4 x5 x6 k71 f x7 x8 g) (fun q : Int32 × G => Inv q.2 ∧ True) := by
  intro f
  induction f with
  | zero =>
    intro x7 x8 g hI hp
    exfalso
    omega
  | succ f ih =>
    intro x7 x8 g hI hp
    rw [d_178_84.eq_2]
    have L0 := zl_0
    have L1 := zl_1
    have L3 := zl_3
    have L10 := zl_10
    have L31 := zl_31
    have yp28 : 0 ≤ (g 113 3).toInt ∧ (g 113 3).toInt ≤ 4 := Inv.rd (r := 113) (c := 8) hI 3 rfl
    have y6 : 0 ≤ (g 113 3).toInt ∧ (g 113 3).toInt ≤ 4 := Inv.rd (r := 113) (c := 8) hI 3 rfl
    refine S1.ite (fun hc11 => ?_) (fun hc11 => ?_)
    · skip
      have chc11 := zc_geT hc11
      refine S1.bd (s_177 g hI trivial) ?_
      intro v12 hvv12 hRv12
      have hRv12 : True ∧ True ∧ (v12 = true → True) ∧ (v12 = false → True) := hRv12
      refine S1.ite (fun hc13 => ?_) (fun hc13 => ?_)
      · skip
        have chc13 := hRv12.2.2.1 hc13
        refine S1.ite (fun hc14 => ?_) (fun hc14 => ?_)
        · skip
          have chc14 := zc_neT hc14
          refine S1.ite (fun hc15 => ?_) (fun hc15 => ?_)
          · skip
            have chc15 := zc_ltT hc15
            try have y7 := zi_add (x := x3) (y := (1 : Int32)) (by omega) (by omega)
            try have y8 := zi_add (x := x6) (y := (1 : Int32)) (by omega) (by omega)
            exact hk71 (x3 + 1) x4 (x5 ||| 0) (x6 + 1) g hI (by omega)
          · skip
            have chc15 := zc_ltF hc15
            try have y9 := zi_add (x := (0 : Int32)) (y := x1) (by omega) (by omega)
            try have y10 := zi_sub (x := (0 + x1)) (y := (10 : Int32)) (by omega) (by omega)
            refine S1.ix (by omega) ?_
            intro k16 hk16 bk16
            try have y11 := zi_add (x := x3) (y := (1 : Int32)) (by omega) (by omega)
            try have y12 := zi_and (x := (g 114 k16)) (y := (31 : Int32)) (by omega)
            try have y13 := zi_shl1 (x := (g 114 k16)) (by omega)
            try have y14 := zi_add (x := x6) (y := (1 : Int32)) (by omega) (by omega)
            exact hk71 (x3 + 1) x4 (x5 ||| ((1 : Int32) <<< ((g 114 k16) &&& 31))) (x6 + 1) g hI (by omega)
        · skip
          have chc14 := zc_neF hc14
          refine S1.ite (fun hc17 => ?_) (fun hc17 => ?_)
          · skip
            have chc17 := zc_ltT hc17
            try have y15 := zi_add (x := x3) (y := (1 : Int32)) (by omega) (by omega)
            try have y16 := zi_add (x := x6) (y := (1 : Int32)) (by omega) (by omega)
            exact hk71 (x3 + 1) x6 (x5 ||| 0) (x6 + 1) g hI (by omega)
          · skip
            have chc17 := zc_ltF hc17
            try have y17 := zi_add (x := (0 : Int32)) (y := x1) (by omega) (by omega)
            try have y18 := zi_sub (x := (0 + x1)) (y := (10 : Int32)) (by omega) (by omega)
            refine S1.ix (by omega) ?_
            intro k18 hk18 bk18
            try have y19 := zi_add (x := x3) (y := (1 : Int32)) (by omega) (by omega)
            try have y20 := zi_and (x := (g 114 k18)) (y := (31 : Int32)) (by omega)
            try have y21 := zi_shl1 (x := (g 114 k18)) (by omega)
            try have y22 := zi_add (x := x6) (y := (1 : Int32)) (by omega) (by omega)
            exact hk71 (x3 + 1) x6 (x5 ||| ((1 : Int32) <<< ((g 114 k18) &&& 31))) (x6 + 1) g hI (by omega)
      · skip
        have chc13 := hRv12.2.2.2 hc13
        try have y23 := zi_add (x := x6) (y := (1 : Int32)) (by omega) (by omega)
        exact hk71 x3 x4 x5 (x6 + 1) g hI (by omega)
    · skip
      have chc11 := zc_geF hc11
      try have y24 := zi_add (x := (0 : Int32)) (y := x8) (by omega) (by omega)
      refine S1.ix (by omega) ?_
      intro k20 hk20 bk20
      try have y25 := zi_rem (x := x7) (y := (3 : Int32)) (by omega) (by omega)
      refine S1.lt ?_
      intro g19 hg19
      have Ig19 : Inv g19 := Inv.up hI hg19 rfl (bdP_st (by omega) (stP_lo (by omega)))
      have u26 : (g19 113 3).toInt = (g 113 3).toInt := by rw [← hg19]; rfl
      try have y27 := zi_add (x := x8) (y := (1 : Int32)) (by omega) (by omega)
      exact (ih (x7 / 3) (x8 + 1) g19 Ig19 (by omega))
theorem s_178_71 (x1 : Int32) (x2 : Int32) : ∀ (f : Nat) (x3 : Int32) (x4 : Int32) (x5 : Int32) (x6 : Int32) (g : G), Inv g → 0 ≤ x6.toInt ∧ x6.toInt ≤ 81 ∧ x2.toInt ≤ 81 ∧ 81 - x6.toInt < (f : Int) ∧ x1.toInt ≤ 13 → S1 (d_178_71 x1 x2 f x3 x4 x5 x6 g) (fun q : Int32 × G => Inv q.2 ∧ True) := by
  intro f
  induction f with
  | zero =>
    intro x3 x4 x5 x6 g hI hp
    exfalso
    omega
  | succ f ih =>
    intro x3 x4 x5 x6 g hI hp
    rw [d_178_71.eq_2]
    have L0 := zl_0
    refine S1.ite (fun hc4 => ?_) (fun hc4 => ?_)
    · skip
      have chc4 := zc_geT hc4
      exact (s_178_178 x1 x3 x4 x5 300 (0 : Int32) g hI (by omega))
    · skip
      have chc4 := zc_geF hc4
      exact (s_178_84 x1 x2 x3 x4 x5 x6 (d_178_71 x1 x2 f) (f : Int) ih 300 x6 (0 : Int32) g hI (by omega))
theorem s_178_27 (x1 : Int32) : ∀ (f : Nat) (x2 : Int32) (x3 : Int32) (g : G), Inv g → 0 ≤ x3.toInt ∧ x3.toInt ≤ 4 ∧ 4 - x3.toInt < (f : Int) ∧ (x3.toInt = 0 ∧ x2.toInt = 1 ∨ x3.toInt = 1 ∧ x2.toInt = 3 ∨ x3.toInt = 2 ∧ x2.toInt = 9 ∨ x3.toInt = 3 ∧ x2.toInt = 27 ∨ x3.toInt = 4 ∧ x2.toInt = 81) ∧ x1.toInt ≤ 13 → S1 (d_178_27 x1 f x2 x3 g) (fun q : Int32 × G => Inv q.2 ∧ True) := by
  intro f
  induction f with
  | zero =>
    intro x2 x3 g hI hp
    exfalso
    omega
  | succ f ih =>
    intro x2 x3 g hI hp
    rw [d_178_27.eq_2]
    have Lm4 := zl_m4
    have L0 := zl_0
    have L1 := zl_1
    have L3 := zl_3
    have yp34 : 0 ≤ (g 113 3).toInt ∧ (g 113 3).toInt ≤ 4 := Inv.rd (r := 113) (c := 8) hI 3 rfl
    have y29 : 0 ≤ (g 113 3).toInt ∧ (g 113 3).toInt ≤ 4 := Inv.rd (r := 113) (c := 8) hI 3 rfl
    refine S1.ite (fun hc3 => ?_) (fun hc3 => ?_)
    · skip
      have chc3 := zc_geT hc3
      exact (s_178_71 x1 x2 300 (0 : Int32) (-4 : Int32) (0 : Int32) (0 : Int32) g hI (by omega))
    · skip
      have chc3 := zc_geF hc3
      try have y30 := zi_add (x := (0 : Int32)) (y := x3) (by omega) (by omega)
      refine S1.ix (by omega) ?_
      intro k21 hk21 bk21
      refine S1.ix (by omega) ?_
      intro k23 hk23 bk23
      refine S1.lt ?_
      intro g22 hg22
      have Ig22 : Inv g22 := Inv.up hI hg22 rfl trivial
      have u31 : (g22 113 3).toInt = (g 113 3).toInt := by rw [← hg22]; rfl
      try have y32 := zi_mulr (x := x2) (y := (3 : Int32)) (n := 3) (by decide) (by omega) (by omega)
      try have y33 := zi_add (x := x3) (y := (1 : Int32)) (by omega) (by omega)
      exact (ih (x2 * 3) (x3 + 1) g22 Ig22 (by omega))
/-- EveningFirstModel.ways -/
theorem s_178 (x1 : Int32) (g : G) (hI : Inv g) (hp : True) : S1 (d_178 x1 g) (fun q : Int32 × G => Inv q.2 ∧ True) := by
  unfold d_178
  have Lm1 := zl_m1
  have L0 := zl_0
  have L1 := zl_1
  have L10 := zl_10
  have hx10 : (x1 - 10).toInt = x1.toInt - 10 ∨ 2147483638 ≤ (x1 - 10).toInt := by
    have h1 := zi_rng x1
    by_cases h : -2147483638 ≤ x1.toInt
    · exact Or.inl (by rw [zi_sub (by omega) (by omega), L10])
    · right
      rw [Int32.toInt_sub, L10, Int.bmod_def]
      omega
  have yp40 : 0 ≤ (g 113 3).toInt ∧ (g 113 3).toInt ≤ 4 := Inv.rd (r := 113) (c := 8) hI 3 rfl
  have y35 := zi_i64 x1
  have y36 : (0 : Int64).toInt = 0 := by decide
  have y37 : (1 : Int64).toInt = 1 := by decide
  refine S1.lc (zin_c (a := (Int32.toInt64 x1)) (b := (0 : Int64)) (c := (1 : Int64))) ?_
  intro v1 hvv1 hRv1
  have hRv1 : (v1 = true → (0 : Int64).toInt ≤ (Int32.toInt64 x1).toInt ∧ (Int32.toInt64 x1).toInt ≤ (1 : Int64).toInt) ∧ (v1 = false → (Int32.toInt64 x1).toInt < (0 : Int64).toInt ∨ (1 : Int64).toInt < (Int32.toInt64 x1).toInt) := hRv1
  refine S1.ite (fun hc2 => ?_) (fun hc2 => ?_)
  · skip
    have chc2 := hRv1.1 hc2
    exact (s_178_27 x1 300 (1 : Int32) (0 : Int32) g hI (by omega))
  · skip
    have chc2 := hRv1.2 hc2
    try have y38 := zi_sub (x := x1) (y := (10 : Int32)) (by omega) (by omega)
    refine S1.lc (s_131 (x1 - 10) g hI trivial) ?_
    intro v24 hvv24 hRv24
    have hRv24 : True ∧ True ∧ (v24 = true → 0 ≤ (x1 - 10).toInt ∧ (x1 - 10).toInt < (g 113 3).toInt) ∧ (v24 = false → True) := hRv24
    have y39 : 0 ≤ (g 113 3).toInt ∧ (g 113 3).toInt ≤ 4 := Inv.rd (r := 113) (c := 8) hI 3 rfl
    refine S1.ite (fun hc25 => ?_) (fun hc25 => ?_)
    · skip
      have chc25 := hRv24.2.2.1 hc25
      exact (s_178_27 x1 300 (1 : Int32) (0 : Int32) g hI (by omega))
    · skip
      have chc25 := hRv24.2.2.2 hc25
      exact S1.ret (show Inv g ∧ True from ⟨hI, trivial⟩)
theorem s_82_48 (x2 : Int32) (x3 : Int32) (g : G) (hI : Inv g) : ∀ (f : Nat) (x4 : Int32) (x5 : Int32) (x6 : Int32), 0 ≤ x6.toInt ∧ x6.toInt ≤ 60 ∧ x2.toInt ≤ 60 ∧ 60 - x6.toInt < (f : Int) ∧ 1 ≤ x3.toInt ∧ x3.toInt ≤ 8 → S1 (d_82_48 x2 x3 g f x4 x5 x6) (fun q : Int32 × G => Inv q.2 ∧ True) := by
  intro f
  induction f with
  | zero =>
    intro x4 x5 x6 hp
    exfalso
    omega
  | succ f ih =>
    intro x4 x5 x6 hp
    rw [d_82_48.eq_2]
    have L0 := zl_0
    have L1 := zl_1
    have L31 := zl_31
    have L32767 := zl_32767
    generalize (x4 * 1103515245) + 12345 = x99
    refine S1.ite (fun hc5 => ?_) (fun hc5 => ?_)
    · skip
      have chc5 := zc_geT hc5
      exact S1.ret (show Inv g ∧ True from ⟨hI, trivial⟩)
    · skip
      have chc5 := zc_geF hc5
      refine S1.gd (by omega) ?_
      refine S1.lt ?_
      intro v7 hvv7
      refine S1.ite (fun hc8 => ?_) (fun hc8 => ?_)
      · skip
        try have y1 := zi_add (x := x6) (y := (1 : Int32)) (by omega) (by omega)
        exact (ih x99 x5 (x6 + 1) (by omega))
      · skip
        try have y2 := zi_and (x := ((Int32.toUInt32 x99 >>> (Int32.toUInt32 16 &&& Int32.toUInt32 31)).toInt32)) (y := (32767 : Int32)) (by omega)
        try have y3 := zi_rem (x := (((Int32.toUInt32 x99 >>> (Int32.toUInt32 16 &&& Int32.toUInt32 31)).toInt32) &&& 32767)) (y := x3) (by omega) (by omega)
        refine S1.bd (s_4 ((((Int32.toUInt32 x99 >>> (Int32.toUInt32 16 &&& Int32.toUInt32 31)).toInt32) &&& 32767) - (((Int32.toUInt32 x99 >>> (Int32.toUInt32 16 &&& Int32.toUInt32 31)).toInt32) &&& 32767) / x3 * x3) x5 g hI (by omega)) ?_
        intro v9 hvv9 hRv9
        have hRv9 : True ∧ True := hRv9
        refine S1.ite (fun hc10 => ?_) (fun hc10 => ?_)
        · skip
          have chc10 := zc_neT hc10
          try have y4 := zi_add (x := x6) (y := (1 : Int32)) (by omega) (by omega)
          exact (ih x99 x5 (x6 + 1) (by omega))
        · skip
          have chc10 := zc_neF hc10
          try have y5 := zi_and (x := ((((Int32.toUInt32 x99 >>> (Int32.toUInt32 16 &&& Int32.toUInt32 31)).toInt32) &&& 32767) - (((Int32.toUInt32 x99 >>> (Int32.toUInt32 16 &&& Int32.toUInt32 31)).toInt32) &&& 32767) / x3 * x3)) (y := (31 : Int32)) (by omega)
          try have y6 := zi_shl1 (x := ((((Int32.toUInt32 x99 >>> (Int32.toUInt32 16 &&& Int32.toUInt32 31)).toInt32) &&& 32767) - (((Int32.toUInt32 x99 >>> (Int32.toUInt32 16 &&& Int32.toUInt32 31)).toInt32) &&& 32767) / x3 * x3)) (by omega)
          try have y7 := zi_add (x := x6) (y := (1 : Int32)) (by omega) (by omega)
          exact (ih x99 (x5 ||| ((1 : Int32) <<< (((((Int32.toUInt32 x99 >>> (Int32.toUInt32 16 &&& Int32.toUInt32 31)).toInt32) &&& 32767) - (((Int32.toUInt32 x99 >>> (Int32.toUInt32 16 &&& Int32.toUInt32 31)).toInt32) &&& 32767) / x3 * x3) &&& 31))) (x6 + 1) (by omega))
/-- EveningFirst.walk -/
theorem s_82 (x1 : Int32) (x2 : Int32) (g : G) (hI : Inv g) (hp : True) : S1 (d_82 x1 x2 g) (fun q : Int32 × G => Inv q.2 ∧ True) := by
  unfold d_82
  have Lm2 := zl_m2
  have Lm1 := zl_m1
  have L0 := zl_0
  have L1 := zl_1
  have L60 := zl_60
  have yp10 : 0 ≤ (g 1 2).toInt ∧ (g 1 2).toInt ≤ 8 := Inv.rd (r := 1) (c := 2) hI 2 rfl
  refine S1.ite (fun hc1 => ?_) (fun hc1 => ?_)
  · skip
    have chc1 := zc_ltT hc1
    exact S1.ret (show Inv g ∧ True from ⟨hI, trivial⟩)
  · skip
    have chc1 := zc_ltF hc1
    refine S1.ite (fun hc2 => ?_) (fun hc2 => ?_)
    · skip
      have chc2 := zc_leT hc2
      have y8 : 0 ≤ (g 1 2).toInt ∧ (g 1 2).toInt ≤ 8 := Inv.rd (r := 1) (c := 2) hI 2 rfl
      refine S1.ite (fun hc3 => ?_) (fun hc3 => ?_)
      · skip
        have chc3 := zc_neT hc3
        refine S1.bd (s_2 1 rfl g hI trivial) ?_
        intro g4 hvg4 hRg4
        have hRg4 : Inv g4 ∧ True := hRg4
        have y9 : 0 ≤ (g4 1 2).toInt ∧ (g4 1 2).toInt ≤ 8 := Inv.rd (r := 1) (c := 2) hRg4.1 2 rfl
        exact (s_82_48 x2 (g 1 2) g4 hRg4.1 300 x1 (0 : Int32) (0 : Int32) (by omega))
      · skip
        have chc3 := zc_neF hc3
        exact S1.ret (show Inv g ∧ True from ⟨hI, trivial⟩)
    · skip
      have chc2 := zc_leF hc2
      exact S1.ret (show Inv g ∧ True from ⟨hI, trivial⟩)
theorem s_179_35 (x2 : Int32) (g : G) (hI : Inv g) : ∀ (f : Nat) (x3 : Int32) (x4 : Int32) (x5 : Int32), 0 ≤ x5.toInt ∧ x5.toInt ≤ 60 ∧ x2.toInt ≤ 60 ∧ 60 - x5.toInt < (f : Int) ∧ (g 114 8).toInt ≠ 0 → S1 (d_179_35 x2 g f x3 x4 x5) (fun q : Int32 => True ∧ True) := by
  intro f
  induction f with
  | zero =>
    intro x3 x4 x5 hp
    exfalso
    have yp10 := hI.m8
    omega
  | succ f ih =>
    intro x3 x4 x5 hp
    rw [d_179_35.eq_2]
    have L0 := zl_0
    have L1 := zl_1
    have L2 := zl_2
    have L5 := zl_5
    have L16 := zl_16
    have L31 := zl_31
    have L32767 := zl_32767
    have yp11 := hI.m8
    generalize (x3 * 1103515245) + 12345 = x99
    refine S1.ite (fun hc4 => ?_) (fun hc4 => ?_)
    · skip
      have chc4 := zc_geT hc4
      exact S1.ret (show True ∧ True from ⟨trivial, trivial⟩)
    · skip
      have chc4 := zc_geF hc4
      have y1 := hI.m8
      refine S1.gd (by omega) ?_
      try have y2 := zi_and (x := (x99 >>> (16 : Int32))) (y := (32767 : Int32)) (by omega)
      try have y3 := zi_rem (x := ((x99 >>> (16 : Int32)) &&& 32767)) (y := (g 114 8)) (by omega) (by omega)
      refine S1.bd (s_136 (((x99 >>> (16 : Int32)) &&& 32767) - ((x99 >>> (16 : Int32)) &&& 32767) / (g 114 8) * (g 114 8)) (5 : Int32) g hI (by omega)) ?_
      intro v6 hvv6 hRv6
      have hRv6 : True ∧ (((5 : Int32).toInt = 0 → 0 ≤ v6.toInt ∧ v6.toInt ≤ 7) ∧ ((5 : Int32).toInt = 1 → 0 ≤ v6.toInt ∧ v6.toInt ≤ 3)) := hRv6
      refine S1.ite (fun hc7 => ?_) (fun hc7 => ?_)
      · skip
        have chc7 := zc_eqT hc7
        refine S1.lt ?_
        intro v8 hvv8
        try have y4 := zi_and (x := (((x99 >>> (16 : Int32)) &&& 32767) - ((x99 >>> (16 : Int32)) &&& 32767) / (g 114 8) * (g 114 8))) (y := (31 : Int32)) (by omega)
        try have y5 := zi_add (x := x5) (y := (1 : Int32)) (by omega) (by omega)
        exact (ih x99 (x4 ||| (v8 <<< ((((x99 >>> (16 : Int32)) &&& 32767) - ((x99 >>> (16 : Int32)) &&& 32767) / (g 114 8) * (g 114 8)) &&& 31))) (x5 + 1) (by omega))
      · skip
        have chc7 := zc_eqF hc7
        refine S1.bd (s_151 (((x99 >>> (16 : Int32)) &&& 32767) - ((x99 >>> (16 : Int32)) &&& 32767) / (g 114 8) * (g 114 8)) x4 g hI (by omega)) ?_
        intro v9 hvv9 hRv9
        have hRv9 : True ∧ True := hRv9
        refine S1.ite (fun hc10 => ?_) (fun hc10 => ?_)
        · skip
          have chc10 := zc_neT hc10
          refine S1.lt ?_
          intro v11 hvv11
          try have y6 := zi_and (x := (((x99 >>> (16 : Int32)) &&& 32767) - ((x99 >>> (16 : Int32)) &&& 32767) / (g 114 8) * (g 114 8))) (y := (31 : Int32)) (by omega)
          try have y7 := zi_add (x := x5) (y := (1 : Int32)) (by omega) (by omega)
          exact (ih x99 (x4 ||| (v11 <<< ((((x99 >>> (16 : Int32)) &&& 32767) - ((x99 >>> (16 : Int32)) &&& 32767) / (g 114 8) * (g 114 8)) &&& 31))) (x5 + 1) (by omega))
        · skip
          have chc10 := zc_neF hc10
          refine S1.lt ?_
          intro v12 hvv12
          try have y8 := zi_and (x := (((x99 >>> (16 : Int32)) &&& 32767) - ((x99 >>> (16 : Int32)) &&& 32767) / (g 114 8) * (g 114 8))) (y := (31 : Int32)) (by omega)
          try have y9 := zi_add (x := x5) (y := (1 : Int32)) (by omega) (by omega)
          exact (ih x99 (x4 ||| (v12 <<< ((((x99 >>> (16 : Int32)) &&& 32767) - ((x99 >>> (16 : Int32)) &&& 32767) / (g 114 8) * (g 114 8)) &&& 31))) (x5 + 1) (by omega))
/-- EveningFirstModel.walk -/
theorem s_179 (x1 : Int32) (x2 : Int32) (g : G) (hI : Inv g) (hp : True) : S1 (d_179 x1 x2 g) (fun q : Int32 => True ∧ True) := by
  unfold d_179
  have Lm2 := zl_m2
  have Lm1 := zl_m1
  have L0 := zl_0
  have L1 := zl_1
  have L60 := zl_60
  have yp16 := hI.m8
  have y12 := zi_i64 x2
  have y13 : (1 : Int64).toInt = 1 := by decide
  have y14 : (60 : Int64).toInt = 60 := by decide
  refine S1.lc (zin_c (a := (Int32.toInt64 x2)) (b := (1 : Int64)) (c := (60 : Int64))) ?_
  intro v1 hvv1 hRv1
  have hRv1 : (v1 = true → (1 : Int64).toInt ≤ (Int32.toInt64 x2).toInt ∧ (Int32.toInt64 x2).toInt ≤ (60 : Int64).toInt) ∧ (v1 = false → (Int32.toInt64 x2).toInt < (1 : Int64).toInt ∨ (60 : Int64).toInt < (Int32.toInt64 x2).toInt) := hRv1
  refine S1.ite (fun hc2 => ?_) (fun hc2 => ?_)
  · skip
    have chc2 := hRv1.1 hc2
    have y15 := hI.m8
    refine S1.ite (fun hc3 => ?_) (fun hc3 => ?_)
    · skip
      have chc3 := zc_neT hc3
      exact (s_179_35 x2 g hI 300 x1 (0 : Int32) (0 : Int32) (by omega))
    · skip
      have chc3 := zc_neF hc3
      exact S1.ret (show True ∧ True from ⟨trivial, trivial⟩)
  · skip
    have chc2 := hRv1.2 hc2
    exact S1.ret (show True ∧ True from ⟨trivial, trivial⟩)
/-- EveningFirst.keep -/
theorem s_83 (x1 : Int32) (g : G) (hI : Inv g) (hp : True) : S1 (d_83 x1 g) (fun q : Int32 × G => Inv q.2 ∧ True) := by
  unfold d_83
  have Lm1 := zl_m1
  have L0 := zl_0
  have L1 := zl_1
  have L2 := zl_2
  refine S1.ite (fun hc1 => ?_) (fun hc1 => ?_)
  · skip
    have chc1 := zc_ltT hc1
    exact S1.ret (show Inv g ∧ True from ⟨hI, trivial⟩)
  · skip
    have chc1 := zc_ltF hc1
    refine S1.ite (fun hc2 => ?_) (fun hc2 => ?_)
    · skip
      have chc2 := zc_ltT hc2
      refine S1.ix (by omega) ?_
      intro k3 hk3 bk3
      refine S1.ite (fun hc4 => ?_) (fun hc4 => ?_)
      · skip
        have chc4 := zc_eqT hc4
        refine S1.ix (by omega) ?_
        intro k5 hk5 bk5
        refine S1.bd (s_17 (56 + 24 * k5) 1 (zg_image hk5) rfl g hI trivial) ?_
        intro g6 hvg6 hRg6
        have hRg6 : Inv g6 ∧ True := hRg6
        refine S1.ix (by omega) ?_
        intro k8 hk8 bk8
        refine S1.lt ?_
        intro g7 hg7
        have Ig7 : Inv g7 := Inv.up hRg6.1 hg7 rfl trivial
        exact S1.ret (show Inv g7 ∧ True from ⟨Ig7, trivial⟩)
      · skip
        have chc4 := zc_eqF hc4
        refine S1.ix (by omega) ?_
        intro k9 hk9 bk9
        refine S1.bd (s_17 (56 + 24 * k9) 1 (zg_image hk9) rfl g hI trivial) ?_
        intro g10 hvg10 hRg10
        have hRg10 : Inv g10 ∧ True := hRg10
        refine S1.ix (by omega) ?_
        intro k12 hk12 bk12
        refine S1.lt ?_
        intro g11 hg11
        have Ig11 : Inv g11 := Inv.up hRg10.1 hg11 rfl trivial
        exact S1.ret (show Inv g11 ∧ True from ⟨Ig11, trivial⟩)
    · skip
      have chc2 := zc_ltF hc2
      exact S1.ret (show Inv g ∧ True from ⟨hI, trivial⟩)
theorem s_180_2 (x1 : Int32) (x2 : Int32) : ∀ (f : Nat) (x3 : Int32) (g : G), Inv g → 0 ≤ x3.toInt ∧ x3.toInt ≤ 98 ∧ 98 - x3.toInt < (f : Int) ∧ (x1.toInt = 0 ∨ x1.toInt = 98 ∨ x1.toInt = 196) ∧ (x2.toInt = 0 ∨ x2.toInt = 98 ∨ x2.toInt = 196) → S1 (d_180_2 x1 x2 f x3 g) (fun q : G => Inv q ∧ True) := by
  intro f
  induction f with
  | zero =>
    intro x3 g hI hp
    exfalso
    omega
  | succ f ih =>
    intro x3 g hI hp
    rw [d_180_2.eq_2]
    have L1 := zl_1
    have L98 := zl_98
    refine S1.ite (fun hc1 => ?_) (fun hc1 => ?_)
    · skip
      have chc1 := zc_geT hc1
      exact S1.ret (show Inv g ∧ True from ⟨hI, trivial⟩)
    · skip
      have chc1 := zc_geF hc1
      try have y1 := zi_add (x := x2) (y := x3) (by omega) (by omega)
      refine S1.ix (by omega) ?_
      intro k2 hk2 bk2
      try have y2 := zi_add (x := x1) (y := x3) (by omega) (by omega)
      refine S1.ix (by omega) ?_
      intro k4 hk4 bk4
      refine S1.lt ?_
      intro g3 hg3
      have Ig3 : Inv g3 := Inv.up hI hg3 rfl (show stP (k4 % 98) _ from stP_eq (show k2 % 98 = k4 % 98 by omega) (Inv.rd (r := 114) (c := 9) hI k2 rfl))
      try have y3 := zi_add (x := x3) (y := (1 : Int32)) (by omega) (by omega)
      exact (ih (x3 + 1) g3 Ig3 (by omega))
/-- EveningFirstModel.copies -/
theorem s_180 (x1 : Int32) (x2 : Int32) (g : G) (hI : Inv g) (hp : (x1.toInt = 0 ∨ x1.toInt = 98 ∨ x1.toInt = 196) ∧ (x2.toInt = 0 ∨ x2.toInt = 98 ∨ x2.toInt = 196)) : S1 (d_180 x1 x2 g) (fun q : G => Inv q ∧ True) := by
  unfold d_180
  have L0 := zl_0
  exact (s_180_2 x1 x2 300 (0 : Int32) g hI (by omega))
