/-! printed by wip/tools/safe.py -/
/-- EveningFirst.sizeOfGreatest -/
theorem s_100 (r1 : Nat) (h1 : zg_cl r1 = 2) (g : G) (hI : Inv g) (hp : True) : S1 (d_100 r1 g) (fun q : Int32 × G => Inv q.2 ∧ True) := by
  unfold d_100
  refine S1.bd (s_2 r1 h1 g hI trivial) ?_
  intro g1 hvg1 hRg1
  have hRg1 : Inv g1 ∧ True := hRg1
  refine S1.bd (s_8 (g1 25 2) g1 hRg1.1 trivial) ?_
  intro v2 hvv2 hRv2
  have hRv2 : True ∧ True := hRv2
  refine S1.lt ?_
  intro v3 hvv3
  exact S1.ret (show Inv g1 ∧ True from ⟨hRg1.1, trivial⟩)
theorem s_75_47 (x1 : Int32) (x2 : Int32) : ∀ (f : Nat) (x3 : Int32) (x4 : Int32) (x5 : Int32) (g : G), Inv g → 0 ≤ x5.toInt ∧ x5.toInt ≤ 8 ∧ 8 - x5.toInt < (f : Int) → S1 (d_75_47 x1 x2 f x3 x4 x5 g) (fun q : Int32 × G => Inv q.2 ∧ True) := by
  intro f
  induction f with
  | zero =>
    intro x3 x4 x5 g hI hp
    exfalso
    omega
  | succ f ih =>
    intro x3 x4 x5 g hI hp
    rw [d_75_47.eq_2]
    have Lm4 := zl_m4
    have L0 := zl_0
    have L1 := zl_1
    have yp6 : 0 ≤ (g 1 0).toInt ∧ (g 1 0).toInt ≤ 8 := Inv.rd (r := 1) (c := 2) hI 0 rfl
    have y1 : 0 ≤ (g 1 0).toInt ∧ (g 1 0).toInt ≤ 8 := Inv.rd (r := 1) (c := 2) hI 0 rfl
    refine S1.ite (fun hc8 => ?_) (fun hc8 => ?_)
    · skip
      have chc8 := zc_geT hc8
      refine S1.ite (fun hc9 => ?_) (fun hc9 => ?_)
      · skip
        have chc9 := zc_neT hc9
        refine S1.ite (fun hc10 => ?_) (fun hc10 => ?_)
        · skip
          have chc10 := zc_neT hc10
          exact S1.ret (show Inv g ∧ True from ⟨hI, trivial⟩)
        · skip
          have chc10 := zc_neF hc10
          exact S1.ret (show Inv g ∧ True from ⟨hI, trivial⟩)
      · skip
        have chc9 := zc_neF hc9
        exact S1.ret (show Inv g ∧ True from ⟨hI, trivial⟩)
    · skip
      have chc8 := zc_geF hc8
      refine S1.ix (by omega) ?_
      intro k11 hk11 bk11
      refine S1.lt ?_
      intro g12 hg12
      have Ig12 : Inv g12 := Inv.up hI hg12 (zg_deed (b := 30) rfl hk11) trivial
      have u2 : (g12 1 0).toInt = (g 1 0).toInt := zg_upc hg12 (zg_deed (b := 30) rfl hk11) (by decide)
      refine S1.bp (s_100 30 rfl g12 Ig12 trivial) ?_
      intro v13 g14 hvv13 hRv13
      have hRv13 : Inv g14 ∧ True := hRv13
      have y3 : 0 ≤ (g14 1 0).toInt ∧ (g14 1 0).toInt ≤ 8 := Inv.rd (r := 1) (c := 2) hRv13.1 0 rfl
      refine S1.ite (fun hc15 => ?_) (fun hc15 => ?_)
      · skip
        have chc15 := zc_leT hc15
        try have y4 := zi_add (x := x5) (y := (1 : Int32)) (by omega) (by omega)
        exact (ih x3 x4 (x5 + 1) g14 hRv13.1 (by omega))
      · skip
        have chc15 := zc_leF hc15
        try have y5 := zi_add (x := x5) (y := (1 : Int32)) (by omega) (by omega)
        exact (ih v13 x5 (x5 + 1) g14 hRv13.1 (by omega))
/-- EveningFirst.better -/
theorem s_75 (x1 : Int32) (x2 : Int32) (g : G) (hI : Inv g) (hp : True) : S1 (d_75 x1 x2 g) (fun q : Int32 × G => Inv q.2 ∧ True) := by
  unfold d_75
  have Lm4 := zl_m4
  have Lm1 := zl_m1
  have L0 := zl_0
  refine S1.lc (s_20 1 x1 rfl g hI trivial) ?_
  intro v1 hvv1 hRv1
  have hRv1 : True ∧ True ∧ (v1 = true → 0 ≤ x1.toInt ∧ x1.toInt < (g 1 2).toInt) ∧ (v1 = false → True) := hRv1
  refine S1.ite (fun hc2 => ?_) (fun hc2 => ?_)
  · skip
    have chc2 := hRv1.2.2.1 hc2
    refine S1.lt ?_
    intro v3 hvv3
    refine S1.ite (fun hc4 => ?_) (fun hc4 => ?_)
    · skip
      exact S1.ret (show Inv g ∧ True from ⟨hI, trivial⟩)
    · skip
      refine S1.bp (s_100 1 rfl g hI trivial) ?_
      intro v5 g6 hvv5 hRv5
      have hRv5 : Inv g6 ∧ True := hRv5
      refine S1.bd (s_17 30 1 rfl rfl g6 hRv5.1 trivial) ?_
      intro g7 hvg7 hRg7
      have hRg7 : Inv g7 ∧ True := hRg7
      exact (s_75_47 x1 x2 300 v5 (-4 : Int32) (0 : Int32) g7 hRg7.1 (by omega))
  · skip
    have chc2 := hRv1.2.2.2 hc2
    exact S1.ret (show Inv g ∧ True from ⟨hI, trivial⟩)
theorem s_169_55 (x2 : Int32) (x5 : Int32) (x6 : Int32) : ∀ (f : Nat) (x3 : Int32) (x4 : Int32) (x7 : Int32) (g : G), Inv g → 0 ≤ x7.toInt ∧ x7.toInt ≤ 8 ∧ 8 - x7.toInt < (f : Int) ∧ 9 ≤ x5.toInt ∧ x5.toInt ≤ 58 ∧ (x5.toInt - 9) % 7 = 0 ∧ 0 ≤ x6.toInt ∧ x6.toInt ≤ 7 → S1 (d_169_55 x2 x5 x6 f x3 x4 x7 g) (fun q : Int32 × G => Inv q.2 ∧ True) := by
  intro f
  induction f with
  | zero =>
    intro x3 x4 x7 g hI hp
    exfalso
    omega
  | succ f ih =>
    intro x3 x4 x7 g hI hp
    rw [d_169_55.eq_2]
    have Lm4 := zl_m4
    have L0 := zl_0
    have L1 := zl_1
    have yp8 : 0 ≤ (g 113 2).toInt ∧ (g 113 2).toInt ≤ 8 := Inv.rd (r := 113) (c := 8) hI 2 rfl
    have y1 : 0 ≤ (g 113 2).toInt ∧ (g 113 2).toInt ≤ 8 := Inv.rd (r := 113) (c := 8) hI 2 rfl
    refine S1.ite (fun hc8 => ?_) (fun hc8 => ?_)
    · skip
      have chc8 := zc_geT hc8
      refine S1.ix (by omega) ?_
      intro k10 hk10 bk10
      refine S1.lt ?_
      intro g9 hg9
      have Ig9 : Inv g9 := Inv.up hI hg9 rfl (bdP_st (by omega) ((stP_d (d := ((x5.toInt - 9) / 7)) (o := 0) (by omega) (by omega) (by omega)).mpr ⟨fun w => by omega, fun w => by omega⟩))
      have u2 : (g9 113 2).toInt = (g 113 2).toInt := by rw [← hg9]; rfl
      refine S1.ite (fun hc11 => ?_) (fun hc11 => ?_)
      · skip
        have chc11 := zc_neT hc11
        refine S1.ite (fun hc12 => ?_) (fun hc12 => ?_)
        · skip
          have chc12 := zc_neT hc12
          exact S1.ret (show Inv g9 ∧ True from ⟨Ig9, trivial⟩)
        · skip
          have chc12 := zc_neF hc12
          exact S1.ret (show Inv g9 ∧ True from ⟨Ig9, trivial⟩)
      · skip
        have chc11 := zc_neF hc11
        exact S1.ret (show Inv g9 ∧ True from ⟨Ig9, trivial⟩)
    · skip
      have chc8 := zc_geF hc8
      refine S1.ix (by omega) ?_
      intro k14 hk14 bk14
      refine S1.lt ?_
      intro g13 hg13
      have Ig13 : Inv g13 := Inv.up hI hg13 rfl (bdP_st (by omega) ((stP_d (d := ((x5.toInt - 9) / 7)) (o := 0) (by omega) (by omega) (by omega)).mpr ⟨fun w => by omega, fun w => by omega⟩))
      have u3 : (g13 113 2).toInt = (g 113 2).toInt := by rw [← hg13]; rfl
      refine S1.bd (s_161 g13 Ig13 trivial) ?_
      intro v15 hvv15 hRv15
      have hRv15 : True ∧ True := hRv15
      refine S1.bd (s_164 v15 g13 Ig13 trivial) ?_
      intro v16 hvv16 hRv16
      have hRv16 : True ∧ True := hRv16
      refine S1.ite (fun hc17 => ?_) (fun hc17 => ?_)
      · skip
        have chc17 := zc_leT hc17
        refine S1.ite (fun hc18 => ?_) (fun hc18 => ?_)
        · skip
          have chc18 := zc_leT hc18
          try have y4 := zi_add (x := x7) (y := (1 : Int32)) (by omega) (by omega)
          exact (ih x3 x4 (x7 + 1) g13 Ig13 (by omega))
        · skip
          have chc18 := zc_leF hc18
          try have y5 := zi_add (x := x7) (y := (1 : Int32)) (by omega) (by omega)
          exact (ih v16 x4 (x7 + 1) g13 Ig13 (by omega))
      · skip
        have chc17 := zc_leF hc17
        refine S1.ite (fun hc19 => ?_) (fun hc19 => ?_)
        · skip
          have chc19 := zc_leT hc19
          try have y6 := zi_add (x := x7) (y := (1 : Int32)) (by omega) (by omega)
          exact (ih x3 x7 (x7 + 1) g13 Ig13 (by omega))
        · skip
          have chc19 := zc_leF hc19
          try have y7 := zi_add (x := x7) (y := (1 : Int32)) (by omega) (by omega)
          exact (ih v16 x7 (x7 + 1) g13 Ig13 (by omega))
/-- EveningFirstModel.better -/
theorem s_169 (x1 : Int32) (x2 : Int32) (g : G) (hI : Inv g) (hp : True) : S1 (d_169 x1 x2 g) (fun q : Int32 × G => Inv q.2 ∧ True) := by
  unfold d_169
  have Lm4 := zl_m4
  have Lm1 := zl_m1
  have L0 := zl_0
  have L1 := zl_1
  have L7 := zl_7
  have L9 := zl_9
  have yp16 := hI.m8
  refine S1.lc (s_132 x1 g hI trivial) ?_
  intro v1 hvv1 hRv1
  have hRv1 : True ∧ True ∧ (v1 = true → 0 ≤ x1.toInt ∧ x1.toInt < (g 114 8).toInt) ∧ (v1 = false → True) := hRv1
  refine S1.ite (fun hc2 => ?_) (fun hc2 => ?_)
  · skip
    have chc2 := hRv1.2.2.1 hc2
    have y9 := zi_i64 x2
    have y10 : (0 : Int64).toInt = 0 := by decide
    have y11 : (1 : Int64).toInt = 1 := by decide
    refine S1.lc (zin_c (a := (Int32.toInt64 x2)) (b := (0 : Int64)) (c := (1 : Int64))) ?_
    intro v3 hvv3 hRv3
    have hRv3 : (v3 = true → (0 : Int64).toInt ≤ (Int32.toInt64 x2).toInt ∧ (Int32.toInt64 x2).toInt ≤ (1 : Int64).toInt) ∧ (v3 = false → (Int32.toInt64 x2).toInt < (0 : Int64).toInt ∨ (1 : Int64).toInt < (Int32.toInt64 x2).toInt) := hRv3
    refine S1.ite (fun hc4 => ?_) (fun hc4 => ?_)
    · skip
      have chc4 := hRv3.1 hc4
      refine S1.bd (s_161 g hI trivial) ?_
      intro v5 hvv5 hRv5
      have hRv5 : True ∧ True := hRv5
      refine S1.bd (s_164 v5 g hI trivial) ?_
      intro v6 hvv6 hRv6
      have hRv6 : True ∧ True := hRv6
      try have y12 := zi_mul (x := (7 : Int32)) (y := x1) (n := 7) (by decide) (by omega) (by omega)
      try have y13 := zi_add (x := (9 : Int32)) (y := (7 * x1)) (by omega) (by omega)
      try have y14 := zi_add (x := (9 + (7 * x1))) (y := (0 : Int32)) (by omega) (by omega)
      refine S1.ix (by omega) ?_
      intro k7 hk7 bk7
      have y15 := ((stP_d (d := x1.toInt) (o := 0) (by omega) (by omega) (by omega)).mp (hI.st (k := k7) (by omega))).1 rfl
      exact (s_169_55 x2 ((9 + (7 * x1)) + 0) (g 114 k7) 300 v6 (-4 : Int32) (0 : Int32) g hI (by omega))
    · skip
      have chc4 := hRv3.2 hc4
      exact S1.ret (show Inv g ∧ True from ⟨hI, trivial⟩)
  · skip
    have chc2 := hRv1.2.2.2 hc2
    exact S1.ret (show Inv g ∧ True from ⟨hI, trivial⟩)
theorem s_76_69 (x1 : Int32) (x2 : Int32) (x3 : Int32) (x4 : Int32) (g : G) (hI : Inv g) : ∀ (f : Nat) (x5 : Int32) (x6 : Int32), 0 ≤ x6.toInt ∧ x6.toInt ≤ 8 ∧ 8 - x6.toInt < (f : Int) → S1 (d_76_69 x1 x2 x3 x4 g f x5 x6) (fun q : Int32 × G => Inv q.2 ∧ True) := by
  intro f
  induction f with
  | zero =>
    intro x5 x6 hp
    exfalso
    omega
  | succ f ih =>
    intro x5 x6 hp
    rw [d_76_69.eq_2]
    have L1 := zl_1
    have L31 := zl_31
    have yp6 : 0 ≤ (g 1 0).toInt ∧ (g 1 0).toInt ≤ 8 := Inv.rd (r := 1) (c := 2) hI 0 rfl
    have y1 : 0 ≤ (g 1 0).toInt ∧ (g 1 0).toInt ≤ 8 := Inv.rd (r := 1) (c := 2) hI 0 rfl
    refine S1.ite (fun hc10 => ?_) (fun hc10 => ?_)
    · skip
      have chc10 := zc_geT hc10
      exact S1.ret (show Inv g ∧ True from ⟨hI, trivial⟩)
    · skip
      have chc10 := zc_geF hc10
      refine S1.bd (s_24 1 x1 x6 x4 rfl g hI (by omega)) ?_
      intro v11 hvv11 hRv11
      have hRv11 : True ∧ True := hRv11
      refine S1.bd (s_24 1 x2 x6 x4 rfl g hI (by omega)) ?_
      intro v12 hvv12 hRv12
      have hRv12 : True ∧ True := hRv12
      refine S1.lt ?_
      intro v13 hvv13
      refine S1.ite (fun hc14 => ?_) (fun hc14 => ?_)
      · skip
        try have y2 := zi_and (x := x6) (y := (31 : Int32)) (by omega)
        try have y3 := zi_shl1 (x := x6) (by omega)
        try have y4 := zi_add (x := x6) (y := (1 : Int32)) (by omega) (by omega)
        exact (ih (x5 ||| ((1 : Int32) <<< (x6 &&& 31))) (x6 + 1) (by omega))
      · skip
        try have y5 := zi_add (x := x6) (y := (1 : Int32)) (by omega) (by omega)
        exact (ih x5 (x6 + 1) (by omega))
/-- EveningFirst.common -/
theorem s_76 (x1 : Int32) (x2 : Int32) (x3 : Int32) (g : G) (hI : Inv g) (hp : True) : S1 (d_76 x1 x2 x3 g) (fun q : Int32 × G => Inv q.2 ∧ True) := by
  unfold d_76
  have Lm1 := zl_m1
  have L0 := zl_0
  refine S1.lc (s_18 1 x1 rfl g hI trivial) ?_
  intro v1 hvv1 hRv1
  have hRv1 : True ∧ True ∧ (v1 = true → 0 ≤ x1.toInt ∧ x1.toInt < (g 1 1).toInt) ∧ (v1 = false → True) := hRv1
  refine S1.ite (fun hc2 => ?_) (fun hc2 => ?_)
  · skip
    have chc2 := hRv1.2.2.1 hc2
    refine S1.lc (s_18 1 x2 rfl g hI trivial) ?_
    intro v3 hvv3 hRv3
    have hRv3 : True ∧ True ∧ (v3 = true → 0 ≤ x2.toInt ∧ x2.toInt < (g 1 1).toInt) ∧ (v3 = false → True) := hRv3
    refine S1.ite (fun hc4 => ?_) (fun hc4 => ?_)
    · skip
      have chc4 := hRv3.2.2.1 hc4
      refine S1.ite (fun hc5 => ?_) (fun hc5 => ?_)
      · skip
        have chc5 := zc_eqT hc5
        exact S1.ret (show Inv g ∧ True from ⟨hI, trivial⟩)
      · skip
        have chc5 := zc_eqF hc5
        refine S1.lc (s_91 x3 g hI trivial) ?_
        intro v6 hvv6 hRv6
        have hRv6 : True ∧ True ∧ (v6 = true → 0 ≤ x3.toInt ∧ x3.toInt ≤ 5) ∧ (v6 = false → True) := hRv6
        refine S1.ite (fun hc7 => ?_) (fun hc7 => ?_)
        · skip
          have chc7 := hRv6.2.2.1 hc7
          refine S1.bd (s_2 1 rfl g hI trivial) ?_
          intro g8 hvg8 hRg8
          have hRg8 : Inv g8 ∧ True := hRg8
          refine S1.bd (s_8 (g8 25 2) g8 hRg8.1 trivial) ?_
          intro v9 hvv9 hRv9
          have hRv9 : True ∧ True := hRv9
          exact (s_76_69 x1 x2 x3 v9 g8 hRg8.1 300 (0 : Int32) (0 : Int32) (by omega))
        · skip
          have chc7 := hRv6.2.2.2 hc7
          exact S1.ret (show Inv g ∧ True from ⟨hI, trivial⟩)
    · skip
      have chc4 := hRv3.2.2.2 hc4
      exact S1.ret (show Inv g ∧ True from ⟨hI, trivial⟩)
  · skip
    have chc2 := hRv1.2.2.2 hc2
    exact S1.ret (show Inv g ∧ True from ⟨hI, trivial⟩)
theorem s_170_42 (x1 : Int32) (x2 : Int32) (x3 : Int32) (x4 : Int32) (g : G) (hI : Inv g) : ∀ (f : Nat) (x5 : Int32) (x6 : Int32), 0 ≤ x6.toInt ∧ x6.toInt ≤ 8 ∧ 8 - x6.toInt < (f : Int) → S1 (d_170_42 x1 x2 x3 x4 g f x5 x6) (fun q : Int32 => True ∧ True) := by
  intro f
  induction f with
  | zero =>
    intro x5 x6 hp
    exfalso
    omega
  | succ f ih =>
    intro x5 x6 hp
    rw [d_170_42.eq_2]
    have L1 := zl_1
    have L31 := zl_31
    have yp8 : 0 ≤ (g 113 2).toInt ∧ (g 113 2).toInt ≤ 8 := Inv.rd (r := 113) (c := 8) hI 2 rfl
    have y1 : 0 ≤ (g 113 2).toInt ∧ (g 113 2).toInt ≤ 8 := Inv.rd (r := 113) (c := 8) hI 2 rfl
    refine S1.ite (fun hc9 => ?_) (fun hc9 => ?_)
    · skip
      have chc9 := zc_geT hc9
      exact S1.ret (show True ∧ True from ⟨trivial, trivial⟩)
    · skip
      have chc9 := zc_geF hc9
      refine S1.bd (s_150 x1 x6 x4 g hI (by omega)) ?_
      intro v10 hvv10 hRv10
      have hRv10 : True ∧ True := hRv10
      refine S1.bd (s_150 x2 x6 x4 g hI (by omega)) ?_
      intro v11 hvv11 hRv11
      have hRv11 : True ∧ True := hRv11
      try have y2 := zi_and (x := v10) (y := v11) (by omega)
      try have y3 := zi_and (x := x3) (y := (31 : Int32)) (by omega)
      try have y4 := zi_and (x := x6) (y := (31 : Int32)) (by omega)
      try have y5 := zi_shl1 (x := x6) (by omega)
      try have y6 := zi_and (x := (((v10 &&& v11) >>> (x3 &&& 31)) <<< (x6 &&& 31))) (y := ((1 : Int32) <<< (x6 &&& 31))) (by omega)
      try have y7 := zi_add (x := x6) (y := (1 : Int32)) (by omega) (by omega)
      exact (ih (x5 ||| ((((v10 &&& v11) >>> (x3 &&& 31)) <<< (x6 &&& 31)) &&& ((1 : Int32) <<< (x6 &&& 31)))) (x6 + 1) (by omega))
/-- EveningFirstModel.common -/
theorem s_170 (x1 : Int32) (x2 : Int32) (x3 : Int32) (g : G) (hI : Inv g) (hp : True) : S1 (d_170 x1 x2 x3 g) (fun q : Int32 => True ∧ True) := by
  unfold d_170
  have Lm1 := zl_m1
  have L0 := zl_0
  have yp9 : 0 ≤ (g 113 3).toInt ∧ (g 113 3).toInt ≤ 4 := Inv.rd (r := 113) (c := 8) hI 3 rfl
  refine S1.lc (s_131 x1 g hI trivial) ?_
  intro v1 hvv1 hRv1
  have hRv1 : True ∧ True ∧ (v1 = true → 0 ≤ x1.toInt ∧ x1.toInt < (g 113 3).toInt) ∧ (v1 = false → True) := hRv1
  refine S1.ite (fun hc2 => ?_) (fun hc2 => ?_)
  · skip
    have chc2 := hRv1.2.2.1 hc2
    refine S1.lc (s_131 x2 g hI trivial) ?_
    intro v3 hvv3 hRv3
    have hRv3 : True ∧ True ∧ (v3 = true → 0 ≤ x2.toInt ∧ x2.toInt < (g 113 3).toInt) ∧ (v3 = false → True) := hRv3
    refine S1.ite (fun hc4 => ?_) (fun hc4 => ?_)
    · skip
      have chc4 := hRv3.2.2.1 hc4
      refine S1.ite (fun hc5 => ?_) (fun hc5 => ?_)
      · skip
        have chc5 := zc_eqT hc5
        exact S1.ret (show True ∧ True from ⟨trivial, trivial⟩)
      · skip
        have chc5 := zc_eqF hc5
        refine S1.lt ?_
        intro v6 hvv6
        refine S1.ite (fun hc7 => ?_) (fun hc7 => ?_)
        · skip
          refine S1.bd (s_161 g hI trivial) ?_
          intro v8 hvv8 hRv8
          have hRv8 : True ∧ True := hRv8
          exact (s_170_42 x1 x2 x3 v8 g hI 300 (0 : Int32) (0 : Int32) (by omega))
        · skip
          exact S1.ret (show True ∧ True from ⟨trivial, trivial⟩)
    · skip
      have chc4 := hRv3.2.2.2 hc4
      exact S1.ret (show True ∧ True from ⟨trivial, trivial⟩)
  · skip
    have chc2 := hRv1.2.2.2 hc2
    exact S1.ret (show True ∧ True from ⟨trivial, trivial⟩)
theorem s_103_5 (x1 : Int32) (g : G) (hI : Inv g) : ∀ (f : Nat) (x2 : Int64) (x4 : Int32), 0 ≤ x4.toInt ∧ x4.toInt ≤ 8 ∧ 8 - x4.toInt < (f : Int) → S1 (d_103_5 x1 g f x2 x4) (fun q : Int64 => True ∧ True) := by
  intro f
  induction f with
  | zero =>
    intro x2 x4 hp
    exfalso
    omega
  | succ f ih =>
    intro x2 x4 hp
    rw [d_103_5.eq_2]
    have L1 := zl_1
    have L10 := zl_10
    have yp7 : 0 ≤ (g 1 2).toInt ∧ (g 1 2).toInt ≤ 8 := Inv.rd (r := 1) (c := 2) hI 2 rfl
    have y1 : 0 ≤ (g 1 2).toInt ∧ (g 1 2).toInt ≤ 8 := Inv.rd (r := 1) (c := 2) hI 2 rfl
    refine S1.ite (fun hc1 => ?_) (fun hc1 => ?_)
    · skip
      have chc1 := zc_geT hc1
      exact S1.ret (show True ∧ True from ⟨trivial, trivial⟩)
    · skip
      have chc1 := zc_geF hc1
      refine S1.ix (by omega) ?_
      intro k2 hk2 bk2
      refine S1.lt ?_
      intro v3 hvv3
      refine S1.lt ?_
      intro v4 hvv4
      refine S1.ite (fun hc5 => ?_) (fun hc5 => ?_)
      · skip
        have y2 := zi_i64 v3
        try have y3 := zi_add (x := x4) (y := (1 : Int32)) (by omega) (by omega)
        exact (ih (x2 * (Int32.toInt64 v3)) (x4 + 1) (by omega))
      · skip
        try have y4 := zi_sub (x := (10 : Int32)) (y := v3) (by omega) (by omega)
        have y5 := zi_i64 (10 - v3)
        try have y6 := zi_add (x := x4) (y := (1 : Int32)) (by omega) (by omega)
        exact (ih (x2 * (Int32.toInt64 (10 - v3))) (x4 + 1) (by omega))
/-- EveningFirst.weightOf -/
theorem s_103 (x1 : Int32) (g : G) (hI : Inv g) (hp : True) : S1 (d_103 x1 g) (fun q : Int64 => True ∧ True) := by
  unfold d_103
  have L0 := zl_0
  have L1 := zl_1
  exact (s_103_5 x1 g hI 300 (1 : Int64) (0 : Int32) (by omega))
theorem s_102_17 (x1 : Int32) (x2 : Int32) (x3 : Int32) (g : G) (hI : Inv g) : ∀ (f : Nat) (x4 : Int64) (x6 : Int32), 0 ≤ x6.toInt ∧ x6.toInt ≤ 256 ∧ 256 - x6.toInt < (f : Int) → S1 (d_102_17 x1 x2 x3 g f x4 x6) (fun q : Int64 × G => Inv q.2 ∧ True) := by
  intro f
  induction f with
  | zero =>
    intro x4 x6 hp
    exfalso
    omega
  | succ f ih =>
    intro x4 x6 hp
    rw [d_102_17.eq_2]
    have Lm1 := zl_m1
    have L1 := zl_1
    have yp8 : 0 ≤ (g 25 0).toInt ∧ (g 25 0).toInt ≤ 255 := Inv.rd (r := 25) (c := 0) hI 0 rfl
    have y1 : 0 ≤ (g 25 0).toInt ∧ (g 25 0).toInt ≤ 255 := Inv.rd (r := 25) (c := 0) hI 0 rfl
    refine S1.ite (fun hc2 => ?_) (fun hc2 => ?_)
    · skip
      have chc2 := zc_gtT hc2
      exact S1.ret (show Inv g ∧ True from ⟨hI, trivial⟩)
    · skip
      have chc2 := zc_gtF hc2
      refine S1.bd (s_6 x6 g hI trivial) ?_
      intro v3 hvv3 hRv3
      have hRv3 : True ∧ True ∧ (v3 = true → True) ∧ (v3 = false → True) := hRv3
      refine S1.ite (fun hc4 => ?_) (fun hc4 => ?_)
      · skip
        have chc4 := hRv3.2.2.1 hc4
        refine S1.ite (fun hc5 => ?_) (fun hc5 => ?_)
        · skip
          have chc5 := zc_eqT hc5
          refine S1.bd (s_103 x6 g hI trivial) ?_
          intro v6 hvv6 hRv6
          have hRv6 : True ∧ True := hRv6
          try have y2 := zj_add (x := x4) (y := v6) (by omega) (by omega)
          try have y3 := zi_add (x := x6) (y := (1 : Int32)) (by omega) (by omega)
          exact (ih (x4 + v6) (x6 + 1) (by omega))
        · skip
          have chc5 := zc_eqF hc5
          refine S1.bd (s_24 1 x1 x3 x6 rfl g hI (by omega)) ?_
          intro v7 hvv7 hRv7
          have hRv7 : True ∧ True := hRv7
          refine S1.lt ?_
          intro v8 hvv8
          refine S1.ite (fun hc9 => ?_) (fun hc9 => ?_)
          · skip
            refine S1.bd (s_103 x6 g hI trivial) ?_
            intro v10 hvv10 hRv10
            have hRv10 : True ∧ True := hRv10
            try have y4 := zj_add (x := x4) (y := v10) (by omega) (by omega)
            try have y5 := zi_add (x := x6) (y := (1 : Int32)) (by omega) (by omega)
            exact (ih (x4 + v10) (x6 + 1) (by omega))
          · skip
            try have y6 := zi_add (x := x6) (y := (1 : Int32)) (by omega) (by omega)
            exact (ih x4 (x6 + 1) (by omega))
      · skip
        have chc4 := hRv3.2.2.2 hc4
        try have y7 := zi_add (x := x6) (y := (1 : Int32)) (by omega) (by omega)
        exact (ih x4 (x6 + 1) (by omega))
/-- EveningFirst.weightOfDays -/
theorem s_102 (x1 : Int32) (x2 : Int32) (x3 : Int32) (g : G) (hI : Inv g) (hp : True) : S1 (d_102 x1 x2 x3 g) (fun q : Int64 × G => Inv q.2 ∧ True) := by
  unfold d_102
  have L0 := zl_0
  refine S1.bd (s_2 1 rfl g hI trivial) ?_
  intro g1 hvg1 hRg1
  have hRg1 : Inv g1 ∧ True := hRg1
  exact (s_102_17 x1 x2 x3 g1 hRg1.1 300 (0 : Int64) (0 : Int32) (by omega))
theorem s_105_9 (g : G) (hI : Inv g) : ∀ (f : Nat) (x4 : Int64) (x6 : Int64) (x8 : Int32), 0 ≤ x8.toInt ∧ x8.toInt ≤ 100 ∧ 100 - x8.toInt < (f : Int) → S1 (d_105_9 g f x4 x6 x8) (fun q : Int64 => True ∧ True) := by
  intro f
  induction f with
  | zero =>
    intro x4 x6 x8 hp
    exfalso
    omega
  | succ f ih =>
    intro x4 x6 x8 hp
    rw [d_105_9.eq_2]
    have L0 := zl_0
    have L1 := zl_1
    have L100 := zl_100
    refine S1.ite (fun hc1 => ?_) (fun hc1 => ?_)
    · skip
      have chc1 := zc_geT hc1
      exact S1.ret (show True ∧ True from ⟨trivial, trivial⟩)
    · skip
      have chc1 := zc_geF hc1
      have y1 : (0 : Int64).toInt = 0 := by decide
      have y2 := zl_cf (x := x6) (y := (0 : Int64))
      refine S1.ite (fun hc2 => ?_) (fun hc2 => ?_)
      · skip
        have chc2 := zc_eqT hc2
        exact S1.ret (show True ∧ True from ⟨trivial, trivial⟩)
      · skip
        have chc2 := zc_eqF hc2
        refine S1.gl (by omega) ?_
        try have y3 := zi_rem (x := x4) (y := x6) (by omega) (by omega)
        try have y4 := zi_add (x := x8) (y := (1 : Int32)) (by omega) (by omega)
        exact (ih x6 (x4 - x4 / x6 * x6) (x8 + 1) (by omega))
/-- EveningFirst.greatestDivisor -/
theorem s_105 (x0 : Int64) (x2 : Int64) (g : G) (hI : Inv g) (hp : True) : S1 (d_105 x0 x2 g) (fun q : Int64 => True ∧ True) := by
  unfold d_105
  have L0 := zl_0
  exact (s_105_9 g hI 300 x0 x2 (0 : Int32) (by omega))
theorem s_104_6 (x1 : Int64) (x3 : Int32) (g : G) (hI : Inv g) : ∀ (f : Nat) (x4 : Int64) (x6 : Int32), 0 ≤ x6.toInt ∧ x6.toInt ≤ 8 ∧ 8 - x6.toInt < (f : Int) → S1 (d_104_6 x1 x3 g f x4 x6) (fun q : Int64 => True ∧ True) := by
  intro f
  induction f with
  | zero =>
    intro x4 x6 hp
    exfalso
    omega
  | succ f ih =>
    intro x4 x6 hp
    rw [d_104_6.eq_2]
    have L0 := zl_0
    have L1 := zl_1
    have L10 := zl_10
    have yp7 : 0 ≤ (g 1 2).toInt ∧ (g 1 2).toInt ≤ 8 := Inv.rd (r := 1) (c := 2) hI 2 rfl
    have y1 : 0 ≤ (g 1 2).toInt ∧ (g 1 2).toInt ≤ 8 := Inv.rd (r := 1) (c := 2) hI 2 rfl
    refine S1.ite (fun hc1 => ?_) (fun hc1 => ?_)
    · skip
      have chc1 := zc_geT hc1
      refine S1.bd (s_105 x4 x1 g hI trivial) ?_
      intro v2 hvv2 hRv2
      have hRv2 : True ∧ True := hRv2
      refine S1.ite (fun hc3 => ?_) (fun hc3 => ?_)
      · skip
        have chc3 := zc_neT hc3
        have y2 : (0 : Int64).toInt = 0 := by decide
        have y3 := zl_cf (x := v2) (y := (0 : Int64))
        refine S1.ite (fun hc4 => ?_) (fun hc4 => ?_)
        · skip
          have chc4 := zc_leT hc4
          exact S1.ret (show True ∧ True from ⟨trivial, trivial⟩)
        · skip
          have chc4 := zc_leF hc4
          refine S1.gl (by omega) ?_
          exact S1.ret (show True ∧ True from ⟨trivial, trivial⟩)
      · skip
        have chc3 := zc_neF hc3
        have y4 : (0 : Int64).toInt = 0 := by decide
        have y5 := zl_cf (x := v2) (y := (0 : Int64))
        refine S1.ite (fun hc6 => ?_) (fun hc6 => ?_)
        · skip
          have chc6 := zc_leT hc6
          exact S1.ret (show True ∧ True from ⟨trivial, trivial⟩)
        · skip
          have chc6 := zc_leF hc6
          refine S1.gl (by omega) ?_
          exact S1.ret (show True ∧ True from ⟨trivial, trivial⟩)
    · skip
      have chc1 := zc_geF hc1
      try have y6 := zi_add (x := x6) (y := (1 : Int32)) (by omega) (by omega)
      exact (ih (x4 * 10) (x6 + 1) (by omega))
/-- EveningFirst.halfOf -/
theorem s_104 (x1 : Int64) (x3 : Int32) (g : G) (hI : Inv g) (hp : True) : S1 (d_104 x1 x3 g) (fun q : Int64 => True ∧ True) := by
  unfold d_104
  have L0 := zl_0
  have L1 := zl_1
  exact (s_104_6 x1 x3 g hI 300 (1 : Int64) (0 : Int32) (by omega))
/-- EveningFirst.odds -/
theorem s_77 (x1 : Int32) (g : G) (hI : Inv g) (hp : True) : S1 (d_77 x1 g) (fun q : Int64 × G => Inv q.2 ∧ True) := by
  unfold d_77
  have Lm1 := zl_m1
  have L0 := zl_0
  refine S1.lt ?_
  intro v1 hvv1
  refine S1.ite (fun hc2 => ?_) (fun hc2 => ?_)
  · skip
    exact S1.ret (show Inv g ∧ True from ⟨hI, trivial⟩)
  · skip
    refine S1.bp (s_102 (-1 : Int32) (0 : Int32) (0 : Int32) g hI trivial) ?_
    intro v3 g4 hvv3 hRv3
    have hRv3 : Inv g4 ∧ True := hRv3
    refine S1.bd (s_104 v3 x1 g4 hRv3.1 trivial) ?_
    intro v5 hvv5 hRv5
    have hRv5 : True ∧ True := hRv5
    exact S1.ret (show Inv g4 ∧ True from ⟨hRv3.1, trivial⟩)
