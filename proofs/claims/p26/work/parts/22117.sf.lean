/-! printed by wip/tools/safe.py -/
theorem s_76_69 (x1 : Int32) (x2 : Int32) (x3 : Int32) (x4 : Int32) (g : G) (hI : Inv g) : ∀ (f : Nat) (x5 : Int32) (x6 : Int32), 0 ≤ x6.toInt ∧ x6.toInt ≤ 8 ∧ 8 - x6.toInt < (f : Int) ∧ 0 ≤ x1.toInt ∧ x1.toInt ≤ 3 ∧ 0 ≤ x2.toInt ∧ x2.toInt ≤ 3 → S1 (d_76_69 x1 x2 x3 x4 g f x5 x6) (fun q : Int32 × G => Inv q.2 ∧ True) := by
  intro f
  induction f with
  | zero =>
    intro x5 x6 hp
    exfalso
    omega
  | succ f ih =>
    intro x5 x6 hp
    rw [d_76_69.eq_2]
    have L1 := zl_1
    have L31 := zl_31
    have yp6 : 0 ≤ (g 1 0).toInt ∧ (g 1 0).toInt ≤ 8 := Inv.rd (r := 1) (c := 2) hI 0 rfl
    have y1 : 0 ≤ (g 1 0).toInt ∧ (g 1 0).toInt ≤ 8 := Inv.rd (r := 1) (c := 2) hI 0 rfl
    refine S1.ite (fun hc10 => ?_) (fun hc10 => ?_)
    · skip
      have chc10 := zc_geT hc10
      exact S1.ret (show Inv g ∧ True from ⟨hI, trivial⟩)
    · skip
      have chc10 := zc_geF hc10
      refine S1.bd (s_24 1 x1 x6 x4 rfl g hI (by omega)) ?_
      intro v11 hvv11 hRv11
      have hRv11 : True ∧ True := hRv11
      refine S1.bd (s_24 1 x2 x6 x4 rfl g hI (by omega)) ?_
      intro v12 hvv12 hRv12
      have hRv12 : True ∧ True := hRv12
      refine S1.lt ?_
      intro v13 hvv13
      refine S1.ite (fun hc14 => ?_) (fun hc14 => ?_)
      · skip
        try have y2 := zi_and (x := x6) (y := (31 : Int32)) (by omega)
        try have y3 := zi_shl1 (x := x6) (by omega)
        try have y4 := zi_add (x := x6) (y := (1 : Int32)) (by omega) (by omega)
        exact (ih (x5 ||| ((1 : Int32) <<< (x6 &&& 31))) (x6 + 1) (by omega))
      · skip
        try have y5 := zi_add (x := x6) (y := (1 : Int32)) (by omega) (by omega)
        exact (ih x5 (x6 + 1) (by omega))
/-- EveningFirst.common -/
theorem s_76 (x1 : Int32) (x2 : Int32) (x3 : Int32) (g : G) (hI : Inv g) (hp : True) : S1 (d_76 x1 x2 x3 g) (fun q : Int32 × G => Inv q.2 ∧ True) := by
  unfold d_76
  have Lm1 := zl_m1
  have L0 := zl_0
  refine S1.lc (s_18 1 x1 rfl g hI trivial) ?_
  intro v1 hvv1 hRv1
  have hRv1 : True ∧ True ∧ (v1 = true → 0 ≤ x1.toInt ∧ x1.toInt < (g 1 1).toInt) ∧ (v1 = false → True) := hRv1
  have y7 : 0 ≤ (g 1 1).toInt ∧ (g 1 1).toInt ≤ 4 := Inv.rd (r := 1) (c := 2) hI 1 rfl
  refine S1.ite (fun hc2 => ?_) (fun hc2 => ?_)
  · skip
    have chc2 := hRv1.2.2.1 hc2
    refine S1.lc (s_18 1 x2 rfl g hI trivial) ?_
    intro v3 hvv3 hRv3
    have hRv3 : True ∧ True ∧ (v3 = true → 0 ≤ x2.toInt ∧ x2.toInt < (g 1 1).toInt) ∧ (v3 = false → True) := hRv3
    refine S1.ite (fun hc4 => ?_) (fun hc4 => ?_)
    · skip
      have chc4 := hRv3.2.2.1 hc4
      refine S1.ite (fun hc5 => ?_) (fun hc5 => ?_)
      · skip
        have chc5 := zc_eqT hc5
        exact S1.ret (show Inv g ∧ True from ⟨hI, trivial⟩)
      · skip
        have chc5 := zc_eqF hc5
        refine S1.lc (s_91 x3 g hI trivial) ?_
        intro v6 hvv6 hRv6
        have hRv6 : True ∧ True ∧ (v6 = true → 0 ≤ x3.toInt ∧ x3.toInt ≤ 5) ∧ (v6 = false → True) := hRv6
        refine S1.ite (fun hc7 => ?_) (fun hc7 => ?_)
        · skip
          have chc7 := hRv6.2.2.1 hc7
          refine S1.bd (s_2 1 rfl g hI trivial) ?_
          intro g8 hvg8 hRg8
          have hRg8 : Inv g8 ∧ True := hRg8
          refine S1.bd (s_8 (g8 25 2) g8 hRg8.1 trivial) ?_
          intro v9 hvv9 hRv9
          have hRv9 : True ∧ True := hRv9
          exact (s_76_69 x1 x2 x3 v9 g8 hRg8.1 300 (0 : Int32) (0 : Int32) (by omega))
        · skip
          have chc7 := hRv6.2.2.2 hc7
          exact S1.ret (show Inv g ∧ True from ⟨hI, trivial⟩)
    · skip
      have chc4 := hRv3.2.2.2 hc4
      exact S1.ret (show Inv g ∧ True from ⟨hI, trivial⟩)
  · skip
    have chc2 := hRv1.2.2.2 hc2
    exact S1.ret (show Inv g ∧ True from ⟨hI, trivial⟩)
theorem s_170_42 (x1 : Int32) (x2 : Int32) (x3 : Int32) (x4 : Int32) (g : G) (hI : Inv g) : ∀ (f : Nat) (x5 : Int32) (x6 : Int32), 0 ≤ x6.toInt ∧ x6.toInt ≤ 8 ∧ 8 - x6.toInt < (f : Int) ∧ 0 ≤ x1.toInt ∧ x1.toInt ≤ 3 ∧ 0 ≤ x2.toInt ∧ x2.toInt ≤ 3 → S1 (d_170_42 x1 x2 x3 x4 g f x5 x6) (fun q : Int32 => True ∧ True) := by
  intro f
  induction f with
  | zero =>
    intro x5 x6 hp
    exfalso
    omega
  | succ f ih =>
    intro x5 x6 hp
    rw [d_170_42.eq_2]
    have L1 := zl_1
    have L31 := zl_31
    have yp8 : 0 ≤ (g 113 2).toInt ∧ (g 113 2).toInt ≤ 8 := Inv.rd (r := 113) (c := 8) hI 2 rfl
    have y1 : 0 ≤ (g 113 2).toInt ∧ (g 113 2).toInt ≤ 8 := Inv.rd (r := 113) (c := 8) hI 2 rfl
    refine S1.ite (fun hc9 => ?_) (fun hc9 => ?_)
    · skip
      have chc9 := zc_geT hc9
      exact S1.ret (show True ∧ True from ⟨trivial, trivial⟩)
    · skip
      have chc9 := zc_geF hc9
      refine S1.bd (s_150 x1 x6 x4 g hI (by omega)) ?_
      intro v10 hvv10 hRv10
      have hRv10 : True ∧ True := hRv10
      refine S1.bd (s_150 x2 x6 x4 g hI (by omega)) ?_
      intro v11 hvv11 hRv11
      have hRv11 : True ∧ True := hRv11
      try have y2 := zi_and (x := v10) (y := v11) (by omega)
      try have y3 := zi_and (x := x3) (y := (31 : Int32)) (by omega)
      try have y4 := zi_and (x := x6) (y := (31 : Int32)) (by omega)
      try have y5 := zi_shl1 (x := x6) (by omega)
      try have y6 := zi_and (x := (((v10 &&& v11) >>> (x3 &&& 31)) <<< (x6 &&& 31))) (y := ((1 : Int32) <<< (x6 &&& 31))) (by omega)
      try have y7 := zi_add (x := x6) (y := (1 : Int32)) (by omega) (by omega)
      exact (ih (x5 ||| ((((v10 &&& v11) >>> (x3 &&& 31)) <<< (x6 &&& 31)) &&& ((1 : Int32) <<< (x6 &&& 31)))) (x6 + 1) (by omega))
/-- EveningFirstModel.common -/
theorem s_170 (x1 : Int32) (x2 : Int32) (x3 : Int32) (g : G) (hI : Inv g) (hp : True) : S1 (d_170 x1 x2 x3 g) (fun q : Int32 => True ∧ True) := by
  unfold d_170
  have Lm1 := zl_m1
  have L0 := zl_0
  have yp10 : 0 ≤ (g 113 3).toInt ∧ (g 113 3).toInt ≤ 4 := Inv.rd (r := 113) (c := 8) hI 3 rfl
  refine S1.lc (s_131 x1 g hI trivial) ?_
  intro v1 hvv1 hRv1
  have hRv1 : True ∧ True ∧ (v1 = true → 0 ≤ x1.toInt ∧ x1.toInt < (g 113 3).toInt) ∧ (v1 = false → True) := hRv1
  have y9 : 0 ≤ (g 113 3).toInt ∧ (g 113 3).toInt ≤ 4 := Inv.rd (r := 113) (c := 8) hI 3 rfl
  refine S1.ite (fun hc2 => ?_) (fun hc2 => ?_)
  · skip
    have chc2 := hRv1.2.2.1 hc2
    refine S1.lc (s_131 x2 g hI trivial) ?_
    intro v3 hvv3 hRv3
    have hRv3 : True ∧ True ∧ (v3 = true → 0 ≤ x2.toInt ∧ x2.toInt < (g 113 3).toInt) ∧ (v3 = false → True) := hRv3
    refine S1.ite (fun hc4 => ?_) (fun hc4 => ?_)
    · skip
      have chc4 := hRv3.2.2.1 hc4
      refine S1.ite (fun hc5 => ?_) (fun hc5 => ?_)
      · skip
        have chc5 := zc_eqT hc5
        exact S1.ret (show True ∧ True from ⟨trivial, trivial⟩)
      · skip
        have chc5 := zc_eqF hc5
        refine S1.lt ?_
        intro v6 hvv6
        refine S1.ite (fun hc7 => ?_) (fun hc7 => ?_)
        · skip
          refine S1.bd (s_161 g hI trivial) ?_
          intro v8 hvv8 hRv8
          have hRv8 : True ∧ True := hRv8
          exact (s_170_42 x1 x2 x3 v8 g hI 300 (0 : Int32) (0 : Int32) (by omega))
        · skip
          exact S1.ret (show True ∧ True from ⟨trivial, trivial⟩)
    · skip
      have chc4 := hRv3.2.2.2 hc4
      exact S1.ret (show True ∧ True from ⟨trivial, trivial⟩)
  · skip
    have chc2 := hRv1.2.2.2 hc2
    exact S1.ret (show True ∧ True from ⟨trivial, trivial⟩)
theorem s_103_5 (x1 : Int32) (g : G) (hI : Inv g) : ∀ (f : Nat) (x2 : Int64) (x4 : Int32), 0 ≤ x4.toInt ∧ x4.toInt ≤ 8 ∧ 8 - x4.toInt < (f : Int) → S1 (d_103_5 x1 g f x2 x4) (fun q : Int64 => True ∧ True) := by
  intro f
  induction f with
  | zero =>
    intro x2 x4 hp
    exfalso
    omega
  | succ f ih =>
    intro x2 x4 hp
    rw [d_103_5.eq_2]
    have L1 := zl_1
    have L10 := zl_10
    have yp7 : 0 ≤ (g 1 2).toInt ∧ (g 1 2).toInt ≤ 8 := Inv.rd (r := 1) (c := 2) hI 2 rfl
    have y1 : 0 ≤ (g 1 2).toInt ∧ (g 1 2).toInt ≤ 8 := Inv.rd (r := 1) (c := 2) hI 2 rfl
    refine S1.ite (fun hc1 => ?_) (fun hc1 => ?_)
    · skip
      have chc1 := zc_geT hc1
      exact S1.ret (show True ∧ True from ⟨trivial, trivial⟩)
    · skip
      have chc1 := zc_geF hc1
      refine S1.ix (by omega) ?_
      intro k2 hk2 bk2
      refine S1.lt ?_
      intro v3 hvv3
      refine S1.lt ?_
      intro v4 hvv4
      refine S1.ite (fun hc5 => ?_) (fun hc5 => ?_)
      · skip
        have y2 := zi_i64 v3
        try have y3 := zi_add (x := x4) (y := (1 : Int32)) (by omega) (by omega)
        exact (ih (x2 * (Int32.toInt64 v3)) (x4 + 1) (by omega))
      · skip
        try have y4 := zi_sub (x := (10 : Int32)) (y := v3) (by omega) (by omega)
        have y5 := zi_i64 (10 - v3)
        try have y6 := zi_add (x := x4) (y := (1 : Int32)) (by omega) (by omega)
        exact (ih (x2 * (Int32.toInt64 (10 - v3))) (x4 + 1) (by omega))
/-- EveningFirst.weightOf -/
theorem s_103 (x1 : Int32) (g : G) (hI : Inv g) (hp : True) : S1 (d_103 x1 g) (fun q : Int64 => True ∧ True) := by
  unfold d_103
  have L0 := zl_0
  have L1 := zl_1
  exact (s_103_5 x1 g hI 300 (1 : Int64) (0 : Int32) (by omega))
theorem s_102_17 (x1 : Int32) (x2 : Int32) (x3 : Int32) (g : G) (hI : Inv g) : ∀ (f : Nat) (x4 : Int64) (x6 : Int32), 0 ≤ x6.toInt ∧ x6.toInt ≤ 256 ∧ 256 - x6.toInt < (f : Int) ∧ (x1.toInt = -1 ∨ 0 ≤ x1.toInt ∧ x1.toInt ≤ 3) → S1 (d_102_17 x1 x2 x3 g f x4 x6) (fun q : Int64 × G => Inv q.2 ∧ True) := by
  intro f
  induction f with
  | zero =>
    intro x4 x6 hp
    exfalso
    omega
  | succ f ih =>
    intro x4 x6 hp
    rw [d_102_17.eq_2]
    have Lm1 := zl_m1
    have L1 := zl_1
    have yp8 : 0 ≤ (g 25 0).toInt ∧ (g 25 0).toInt ≤ 255 := Inv.rd (r := 25) (c := 0) hI 0 rfl
    have y1 : 0 ≤ (g 25 0).toInt ∧ (g 25 0).toInt ≤ 255 := Inv.rd (r := 25) (c := 0) hI 0 rfl
    refine S1.ite (fun hc2 => ?_) (fun hc2 => ?_)
    · skip
      have chc2 := zc_gtT hc2
      exact S1.ret (show Inv g ∧ True from ⟨hI, trivial⟩)
    · skip
      have chc2 := zc_gtF hc2
      refine S1.bd (s_6 x6 g hI trivial) ?_
      intro v3 hvv3 hRv3
      have hRv3 : True ∧ True ∧ (v3 = true → True) ∧ (v3 = false → True) := hRv3
      refine S1.ite (fun hc4 => ?_) (fun hc4 => ?_)
      · skip
        have chc4 := hRv3.2.2.1 hc4
        refine S1.ite (fun hc5 => ?_) (fun hc5 => ?_)
        · skip
          have chc5 := zc_eqT hc5
          refine S1.bd (s_103 x6 g hI trivial) ?_
          intro v6 hvv6 hRv6
          have hRv6 : True ∧ True := hRv6
          try have y2 := zj_add (x := x4) (y := v6) (by omega) (by omega)
          try have y3 := zi_add (x := x6) (y := (1 : Int32)) (by omega) (by omega)
          exact (ih (x4 + v6) (x6 + 1) (by omega))
        · skip
          have chc5 := zc_eqF hc5
          refine S1.bd (s_24 1 x1 x3 x6 rfl g hI (by omega)) ?_
          intro v7 hvv7 hRv7
          have hRv7 : True ∧ True := hRv7
          refine S1.lt ?_
          intro v8 hvv8
          refine S1.ite (fun hc9 => ?_) (fun hc9 => ?_)
          · skip
            refine S1.bd (s_103 x6 g hI trivial) ?_
            intro v10 hvv10 hRv10
            have hRv10 : True ∧ True := hRv10
            try have y4 := zj_add (x := x4) (y := v10) (by omega) (by omega)
            try have y5 := zi_add (x := x6) (y := (1 : Int32)) (by omega) (by omega)
            exact (ih (x4 + v10) (x6 + 1) (by omega))
          · skip
            try have y6 := zi_add (x := x6) (y := (1 : Int32)) (by omega) (by omega)
            exact (ih x4 (x6 + 1) (by omega))
      · skip
        have chc4 := hRv3.2.2.2 hc4
        try have y7 := zi_add (x := x6) (y := (1 : Int32)) (by omega) (by omega)
        exact (ih x4 (x6 + 1) (by omega))
/-- EveningFirst.weightOfDays -/
theorem s_102 (x1 : Int32) (x2 : Int32) (x3 : Int32) (g : G) (hI : Inv g) (hp : (x1.toInt = -1 ∨ 0 ≤ x1.toInt ∧ x1.toInt ≤ 3)) : S1 (d_102 x1 x2 x3 g) (fun q : Int64 × G => Inv q.2 ∧ True) := by
  unfold d_102
  have L0 := zl_0
  refine S1.bd (s_2 1 rfl g hI trivial) ?_
  intro g1 hvg1 hRg1
  have hRg1 : Inv g1 ∧ True := hRg1
  exact (s_102_17 x1 x2 x3 g1 hRg1.1 300 (0 : Int64) (0 : Int32) (by omega))
theorem s_105_9 (g : G) (hI : Inv g) : ∀ (f : Nat) (x4 : Int64) (x6 : Int64) (x8 : Int32), 0 ≤ x8.toInt ∧ x8.toInt ≤ 100 ∧ 100 - x8.toInt < (f : Int) → S1 (d_105_9 g f x4 x6 x8) (fun q : Int64 => True ∧ True) := by
  intro f
  induction f with
  | zero =>
    intro x4 x6 x8 hp
    exfalso
    omega
  | succ f ih =>
    intro x4 x6 x8 hp
    rw [d_105_9.eq_2]
    have L0 := zl_0
    have L1 := zl_1
    have L100 := zl_100
    refine S1.ite (fun hc1 => ?_) (fun hc1 => ?_)
    · skip
      have chc1 := zc_geT hc1
      exact S1.ret (show True ∧ True from ⟨trivial, trivial⟩)
    · skip
      have chc1 := zc_geF hc1
      have y1 : (0 : Int64).toInt = 0 := by decide
      have y2 := zl_cf (x := x6) (y := (0 : Int64))
      refine S1.ite (fun hc2 => ?_) (fun hc2 => ?_)
      · skip
        have chc2 := zc_eqT hc2
        exact S1.ret (show True ∧ True from ⟨trivial, trivial⟩)
      · skip
        have chc2 := zc_eqF hc2
        refine S1.gl (by omega) ?_
        try have y3 := zi_rem (x := x4) (y := x6) (by omega) (by omega)
        try have y4 := zi_add (x := x8) (y := (1 : Int32)) (by omega) (by omega)
        exact (ih x6 (x4 - x4 / x6 * x6) (x8 + 1) (by omega))
/-- EveningFirst.greatestDivisor -/
theorem s_105 (x0 : Int64) (x2 : Int64) (g : G) (hI : Inv g) (hp : True) : S1 (d_105 x0 x2 g) (fun q : Int64 => True ∧ True) := by
  unfold d_105
  have L0 := zl_0
  exact (s_105_9 g hI 300 x0 x2 (0 : Int32) (by omega))
theorem s_104_6 (x1 : Int64) (x3 : Int32) (g : G) (hI : Inv g) : ∀ (f : Nat) (x4 : Int64) (x6 : Int32), 0 ≤ x6.toInt ∧ x6.toInt ≤ 8 ∧ 8 - x6.toInt < (f : Int) → S1 (d_104_6 x1 x3 g f x4 x6) (fun q : Int64 => True ∧ True) := by
  intro f
  induction f with
  | zero =>
    intro x4 x6 hp
    exfalso
    omega
  | succ f ih =>
    intro x4 x6 hp
    rw [d_104_6.eq_2]
    have L0 := zl_0
    have L1 := zl_1
    have L10 := zl_10
    have yp7 : 0 ≤ (g 1 2).toInt ∧ (g 1 2).toInt ≤ 8 := Inv.rd (r := 1) (c := 2) hI 2 rfl
    have y1 : 0 ≤ (g 1 2).toInt ∧ (g 1 2).toInt ≤ 8 := Inv.rd (r := 1) (c := 2) hI 2 rfl
    refine S1.ite (fun hc1 => ?_) (fun hc1 => ?_)
    · skip
      have chc1 := zc_geT hc1
      refine S1.bd (s_105 x4 x1 g hI trivial) ?_
      intro v2 hvv2 hRv2
      have hRv2 : True ∧ True := hRv2
      refine S1.ite (fun hc3 => ?_) (fun hc3 => ?_)
      · skip
        have chc3 := zc_neT hc3
        have y2 : (0 : Int64).toInt = 0 := by decide
        have y3 := zl_cf (x := v2) (y := (0 : Int64))
        refine S1.ite (fun hc4 => ?_) (fun hc4 => ?_)
        · skip
          have chc4 := zc_leT hc4
          exact S1.ret (show True ∧ True from ⟨trivial, trivial⟩)
        · skip
          have chc4 := zc_leF hc4
          refine S1.gl (by omega) ?_
          exact S1.ret (show True ∧ True from ⟨trivial, trivial⟩)
      · skip
        have chc3 := zc_neF hc3
        have y4 : (0 : Int64).toInt = 0 := by decide
        have y5 := zl_cf (x := v2) (y := (0 : Int64))
        refine S1.ite (fun hc6 => ?_) (fun hc6 => ?_)
        · skip
          have chc6 := zc_leT hc6
          exact S1.ret (show True ∧ True from ⟨trivial, trivial⟩)
        · skip
          have chc6 := zc_leF hc6
          refine S1.gl (by omega) ?_
          exact S1.ret (show True ∧ True from ⟨trivial, trivial⟩)
    · skip
      have chc1 := zc_geF hc1
      try have y6 := zi_add (x := x6) (y := (1 : Int32)) (by omega) (by omega)
      exact (ih (x4 * 10) (x6 + 1) (by omega))
/-- EveningFirst.halfOf -/
theorem s_104 (x1 : Int64) (x3 : Int32) (g : G) (hI : Inv g) (hp : True) : S1 (d_104 x1 x3 g) (fun q : Int64 => True ∧ True) := by
  unfold d_104
  have L0 := zl_0
  have L1 := zl_1
  exact (s_104_6 x1 x3 g hI 300 (1 : Int64) (0 : Int32) (by omega))
/-- EveningFirst.odds -/
theorem s_77 (x1 : Int32) (g : G) (hI : Inv g) (hp : True) : S1 (d_77 x1 g) (fun q : Int64 × G => Inv q.2 ∧ True) := by
  unfold d_77
  have Lm1 := zl_m1
  have L0 := zl_0
  refine S1.lt ?_
  intro v1 hvv1
  refine S1.ite (fun hc2 => ?_) (fun hc2 => ?_)
  · skip
    exact S1.ret (show Inv g ∧ True from ⟨hI, trivial⟩)
  · skip
    refine S1.bp (s_102 (-1 : Int32) (0 : Int32) (0 : Int32) g hI (by omega)) ?_
    intro v3 g4 hvv3 hRv3
    have hRv3 : Inv g4 ∧ True := hRv3
    refine S1.bd (s_104 v3 x1 g4 hRv3.1 trivial) ?_
    intro v5 hvv5 hRv5
    have hRv5 : True ∧ True := hRv5
    exact S1.ret (show Inv g4 ∧ True from ⟨hRv3.1, trivial⟩)
theorem s_171_58 (x1 : Int32) (x2 : Int64) (x4 : Int32) (s0 : Int64) (g : G) (hI : Inv g) (k5 : Int64 → Int32 → Option Int64) (m5 : Int) (hk5 : ∀ (x2 : Int64) (x4 : Int32), 0 ≤ x4.toInt ∧ x4.toInt ≤ 8 ∧ 8 - x4.toInt < m5 → S1 (k5 x2 x4) (fun q : Int64 => True ∧ True)) (hp : x4.toInt ≤ 7 ∧ 0 ≤ x4.toInt ∧ x4.toInt ≤ 8 ∧ 8 - x4.toInt < (m5 + 1)) : S1 (d_171_58 x1 x2 x4 s0 g k5) (fun q : Int64 => True ∧ True) := by
  unfold d_171_58
  have L1 := zl_1
  have L10 := zl_10
  have L31 := zl_31
  try have y1 := zi_and (x := x4) (y := (31 : Int32)) (by omega)
  try have y2 := zi_and (x := (x1 >>> (x4 &&& 31))) (y := (1 : Int32)) (by omega)
  refine S1.ite (fun hc7 => ?_) (fun hc7 => ?_)
  · skip
    have chc7 := zc_neT hc7
    try have y3 := zi_add (x := x4) (y := (1 : Int32)) (by omega) (by omega)
    exact hk5 (x2 * (10 - s0)) (x4 + 1) (by omega)
  · skip
    have chc7 := zc_neF hc7
    try have y4 := zi_add (x := x4) (y := (1 : Int32)) (by omega) (by omega)
    exact hk5 (x2 * s0) (x4 + 1) (by omega)
theorem s_171_5 (x1 : Int32) (g : G) (hI : Inv g) : ∀ (f : Nat) (x2 : Int64) (x4 : Int32), 0 ≤ x4.toInt ∧ x4.toInt ≤ 8 ∧ 8 - x4.toInt < (f : Int) → S1 (d_171_5 x1 g f x2 x4) (fun q : Int64 => True ∧ True) := by
  intro f
  induction f with
  | zero =>
    intro x2 x4 hp
    exfalso
    omega
  | succ f ih =>
    intro x2 x4 hp
    rw [d_171_5.eq_2]
    have L0 := zl_0
    have L1 := zl_1
    have L2 := zl_2
    have L5 := zl_5
    have L6 := zl_6
    have L10 := zl_10
    have yp7 := hI.m8
    have y5 := hI.m8
    refine S1.ite (fun hc1 => ?_) (fun hc1 => ?_)
    · skip
      have chc1 := zc_geT hc1
      exact S1.ret (show True ∧ True from ⟨trivial, trivial⟩)
    · skip
      have chc1 := zc_geF hc1
      refine S1.bd (s_136 x4 (5 : Int32) g hI (by omega)) ?_
      intro v2 hvv2 hRv2
      have hRv2 : True ∧ (((5 : Int32).toInt = 0 → 0 ≤ v2.toInt ∧ v2.toInt ≤ 7) ∧ ((5 : Int32).toInt = 1 → 0 ≤ v2.toInt ∧ v2.toInt ≤ 3)) := hRv2
      refine S1.ite (fun hc3 => ?_) (fun hc3 => ?_)
      · skip
        have chc3 := zc_neT hc3
        refine S1.bd (s_136 x4 (5 : Int32) g hI (by omega)) ?_
        intro v4 hvv4 hRv4
        have hRv4 : True ∧ (((5 : Int32).toInt = 0 → 0 ≤ v4.toInt ∧ v4.toInt ≤ 7) ∧ ((5 : Int32).toInt = 1 → 0 ≤ v4.toInt ∧ v4.toInt ≤ 3)) := hRv4
        refine S1.ite (fun hc5 => ?_) (fun hc5 => ?_)
        · skip
          have chc5 := zc_neT hc5
          refine S1.bd (s_136 x4 (6 : Int32) g hI (by omega)) ?_
          intro v6 hvv6 hRv6
          have hRv6 : True ∧ (((6 : Int32).toInt = 0 → 0 ≤ v6.toInt ∧ v6.toInt ≤ 7) ∧ ((6 : Int32).toInt = 1 → 0 ≤ v6.toInt ∧ v6.toInt ≤ 3)) := hRv6
          have y6 := zi_i64 v6
          exact (s_171_58 x1 x2 x4 (Int32.toInt64 v6) g hI (d_171_5 x1 g f) (f : Int) ih (by omega))
        · skip
          have chc5 := zc_neF hc5
          exact (s_171_58 x1 x2 x4 (0 : Int64) g hI (d_171_5 x1 g f) (f : Int) ih (by omega))
      · skip
        have chc3 := zc_neF hc3
        exact (s_171_58 x1 x2 x4 (10 : Int64) g hI (d_171_5 x1 g f) (f : Int) ih (by omega))
/-- EveningFirstModel.waysOf -/
theorem s_171 (x1 : Int32) (g : G) (hI : Inv g) (hp : True) : S1 (d_171 x1 g) (fun q : Int64 => True ∧ True) := by
  unfold d_171
  have L0 := zl_0
  have L1 := zl_1
  exact (s_171_5 x1 g hI 300 (1 : Int64) (0 : Int32) (by omega))
theorem zj_tmod {x y : Int64} : (x - x / y * y).toInt = x.toInt.tmod y.toInt := by
  have h1 := Int64.toInt_lt x
  have h2 := Int64.le_toInt x
  have h3 := Int64.toInt_lt y
  have h4 := Int64.le_toInt y
  rw [Int64.toInt_sub, Int64.toInt_mul, Int64.toInt_div]
  have e : (x.toInt - ((x.toInt.tdiv y.toInt).bmod (2 ^ 64) * y.toInt).bmod (2 ^ 64)).bmod (2 ^ 64) = (x.toInt - x.toInt.tdiv y.toInt * y.toInt).bmod (2 ^ 64) := by
    rw [Int.sub_bmod_bmod, Int.sub_bmod, Int.bmod_mul_bmod, ← Int.sub_bmod]
  rw [e]
  have e2 : x.toInt - x.toInt.tdiv y.toInt * y.toInt = x.toInt.tmod y.toInt := by
    rw [Int.tmod_def, Int.mul_comm]
  rw [e2]
  have hle : (x.toInt.tmod y.toInt).natAbs ≤ x.toInt.natAbs := by
    rw [Int.natAbs_tmod]
    exact Nat.mod_le _ _
  by_cases q : 0 ≤ x.toInt
  · have hs := Int.tmod_nonneg y.toInt q
    exact zj_bm (by omega) (by omega)
  · have hs := Int.tmod_nonneg (a := -x.toInt) y.toInt (by omega)
    rw [Int.neg_tmod] at hs
    exact zj_bm (by omega) (by omega)
theorem s_172_39 (x1 : Int64) (x3 : Int32) (x4 : Int64) (g : G) : ∀ (n f : Nat) (x6 : Int64) (x8 : Int64), x6.toInt ≠ 0 → x8.toInt.natAbs < 2 ^ n → 2 * n + 1 ≤ f → S1 (d_172_39 x1 x3 x4 g f x6 x8) (fun q : Int64 => True ∧ True) := by
  have hend : ∀ (f : Nat) (x6 x8 : Int64), x6.toInt ≠ 0 → x8.toInt = 0 → 1 ≤ f → S1 (d_172_39 x1 x3 x4 g f x6 x8) (fun q : Int64 => True ∧ True) := by
    intro f x6 x8 h6 h8 hf
    obtain ⟨f, rfl⟩ : ∃ k, f = k + 1 := ⟨f - 1, by omega⟩
    rw [d_172_39.eq_2]
    have y1 := zl_cf (x := x8) (y := (0 : Int64))
    have y2 : (0 : Int64).toInt = 0 := by decide
    have L0 := zl_0
    refine S1.ite (fun hc => ?_) (fun hc => ?_)
    · refine S1.ite (fun hc2 => ?_) (fun hc2 => ?_)
      · exact S1.gl h6 (S1.ret ⟨trivial, trivial⟩)
      · exact S1.gl h6 (S1.ret ⟨trivial, trivial⟩)
    · have c1 := zc_eqF hc
      exfalso
      omega
  have hstep : ∀ (f : Nat) (x6 x8 : Int64), x8.toInt ≠ 0 → S1 (d_172_39 x1 x3 x4 g f x8 (x6 - x6 / x8 * x8)) (fun q : Int64 => True ∧ True) → S1 (d_172_39 x1 x3 x4 g (f + 1) x6 x8) (fun q : Int64 => True ∧ True) := by
    intro f x6 x8 h8 K
    rw [d_172_39.eq_2]
    have y1 := zl_cf (x := x8) (y := (0 : Int64))
    have y2 : (0 : Int64).toInt = 0 := by decide
    have L0 := zl_0
    refine S1.ite (fun hc => ?_) (fun hc => ?_)
    · have c1 := zc_eqT hc
      exfalso
      omega
    · exact S1.gl h8 K
  intro n
  induction n with
  | zero =>
    intro f x6 x8 h6 h8 hf
    exact hend f x6 x8 h6 (by omega) (by omega)
  | succ n ih =>
    intro f x6 x8 h6 h8 hf
    by_cases q8 : x8.toInt = 0
    · exact hend f x6 x8 h6 q8 (by omega)
    · obtain ⟨f, rfl⟩ : ∃ k, f = k + 2 := ⟨f - 2, by omega⟩
      refine hstep (f + 1) x6 x8 q8 ?_
      have e1 : (x6 - x6 / x8 * x8).toInt.natAbs = x6.toInt.natAbs % x8.toInt.natAbs := by rw [zj_tmod, Int.natAbs_tmod]
      by_cases q9 : (x6 - x6 / x8 * x8).toInt = 0
      · exact hend (f + 1) x8 _ q8 q9 (by omega)
      · refine hstep f x8 _ q9 ?_
        have e2 : (x8 - x8 / (x6 - x6 / x8 * x8) * (x6 - x6 / x8 * x8)).toInt.natAbs = x8.toInt.natAbs % (x6 - x6 / x8 * x8).toInt.natAbs := by rw [zj_tmod, Int.natAbs_tmod]
        refine ih f _ _ q9 ?_ (by omega)
        rw [e2]
        generalize (x6 - x6 / x8 * x8).toInt = r at *
        generalize x8.toInt = y at *
        have l1 : r.natAbs < y.natAbs := by rw [e1]; exact Nat.mod_lt _ (by omega)
        have l2 : y.natAbs % r.natAbs < r.natAbs := Nat.mod_lt _ (by omega)
        have l3 := Nat.div_add_mod y.natAbs r.natAbs
        have l4 : 1 ≤ y.natAbs / r.natAbs := Nat.div_pos (by omega) (by omega)
        have l5 : r.natAbs * 1 ≤ r.natAbs * (y.natAbs / r.natAbs) := Nat.mul_le_mul_left _ l4
        have l6 : 2 ^ (n + 1) = 2 * 2 ^ n := by rw [Nat.pow_succ, Nat.mul_comm]
        omega
theorem s_172_6 (x1 : Int64) (x3 : Int32) (g : G) (hI : Inv g) : ∀ (f n : Nat), n ≤ 8 → 8 < f + n → S1 (d_172_6 x1 x3 g f (Int64.ofNat (10 ^ n)) (Int32.ofNat n)) (fun q : Int64 => True ∧ True) := by
  intro f
  induction f with
  | zero => intro n h1 h2; exfalso; omega
  | succ f ih =>
    intro n h1 h2
    rw [d_172_6.eq_2]
    have m8 := hI.m8
    have hx : (Int32.ofNat n).toInt = n := Int32.toInt_ofNat_of_lt (by omega)
    refine S1.ite (fun hc => ?_) (fun hc => ?_)
    · have h9 := Int64.toInt_lt x1
      have h10 := Int64.le_toInt x1
      refine s_172_39 x1 x3 _ g 64 300 _ x1 ?_ (by omega) (by omega)
      match n, h1 with
      | 0, _ => decide
      | 1, _ => decide
      | 2, _ => decide
      | 3, _ => decide
      | 4, _ => decide
      | 5, _ => decide
      | 6, _ => decide
      | 7, _ => decide
      | 8, _ => decide
      | n + 9, h => omega
    · have c1 := zc_geF hc
      have hn : n < 8 := by omega
      have e1 : Int64.ofNat (10 ^ n) * 10 = Int64.ofNat (10 ^ (n + 1)) := by
        match n, hn with
        | 0, _ => decide
        | 1, _ => decide
        | 2, _ => decide
        | 3, _ => decide
        | 4, _ => decide
        | 5, _ => decide
        | 6, _ => decide
        | 7, _ => decide
        | n + 8, h => omega
      have e2 : Int32.ofNat n + 1 = Int32.ofNat (n + 1) := by
        match n, hn with
        | 0, _ => decide
        | 1, _ => decide
        | 2, _ => decide
        | 3, _ => decide
        | 4, _ => decide
        | 5, _ => decide
        | 6, _ => decide
        | 7, _ => decide
        | n + 8, h => omega
      rw [e1, e2]
      exact ih (n + 1) (by omega) (by omega)
/-- EveningFirstModel.told -/
theorem s_172 (x1 : Int64) (x3 : Int32) (g : G) (hI : Inv g) (hp : True) : S1 (d_172 x1 x3 g) (fun q : Int64 => True ∧ True) := by
  unfold d_172
  exact s_172_6 x1 x3 g hI 300 0 (by omega) (by omega)
