/-! printed by wip/tools/safe.py -/
/-- EveningFirst.one -/
theorem s_59 (x1 : Int32) (x2 : Int32) (g : G) (hI : Inv g) (hp : True) : S1 (d_59 x1 x2 g) (fun q : Int32 => True ∧ True) := by
  unfold d_59
  have Lm1 := zl_m1
  have L0 := zl_0
  have L1 := zl_1
  have L10 := zl_10
  have yp4 : 0 ≤ (g 1 0).toInt ∧ (g 1 0).toInt ≤ 8 := Inv.rd (r := 1) (c := 2) hI 0 rfl
  refine S1.lc (s_18 1 x1 rfl g hI trivial) ?_
  intro v1 hvv1 hRv1
  have hRv1 : True ∧ True ∧ (v1 = true → 0 ≤ x1.toInt ∧ x1.toInt < (g 1 1).toInt) ∧ (v1 = false → True) := hRv1
  have y1 : 0 ≤ (g 1 1).toInt ∧ (g 1 1).toInt ≤ 4 := Inv.rd (r := 1) (c := 2) hI 1 rfl
  refine S1.ite (fun hc2 => ?_) (fun hc2 => ?_)
  · skip
    have chc2 := hRv1.2.2.1 hc2
    refine S1.ix (by omega) ?_
    intro k3 hk3 bk3
    refine S1.ite (fun hc4 => ?_) (fun hc4 => ?_)
    · skip
      have chc4 := zc_neT hc4
      refine S1.ite (fun hc5 => ?_) (fun hc5 => ?_)
      · skip
        have chc5 := zc_neT hc5
        refine S1.ite (fun hc6 => ?_) (fun hc6 => ?_)
        · skip
          have chc6 := zc_ltT hc6
          exact S1.ret (show True ∧ True from ⟨trivial, trivial⟩)
        · skip
          have chc6 := zc_ltF hc6
          have y2 : 0 ≤ (g 1 0).toInt ∧ (g 1 0).toInt ≤ 8 := Inv.rd (r := 1) (c := 2) hI 0 rfl
          try have y3 := zi_add (x := (10 : Int32)) (y := (g 1 0)) (by omega) (by omega)
          refine S1.ite (fun hc7 => ?_) (fun hc7 => ?_)
          · skip
            have chc7 := zc_ltT hc7
            refine S1.lt ?_
            intro v8 hvv8
            exact S1.ret (show True ∧ True from ⟨trivial, trivial⟩)
          · skip
            have chc7 := zc_ltF hc7
            exact S1.ret (show True ∧ True from ⟨trivial, trivial⟩)
      · skip
        have chc5 := zc_neF hc5
        exact S1.ret (show True ∧ True from ⟨trivial, trivial⟩)
    · skip
      have chc4 := zc_neF hc4
      exact S1.ret (show True ∧ True from ⟨trivial, trivial⟩)
  · skip
    have chc2 := hRv1.2.2.2 hc2
    exact S1.ret (show True ∧ True from ⟨trivial, trivial⟩)
/-- EveningFirstModel.isOne -/
theorem s_131 (x1 : Int32) (g : G) (hI : Inv g) (hp : True) : T1 (d_131 x1 g) (fun q : Bool => True ∧ True ∧ (q = true → 0 ≤ x1.toInt ∧ x1.toInt < (g 113 3).toInt) ∧ (q = false → True)) := by
  unfold d_131
  have L0 := zl_0
  have L1 := zl_1
  have yp6 : 0 ≤ (g 113 3).toInt ∧ (g 113 3).toInt ≤ 4 := Inv.rd (r := 113) (c := 8) hI 3 rfl
  have y1 := zi_i64 x1
  have y2 : 0 ≤ (g 113 3).toInt ∧ (g 113 3).toInt ≤ 4 := Inv.rd (r := 113) (c := 8) hI 3 rfl
  try have y3 := zi_sub (x := (g 113 3)) (y := (1 : Int32)) (by omega) (by omega)
  have y4 := zi_i64 ((g 113 3) - 1)
  have y5 : (0 : Int64).toInt = 0 := by decide
  refine T1.lc (zin_c (a := (Int32.toInt64 x1)) (b := (0 : Int64)) (c := (Int32.toInt64 ((g 113 3) - 1)))) ?_
  intro v1 hvv1 hRv1
  have hRv1 : (v1 = true → (0 : Int64).toInt ≤ (Int32.toInt64 x1).toInt ∧ (Int32.toInt64 x1).toInt ≤ (Int32.toInt64 ((g 113 3) - 1)).toInt) ∧ (v1 = false → (Int32.toInt64 x1).toInt < (0 : Int64).toInt ∨ (Int32.toInt64 ((g 113 3) - 1)).toInt < (Int32.toInt64 x1).toInt) := hRv1
  exact T1.ret (show True ∧ True ∧ (v1 = true → 0 ≤ x1.toInt ∧ x1.toInt < (g 113 3).toInt) ∧ (v1 = false → True) from ⟨trivial, trivial, (fun w => by have w2 := hRv1.1 w; omega), (fun _ => trivial)⟩)
/-- EveningFirstModel.isHour -/
theorem s_133 (x1 : Int32) (g : G) (hI : Inv g) (hp : True) : T1 (d_133 x1 g) (fun q : Bool => True ∧ True ∧ (q = true → 0 ≤ x1.toInt ∧ x1.toInt < (g 113 2).toInt) ∧ (q = false → True)) := by
  unfold d_133
  have L0 := zl_0
  have L1 := zl_1
  have yp6 : 0 ≤ (g 113 2).toInt ∧ (g 113 2).toInt ≤ 8 := Inv.rd (r := 113) (c := 8) hI 2 rfl
  have y1 := zi_i64 x1
  have y2 : 0 ≤ (g 113 2).toInt ∧ (g 113 2).toInt ≤ 8 := Inv.rd (r := 113) (c := 8) hI 2 rfl
  try have y3 := zi_sub (x := (g 113 2)) (y := (1 : Int32)) (by omega) (by omega)
  have y4 := zi_i64 ((g 113 2) - 1)
  have y5 : (0 : Int64).toInt = 0 := by decide
  refine T1.lc (zin_c (a := (Int32.toInt64 x1)) (b := (0 : Int64)) (c := (Int32.toInt64 ((g 113 2) - 1)))) ?_
  intro v1 hvv1 hRv1
  have hRv1 : (v1 = true → (0 : Int64).toInt ≤ (Int32.toInt64 x1).toInt ∧ (Int32.toInt64 x1).toInt ≤ (Int32.toInt64 ((g 113 2) - 1)).toInt) ∧ (v1 = false → (Int32.toInt64 x1).toInt < (0 : Int64).toInt ∨ (Int32.toInt64 ((g 113 2) - 1)).toInt < (Int32.toInt64 x1).toInt) := hRv1
  exact T1.ret (show True ∧ True ∧ (v1 = true → 0 ≤ x1.toInt ∧ x1.toInt < (g 113 2).toInt) ∧ (v1 = false → True) from ⟨trivial, trivial, (fun w => by have w2 := hRv1.1 w; omega), (fun _ => trivial)⟩)
theorem s_137_46 (g : G) (hI : Inv g) : ∀ (f : Nat) (x3 : Int32) (x4 : Int32), 2 ≤ x4.toInt ∧ x4.toInt ≤ 9 ∧ 10 - x4.toInt < (f : Int) → S1 (d_137_46 g f x3 x4) (fun q : Int32 => True ∧ True) := by
  intro f
  induction f with
  | zero =>
    intro x3 x4 hp
    exfalso
    omega
  | succ f ih =>
    intro x3 x4 hp
    rw [d_137_46.eq_2]
    have L1 := zl_1
    have L2 := zl_2
    have yp4 : 0 ≤ (g 113 2).toInt ∧ (g 113 2).toInt ≤ 8 := Inv.rd (r := 113) (c := 8) hI 2 rfl
    have y1 : 0 ≤ (g 113 2).toInt ∧ (g 113 2).toInt ≤ 8 := Inv.rd (r := 113) (c := 8) hI 2 rfl
    refine S1.ite (fun hc3 => ?_) (fun hc3 => ?_)
    · skip
      have chc3 := zc_geT hc3
      exact S1.ret (show True ∧ True from ⟨trivial, trivial⟩)
    · skip
      have chc3 := zc_geF hc3
      try have y2 := zi_add (x := x3) (y := (1 : Int32)) (by omega) (by omega)
      try have y3 := zi_add (x := x4) (y := (2 : Int32)) (by omega) (by omega)
      exact (ih (x3 + 1) (x4 + 2) (by omega))
/-- EveningFirstModel.placeOf -/
theorem s_137 (x1 : Int32) (x2 : Int32) (g : G) (hI : Inv g) (hp : 0 ≤ x2.toInt ∧ x2.toInt ≤ 7) : S1 (d_137 x1 x2 g) (fun q : Int32 => True ∧ True) := by
  unfold d_137
  have L0 := zl_0
  have L1 := zl_1
  have L2 := zl_2
  have yp12 : 0 ≤ (g 113 2).toInt ∧ (g 113 2).toInt ≤ 8 := Inv.rd (r := 113) (c := 8) hI 2 rfl
  refine S1.ite (fun hc1 => ?_) (fun hc1 => ?_)
  · skip
    have chc1 := zc_geT hc1
    try have y5 := zi_rem (x := x2) (y := (2 : Int32)) (by omega) (by omega)
    refine S1.ite (fun hc2 => ?_) (fun hc2 => ?_)
    · skip
      have chc2 := zc_neT hc2
      have y6 : 0 ≤ (g 113 2).toInt ∧ (g 113 2).toInt ≤ 8 := Inv.rd (r := 113) (c := 8) hI 2 rfl
      try have y7 := zi_add (x := (g 113 2)) (y := (1 : Int32)) (by omega) (by omega)
      try have y8 := zi_add (x := x2) (y := (2 : Int32)) (by omega) (by omega)
      exact (s_137_46 g hI 300 (((g 113 2) + 1) / 2) (x2 + 2) (by omega))
    · skip
      have chc2 := zc_neF hc2
      exact S1.ret (show True ∧ True from ⟨trivial, trivial⟩)
  · skip
    have chc1 := zc_geF hc1
    refine S1.ite (fun hc4 => ?_) (fun hc4 => ?_)
    · skip
      have chc4 := zc_neT hc4
      have y9 : 0 ≤ (g 113 2).toInt ∧ (g 113 2).toInt ≤ 8 := Inv.rd (r := 113) (c := 8) hI 2 rfl
      try have y10 := zi_sub (x := (g 113 2)) (y := (1 : Int32)) (by omega) (by omega)
      try have y11 := zi_sub (x := ((g 113 2) - 1)) (y := x2) (by omega) (by omega)
      exact S1.ret (show True ∧ True from ⟨trivial, trivial⟩)
    · skip
      have chc4 := zc_neF hc4
      exact S1.ret (show True ∧ True from ⟨trivial, trivial⟩)
theorem s_138_5 (x1 : Int32) (x2 : Int32) (g : G) (hI : Inv g) : ∀ (f : Nat) (x3 : Int32) (x4 : Int32), 0 ≤ x4.toInt ∧ x4.toInt ≤ 8 ∧ 8 - x4.toInt < (f : Int) → S1 (d_138_5 x1 x2 g f x3 x4) (fun q : Int32 => True ∧ True) := by
  intro f
  induction f with
  | zero =>
    intro x3 x4 hp
    exfalso
    omega
  | succ f ih =>
    intro x3 x4 hp
    rw [d_138_5.eq_2]
    have L1 := zl_1
    have yp4 : 0 ≤ (g 113 2).toInt ∧ (g 113 2).toInt ≤ 8 := Inv.rd (r := 113) (c := 8) hI 2 rfl
    have y1 : 0 ≤ (g 113 2).toInt ∧ (g 113 2).toInt ≤ 8 := Inv.rd (r := 113) (c := 8) hI 2 rfl
    refine S1.ite (fun hc1 => ?_) (fun hc1 => ?_)
    · skip
      have chc1 := zc_geT hc1
      exact S1.ret (show True ∧ True from ⟨trivial, trivial⟩)
    · skip
      have chc1 := zc_geF hc1
      refine S1.bd (s_137 x1 x4 g hI (by omega)) ?_
      intro v2 hvv2 hRv2
      have hRv2 : True ∧ True := hRv2
      refine S1.ite (fun hc3 => ?_) (fun hc3 => ?_)
      · skip
        have chc3 := zc_neT hc3
        try have y2 := zi_add (x := x4) (y := (1 : Int32)) (by omega) (by omega)
        exact (ih x3 (x4 + 1) (by omega))
      · skip
        have chc3 := zc_neF hc3
        try have y3 := zi_add (x := x4) (y := (1 : Int32)) (by omega) (by omega)
        exact (ih x4 (x4 + 1) (by omega))
/-- EveningFirstModel.hourAt -/
theorem s_138 (x1 : Int32) (x2 : Int32) (g : G) (hI : Inv g) (hp : True) : S1 (d_138 x1 x2 g) (fun q : Int32 => True ∧ True) := by
  unfold d_138
  have L0 := zl_0
  exact (s_138_5 x1 x2 g hI 300 (0 : Int32) (0 : Int32) (by omega))
/-- EveningFirstModel.one -/
theorem s_140 (x1 : Int32) (x2 : Int32) (g : G) (hI : Inv g) (hp : True) : S1 (d_140 x1 x2 g) (fun q : Int32 => True ∧ True) := by
  unfold d_140
  have Lm1 := zl_m1
  have L0 := zl_0
  have L1 := zl_1
  have L4 := zl_4
  have L10 := zl_10
  have yp7 : 0 ≤ (g 113 2).toInt ∧ (g 113 2).toInt ≤ 8 := Inv.rd (r := 113) (c := 8) hI 2 rfl
  have yp8 : 0 ≤ (g 113 3).toInt ∧ (g 113 3).toInt ≤ 4 := Inv.rd (r := 113) (c := 8) hI 3 rfl
  refine S1.lc (s_131 x1 g hI trivial) ?_
  intro v1 hvv1 hRv1
  have hRv1 : True ∧ True ∧ (v1 = true → 0 ≤ x1.toInt ∧ x1.toInt < (g 113 3).toInt) ∧ (v1 = false → True) := hRv1
  have y1 : 0 ≤ (g 113 3).toInt ∧ (g 113 3).toInt ≤ 4 := Inv.rd (r := 113) (c := 8) hI 3 rfl
  refine S1.ite (fun hc2 => ?_) (fun hc2 => ?_)
  · skip
    have chc2 := hRv1.2.2.1 hc2
    refine S1.ite (fun hc3 => ?_) (fun hc3 => ?_)
    · skip
      have chc3 := zc_neT hc3
      refine S1.ite (fun hc4 => ?_) (fun hc4 => ?_)
      · skip
        have chc4 := zc_neT hc4
        try have y2 := zi_sub (x := x2) (y := (10 : Int32)) (by omega) (by omega)
        refine S1.lc (s_133 (x2 - 10) g hI trivial) ?_
        intro v5 hvv5 hRv5
        have hRv5 : True ∧ True ∧ (v5 = true → 0 ≤ (x2 - 10).toInt ∧ (x2 - 10).toInt < (g 113 2).toInt) ∧ (v5 = false → True) := hRv5
        have y3 : 0 ≤ (g 113 2).toInt ∧ (g 113 2).toInt ≤ 8 := Inv.rd (r := 113) (c := 8) hI 2 rfl
        refine S1.ite (fun hc6 => ?_) (fun hc6 => ?_)
        · skip
          have chc6 := hRv5.2.2.1 hc6
          try have y4 := zi_add (x := (0 : Int32)) (y := x1) (by omega) (by omega)
          refine S1.ix (by omega) ?_
          intro k7 hk7 bk7
          refine S1.bd (s_138 (g 114 k7) (x2 - 10) g hI trivial) ?_
          intro v8 hvv8 hRv8
          have hRv8 : True ∧ True := hRv8
          exact S1.ret (show True ∧ True from ⟨trivial, trivial⟩)
        · skip
          have chc6 := hRv5.2.2.2 hc6
          exact S1.ret (show True ∧ True from ⟨trivial, trivial⟩)
      · skip
        have chc4 := zc_neF hc4
        try have y5 := zi_add (x := (4 : Int32)) (y := x1) (by omega) (by omega)
        refine S1.ix (by omega) ?_
        intro k9 hk9 bk9
        exact S1.ret (show True ∧ True from ⟨trivial, trivial⟩)
    · skip
      have chc3 := zc_neF hc3
      try have y6 := zi_add (x := (0 : Int32)) (y := x1) (by omega) (by omega)
      refine S1.ix (by omega) ?_
      intro k10 hk10 bk10
      exact S1.ret (show True ∧ True from ⟨trivial, trivial⟩)
  · skip
    have chc2 := hRv1.2.2.2 hc2
    exact S1.ret (show True ∧ True from ⟨trivial, trivial⟩)
/-- EveningFirst$Family.isDeed -/
theorem s_20 (r0 : Nat) (x1 : Int32) (h0 : zg_cl r0 = 2) (g : G) (hI : Inv g) (hp : True) : T1 (d_20 r0 x1 g) (fun q : Bool => True ∧ True ∧ (q = true → 0 ≤ x1.toInt ∧ x1.toInt < (g r0 2).toInt) ∧ (q = false → True)) := by
  unfold d_20
  have L0 := zl_0
  refine T1.ite (fun hc1 => ?_) (fun hc1 => ?_)
  · skip
    have chc1 := zc_ltT hc1
    exact T1.ret (show True ∧ True ∧ (false = true → 0 ≤ x1.toInt ∧ x1.toInt < (g r0 2).toInt) ∧ (false = false → True) from ⟨trivial, trivial, (fun w => by cases w), (fun _ => trivial)⟩)
  · skip
    have chc1 := zc_ltF hc1
    have y1 : 0 ≤ (g r0 2).toInt ∧ (g r0 2).toInt ≤ 8 := Inv.rd (r := r0) (c := 2) hI 2 h0
    refine T1.ite (fun hc2 => ?_) (fun hc2 => ?_)
    · skip
      have chc2 := zc_geT hc2
      exact T1.ret (show True ∧ True ∧ (false = true → 0 ≤ x1.toInt ∧ x1.toInt < (g r0 2).toInt) ∧ (false = false → True) from ⟨trivial, trivial, (fun w => by cases w), (fun _ => trivial)⟩)
    · skip
      have chc2 := zc_geF hc2
      exact T1.ret (show True ∧ True ∧ (true = true → 0 ≤ x1.toInt ∧ x1.toInt < (g r0 2).toInt) ∧ (true = false → True) from ⟨trivial, trivial, (fun _ => by omega), (fun _ => trivial)⟩)
/-- EveningFirst.deed -/
theorem s_60 (x1 : Int32) (x2 : Int32) (g : G) (hI : Inv g) (hp : True) : S1 (d_60 x1 x2 g) (fun q : Int32 => True ∧ True) := by
  unfold d_60
  have Lm1 := zl_m1
  have L0 := zl_0
  have L1 := zl_1
  have L2 := zl_2
  have L3 := zl_3
  have L4 := zl_4
  have L5 := zl_5
  have L6 := zl_6
  refine S1.lc (s_20 1 x1 rfl g hI trivial) ?_
  intro v1 hvv1 hRv1
  have hRv1 : True ∧ True ∧ (v1 = true → 0 ≤ x1.toInt ∧ x1.toInt < (g 1 2).toInt) ∧ (v1 = false → True) := hRv1
  have y1 : 0 ≤ (g 1 2).toInt ∧ (g 1 2).toInt ≤ 8 := Inv.rd (r := 1) (c := 2) hI 2 rfl
  refine S1.ite (fun hc2 => ?_) (fun hc2 => ?_)
  · skip
    have chc2 := hRv1.2.2.1 hc2
    refine S1.ix (by omega) ?_
    intro k3 hk3 bk3
    refine S1.ite (fun hc4 => ?_) (fun hc4 => ?_)
    · skip
      have chc4 := zc_bT hc4
      exact S1.ret (show True ∧ True from ⟨trivial, trivial⟩)
    · skip
      have chc4 := zc_bF hc4
      refine S1.ite (fun hc5 => ?_) (fun hc5 => ?_)
      · skip
        have chc5 := zc_bT hc5
        have y2 : 0 ≤ (g (9 + k3) 1).toInt ∧ (g (9 + k3) 1).toInt ≤ 3 := Inv.rd (r := (9 + k3)) (c := 1) hI 1 (zg_deed (b := 1) rfl hk3)
        exact S1.ret (show True ∧ True from ⟨trivial, trivial⟩)
      · skip
        have chc5 := zc_bF hc5
        refine S1.ite (fun hc6 => ?_) (fun hc6 => ?_)
        · skip
          have chc6 := zc_bT hc6
          exact S1.ret (show True ∧ True from ⟨trivial, trivial⟩)
        · skip
          have chc6 := zc_bF hc6
          refine S1.ite (fun hc7 => ?_) (fun hc7 => ?_)
          · skip
            have chc7 := zc_bT hc7
            have y3 : 0 ≤ (g (9 + k3) 3).toInt ∧ (g (9 + k3) 3).toInt ≤ 5 := Inv.rd (r := (9 + k3)) (c := 1) hI 3 (zg_deed (b := 1) rfl hk3)
            exact S1.ret (show True ∧ True from ⟨trivial, trivial⟩)
          · skip
            have chc7 := zc_bF hc7
            refine S1.ite (fun hc8 => ?_) (fun hc8 => ?_)
            · skip
              have chc8 := zc_bT hc8
              exact S1.ret (show True ∧ True from ⟨trivial, trivial⟩)
            · skip
              have chc8 := zc_bF hc8
              refine S1.ite (fun hc9 => ?_) (fun hc9 => ?_)
              · skip
                have chc9 := zc_bT hc9
                exact S1.ret (show True ∧ True from ⟨trivial, trivial⟩)
              · skip
                have chc9 := zc_bF hc9
                refine S1.ite (fun hc10 => ?_) (fun hc10 => ?_)
                · skip
                  have chc10 := zc_bT hc10
                  exact S1.ret (show True ∧ True from ⟨trivial, trivial⟩)
                · skip
                  have chc10 := zc_bF hc10
                  exact S1.ret (show True ∧ True from ⟨trivial, trivial⟩)
  · skip
    have chc2 := hRv1.2.2.2 hc2
    exact S1.ret (show True ∧ True from ⟨trivial, trivial⟩)
/-- EveningFirstModel.isDeed -/
theorem s_132 (x1 : Int32) (g : G) (hI : Inv g) (hp : True) : T1 (d_132 x1 g) (fun q : Bool => True ∧ True ∧ (q = true → 0 ≤ x1.toInt ∧ x1.toInt < (g 114 8).toInt) ∧ (q = false → True)) := by
  unfold d_132
  have L0 := zl_0
  have L1 := zl_1
  have yp6 := hI.m8
  have y1 := zi_i64 x1
  have y2 := hI.m8
  try have y3 := zi_sub (x := (g 114 8)) (y := (1 : Int32)) (by omega) (by omega)
  have y4 := zi_i64 ((g 114 8) - 1)
  have y5 : (0 : Int64).toInt = 0 := by decide
  refine T1.lc (zin_c (a := (Int32.toInt64 x1)) (b := (0 : Int64)) (c := (Int32.toInt64 ((g 114 8) - 1)))) ?_
  intro v1 hvv1 hRv1
  have hRv1 : (v1 = true → (0 : Int64).toInt ≤ (Int32.toInt64 x1).toInt ∧ (Int32.toInt64 x1).toInt ≤ (Int32.toInt64 ((g 114 8) - 1)).toInt) ∧ (v1 = false → (Int32.toInt64 x1).toInt < (0 : Int64).toInt ∨ (Int32.toInt64 ((g 114 8) - 1)).toInt < (Int32.toInt64 x1).toInt) := hRv1
  exact T1.ret (show True ∧ True ∧ (v1 = true → 0 ≤ x1.toInt ∧ x1.toInt < (g 114 8).toInt) ∧ (v1 = false → True) from ⟨trivial, trivial, (fun w => by have w2 := hRv1.1 w; omega), (fun _ => trivial)⟩)
/-- EveningFirstModel.of -/
theorem s_136 (x1 : Int32) (x2 : Int32) (g : G) (hI : Inv g) (hp : 0 ≤ x1.toInt ∧ x1.toInt ≤ 7 ∧ 0 ≤ x2.toInt ∧ x2.toInt ≤ 6) : S1 (d_136 x1 x2 g) (fun q : Int32 => True ∧ ((x2.toInt = 0 → 0 ≤ q.toInt ∧ q.toInt ≤ 7) ∧ (x2.toInt = 1 → 0 ≤ q.toInt ∧ q.toInt ≤ 3))) := by
  unfold d_136
  have L7 := zl_7
  have L9 := zl_9
  have y1 := zi_mul (x := (7 : Int32)) (y := x1) (n := 7) (by decide) (by omega) (by omega)
  have y2 := zi_add (x := (9 : Int32)) (y := 7 * x1) (by omega) (by omega)
  have y3 := zi_add (x := (9 + (7 * x1))) (y := x2) (by omega) (by omega)
  refine S1.ix (by omega) ?_
  intro k1 hk1 bk1
  exact S1.ret ⟨trivial, (stP_d (d := x1.toInt) (o := x2.toInt) (by omega) (by omega) (by omega)).mp (hI.st (k := k1) (by omega))⟩
/-- EveningFirstModel.deed -/
theorem s_141 (x1 : Int32) (x2 : Int32) (g : G) (hI : Inv g) (hp : True) : S1 (d_141 x1 x2 g) (fun q : Int32 => True ∧ True) := by
  unfold d_141
  have Lm1 := zl_m1
  have L0 := zl_0
  have L6 := zl_6
  have yp5 := hI.m8
  refine S1.lc (s_132 x1 g hI trivial) ?_
  intro v1 hvv1 hRv1
  have hRv1 : True ∧ True ∧ (v1 = true → 0 ≤ x1.toInt ∧ x1.toInt < (g 114 8).toInt) ∧ (v1 = false → True) := hRv1
  have y1 := hI.m8
  refine S1.ite (fun hc2 => ?_) (fun hc2 => ?_)
  · skip
    have chc2 := hRv1.2.2.1 hc2
    have y2 := zi_i64 x2
    have y3 : (0 : Int64).toInt = 0 := by decide
    have y4 : (6 : Int64).toInt = 6 := by decide
    refine S1.lc (zin_c (a := (Int32.toInt64 x2)) (b := (0 : Int64)) (c := (6 : Int64))) ?_
    intro v3 hvv3 hRv3
    have hRv3 : (v3 = true → (0 : Int64).toInt ≤ (Int32.toInt64 x2).toInt ∧ (Int32.toInt64 x2).toInt ≤ (6 : Int64).toInt) ∧ (v3 = false → (Int32.toInt64 x2).toInt < (0 : Int64).toInt ∨ (6 : Int64).toInt < (Int32.toInt64 x2).toInt) := hRv3
    refine S1.ite (fun hc4 => ?_) (fun hc4 => ?_)
    · skip
      have chc4 := hRv3.1 hc4
      refine S1.bd (s_136 x1 x2 g hI (by omega)) ?_
      intro v5 hvv5 hRv5
      have hRv5 : True ∧ ((x2.toInt = 0 → 0 ≤ v5.toInt ∧ v5.toInt ≤ 7) ∧ (x2.toInt = 1 → 0 ≤ v5.toInt ∧ v5.toInt ≤ 3)) := hRv5
      exact S1.ret (show True ∧ True from ⟨trivial, trivial⟩)
    · skip
      have chc4 := hRv3.2 hc4
      exact S1.ret (show True ∧ True from ⟨trivial, trivial⟩)
  · skip
    have chc2 := hRv1.2.2.2 hc2
    exact S1.ret (show True ∧ True from ⟨trivial, trivial⟩)
/-- EveningFirst.go -/
theorem s_61 (x1 : Int32) (x2 : Int32) (g : G) (hI : Inv g) (hp : True) : S1 (d_61 x1 x2 g) (fun q : Int32 × G => Inv q.2 ∧ True) := by
  unfold d_61
  have Lm1 := zl_m1
  have L0 := zl_0
  have L3 := zl_3
  refine S1.lc (s_18 1 x1 rfl g hI trivial) ?_
  intro v1 hvv1 hRv1
  have hRv1 : True ∧ True ∧ (v1 = true → 0 ≤ x1.toInt ∧ x1.toInt < (g 1 1).toInt) ∧ (v1 = false → True) := hRv1
  have y1 : 0 ≤ (g 1 1).toInt ∧ (g 1 1).toInt ≤ 4 := Inv.rd (r := 1) (c := 2) hI 1 rfl
  refine S1.ite (fun hc2 => ?_) (fun hc2 => ?_)
  · skip
    have chc2 := hRv1.2.2.1 hc2
    refine S1.ite (fun hc3 => ?_) (fun hc3 => ?_)
    · skip
      have chc3 := zc_ltT hc3
      exact S1.ret (show Inv g ∧ True from ⟨hI, trivial⟩)
    · skip
      have chc3 := zc_ltF hc3
      refine S1.ite (fun hc4 => ?_) (fun hc4 => ?_)
      · skip
        have chc4 := zc_ltT hc4
        refine S1.ix (by omega) ?_
        intro k5 hk5 bk5
        refine S1.ix (by omega) ?_
        intro k6 hk6 bk6
        refine S1.lt ?_
        intro g7 hg7
        have Ig7 : Inv g7 := Inv.up hI hg7 (zg_one (b := 1) rfl hk6) trivial
        exact S1.ret (show Inv g7 ∧ True from ⟨Ig7, trivial⟩)
      · skip
        have chc4 := zc_ltF hc4
        exact S1.ret (show Inv g ∧ True from ⟨hI, trivial⟩)
  · skip
    have chc2 := hRv1.2.2.2 hc2
    exact S1.ret (show Inv g ∧ True from ⟨hI, trivial⟩)
/-- EveningFirstModel.becomes -/
theorem s_142 (x1 : Int32) (x2 : Int32) (g : G) (hI : Inv g) (hp : 0 ≤ x1.toInt ∧ x1.toInt < 98 ∧ stP x1.toInt.toNat x2.toInt) : S1 (d_142 x1 x2 g) (fun q : Int32 × G => Inv q.2 ∧ (stP x1.toInt.toNat q.1.toInt)) := by
  unfold d_142
  obtain ⟨h1, h2, h3⟩ := hp
  refine S1.ix (by omega) ?_
  intro k1 hk1 bk1
  refine S1.ix (by omega) ?_
  intro k3 hk3 bk3
  refine S1.lt ?_
  intro g2 hg2
  have e1 : k1 = x1.toInt.toNat := by omega
  have e3 : k3 = x1.toInt.toNat := by omega
  have I2 : Inv g2 := Inv.up hI hg2 zg_c114.1 (bdP_st (by omega) (by rw [e3]; exact h3))
  refine S1.ret (show Inv g2 ∧ stP x1.toInt.toNat (g 114 k1).toInt from ⟨I2, ?_⟩)
  have := hI.st (k := k1) (by omega)
  rw [← e1]
  exact this
/-- EveningFirstModel.go -/
theorem s_143 (x1 : Int32) (x2 : Int32) (g : G) (hI : Inv g) (hp : True) : S1 (d_143 x1 x2 g) (fun q : Int32 × G => Inv q.2 ∧ True) := by
  unfold d_143
  have Lm1 := zl_m1
  have L0 := zl_0
  have L2 := zl_2
  have yp7 : 0 ≤ (g 113 3).toInt ∧ (g 113 3).toInt ≤ 4 := Inv.rd (r := 113) (c := 8) hI 3 rfl
  refine S1.lc (s_131 x1 g hI trivial) ?_
  intro v1 hvv1 hRv1
  have hRv1 : True ∧ True ∧ (v1 = true → 0 ≤ x1.toInt ∧ x1.toInt < (g 113 3).toInt) ∧ (v1 = false → True) := hRv1
  have y1 : 0 ≤ (g 113 3).toInt ∧ (g 113 3).toInt ≤ 4 := Inv.rd (r := 113) (c := 8) hI 3 rfl
  refine S1.ite (fun hc2 => ?_) (fun hc2 => ?_)
  · skip
    have chc2 := hRv1.2.2.1 hc2
    have y2 := zi_i64 x2
    have y3 : (0 : Int64).toInt = 0 := by decide
    have y4 : (2 : Int64).toInt = 2 := by decide
    refine S1.lc (zin_c (a := (Int32.toInt64 x2)) (b := (0 : Int64)) (c := (2 : Int64))) ?_
    intro v3 hvv3 hRv3
    have hRv3 : (v3 = true → (0 : Int64).toInt ≤ (Int32.toInt64 x2).toInt ∧ (Int32.toInt64 x2).toInt ≤ (2 : Int64).toInt) ∧ (v3 = false → (Int32.toInt64 x2).toInt < (0 : Int64).toInt ∨ (2 : Int64).toInt < (Int32.toInt64 x2).toInt) := hRv3
    refine S1.ite (fun hc4 => ?_) (fun hc4 => ?_)
    · skip
      have chc4 := hRv3.1 hc4
      try have y5 := zi_add (x := (0 : Int32)) (y := x1) (by omega) (by omega)
      refine S1.bp (s_142 (0 + x1) x2 g hI ⟨by omega, by omega, (stP_lo (by omega))⟩) ?_
      intro v5 g6 hvv5 hRv5
      have hRv5 : Inv g6 ∧ (stP (0 + x1).toInt.toNat v5.toInt) := hRv5
      have y6 : 0 ≤ (g6 113 3).toInt ∧ (g6 113 3).toInt ≤ 4 := Inv.rd (r := 113) (c := 8) hRv5.1 3 rfl
      exact S1.ret (show Inv g6 ∧ True from ⟨hRv5.1, trivial⟩)
    · skip
      have chc4 := hRv3.2 hc4
      exact S1.ret (show Inv g ∧ True from ⟨hI, trivial⟩)
  · skip
    have chc2 := hRv1.2.2.2 hc2
    exact S1.ret (show Inv g ∧ True from ⟨hI, trivial⟩)
/-- EveningFirst.birth -/
theorem s_62 (x1 : Int32) (x2 : Int32) (g : G) (hI : Inv g) (hp : True) : S1 (d_62 x1 x2 g) (fun q : Int32 × G => Inv q.2 ∧ True) := by
  unfold d_62
  have Lm1 := zl_m1
  refine S1.lc (s_18 1 x1 rfl g hI trivial) ?_
  intro v1 hvv1 hRv1
  have hRv1 : True ∧ True ∧ (v1 = true → 0 ≤ x1.toInt ∧ x1.toInt < (g 1 1).toInt) ∧ (v1 = false → True) := hRv1
  have y1 : 0 ≤ (g 1 1).toInt ∧ (g 1 1).toInt ≤ 4 := Inv.rd (r := 1) (c := 2) hI 1 rfl
  refine S1.ite (fun hc2 => ?_) (fun hc2 => ?_)
  · skip
    have chc2 := hRv1.2.2.1 hc2
    refine S1.lt ?_
    intro v3 hvv3
    refine S1.ite (fun hc4 => ?_) (fun hc4 => ?_)
    · skip
      refine S1.ix (by omega) ?_
      intro k5 hk5 bk5
      refine S1.ix (by omega) ?_
      intro k6 hk6 bk6
      refine S1.lt ?_
      intro g7 hg7
      have Ig7 : Inv g7 := Inv.up hI hg7 (zg_one (b := 1) rfl hk6) trivial
      exact S1.ret (show Inv g7 ∧ True from ⟨Ig7, trivial⟩)
    · skip
      exact S1.ret (show Inv g ∧ True from ⟨hI, trivial⟩)
  · skip
    have chc2 := hRv1.2.2.2 hc2
    exact S1.ret (show Inv g ∧ True from ⟨hI, trivial⟩)
/-- EveningFirstModel.birth -/
theorem s_145 (x1 : Int32) (x2 : Int32) (g : G) (hI : Inv g) (hp : True) : S1 (d_145 x1 x2 g) (fun q : Int32 × G => Inv q.2 ∧ True) := by
  unfold d_145
  have Lm1 := zl_m1
  have L4 := zl_4
  have yp4 : 0 ≤ (g 113 3).toInt ∧ (g 113 3).toInt ≤ 4 := Inv.rd (r := 113) (c := 8) hI 3 rfl
  refine S1.lc (s_131 x1 g hI trivial) ?_
  intro v1 hvv1 hRv1
  have hRv1 : True ∧ True ∧ (v1 = true → 0 ≤ x1.toInt ∧ x1.toInt < (g 113 3).toInt) ∧ (v1 = false → True) := hRv1
  have y1 : 0 ≤ (g 113 3).toInt ∧ (g 113 3).toInt ≤ 4 := Inv.rd (r := 113) (c := 8) hI 3 rfl
  refine S1.ite (fun hc2 => ?_) (fun hc2 => ?_)
  · skip
    have chc2 := hRv1.2.2.1 hc2
    refine S1.lt ?_
    intro v3 hvv3
    refine S1.ite (fun hc4 => ?_) (fun hc4 => ?_)
    · skip
      try have y2 := zi_add (x := (4 : Int32)) (y := x1) (by omega) (by omega)
      refine S1.bp (s_142 (4 + x1) x2 g hI ⟨by omega, by omega, (stP_lo (by omega))⟩) ?_
      intro v5 g6 hvv5 hRv5
      have hRv5 : Inv g6 ∧ (stP (4 + x1).toInt.toNat v5.toInt) := hRv5
      have y3 : 0 ≤ (g6 113 3).toInt ∧ (g6 113 3).toInt ≤ 4 := Inv.rd (r := 113) (c := 8) hRv5.1 3 rfl
      exact S1.ret (show Inv g6 ∧ True from ⟨hRv5.1, trivial⟩)
    · skip
      exact S1.ret (show Inv g ∧ True from ⟨hI, trivial⟩)
  · skip
    have chc2 := hRv1.2.2.2 hc2
    exact S1.ret (show Inv g ∧ True from ⟨hI, trivial⟩)
