/-! printed by wip/tools/safe.py -/
/-- EveningFirst$Family.isEarlier -/
theorem s_23 (r0 : Nat) (x1 : Int32) (x2 : Int32) (x3 : Int32) (h0 : zg_cl r0 = 2) (g : G) (hI : Inv g) (hp : 0 ≤ x1.toInt ∧ x1.toInt ≤ 3) : S1 (d_23 r0 x1 x2 x3 g) (fun q : Bool => True ∧ True ∧ (q = true → True) ∧ (q = false → True)) := by
  unfold d_23
  refine S1.ix (by omega) ?_
  intro k1 hk1 bk1
  refine S1.lt ?_
  intro v2 hvv2
  refine S1.lt ?_
  intro v3 hvv3
  refine S1.ite (fun hc4 => ?_) (fun hc4 => ?_)
  · skip
    have chc4 := zc_geT hc4
    exact S1.ret (show True ∧ True ∧ (false = true → True) ∧ (false = false → True) from ⟨trivial, trivial, (fun _ => trivial), (fun _ => trivial)⟩)
  · skip
    have chc4 := zc_geF hc4
    exact S1.ret (show True ∧ True ∧ (true = true → True) ∧ (true = false → True) from ⟨trivial, trivial, (fun _ => trivial), (fun _ => trivial)⟩)
theorem s_24_14 (r0 : Nat) (x1 : Int32) (x2 : Int32) (x3 : Int32) (h0 : zg_cl r0 = 2) (g : G) (hI : Inv g) : ∀ (f : Nat) (x4 : Int32) (x5 : Int32), 0 ≤ x5.toInt ∧ x5.toInt ≤ 8 ∧ 8 - x5.toInt < (f : Int) ∧ 0 ≤ x1.toInt ∧ x1.toInt ≤ 3 → S1 (d_24_14 r0 x1 x2 x3 g f x4 x5) (fun q : Int32 => True ∧ True) := by
  intro f
  induction f with
  | zero =>
    intro x4 x5 hp
    exfalso
    omega
  | succ f ih =>
    intro x4 x5 hp
    rw [d_24_14.eq_2]
    have L1 := zl_1
    have L31 := zl_31
    have y1 : 0 ≤ (g r0 2).toInt ∧ (g r0 2).toInt ≤ 8 := Inv.rd (r := r0) (c := 2) hI 2 h0
    refine S1.ite (fun hc2 => ?_) (fun hc2 => ?_)
    · skip
      have chc2 := zc_geT hc2
      exact S1.ret (show True ∧ True from ⟨trivial, trivial⟩)
    · skip
      have chc2 := zc_geF hc2
      refine S1.ix (by omega) ?_
      intro k3 hk3 bk3
      refine S1.lt ?_
      intro v4 hvv4
      refine S1.ite (fun hc5 => ?_) (fun hc5 => ?_)
      · skip
        refine S1.ite (fun hc6 => ?_) (fun hc6 => ?_)
        · skip
          have chc6 := zc_neT hc6
          try have y2 := zi_add (x := x5) (y := (1 : Int32)) (by omega) (by omega)
          exact (ih x4 (x5 + 1) (by omega))
        · skip
          have chc6 := zc_neF hc6
          refine S1.bd (s_23 r0 x1 (g (r0 + 8 + k3) 0) x2 h0 g hI (by omega)) ?_
          intro v7 hvv7 hRv7
          have hRv7 : True ∧ True ∧ (v7 = true → True) ∧ (v7 = false → True) := hRv7
          refine S1.ite (fun hc8 => ?_) (fun hc8 => ?_)
          · skip
            have chc8 := hRv7.2.2.1 hc8
            have y3 : 0 ≤ (g (r0 + 8 + k3) 3).toInt ∧ (g (r0 + 8 + k3) 3).toInt ≤ 5 := Inv.rd (r := (r0 + 8 + k3)) (c := 1) hI 3 (zg_deed (b := r0) h0 hk3)
            try have y4 := zi_and (x := (g (r0 + 8 + k3) 3)) (y := (31 : Int32)) (by omega)
            try have y5 := zi_shl1 (x := (g (r0 + 8 + k3) 3)) (by omega)
            try have y6 := zi_add (x := x5) (y := (1 : Int32)) (by omega) (by omega)
            exact (ih (x4 ||| ((1 : Int32) <<< ((g (r0 + 8 + k3) 3) &&& 31))) (x5 + 1) (by omega))
          · skip
            have chc8 := hRv7.2.2.2 hc8
            try have y7 := zi_add (x := x5) (y := (1 : Int32)) (by omega) (by omega)
            exact (ih x4 (x5 + 1) (by omega))
      · skip
        try have y8 := zi_add (x := x5) (y := (1 : Int32)) (by omega) (by omega)
        exact (ih x4 (x5 + 1) (by omega))
/-- EveningFirst$Family.thingsHad -/
theorem s_24 (r0 : Nat) (x1 : Int32) (x2 : Int32) (x3 : Int32) (h0 : zg_cl r0 = 2) (g : G) (hI : Inv g) (hp : 0 ≤ x1.toInt ∧ x1.toInt ≤ 3) : S1 (d_24 r0 x1 x2 x3 g) (fun q : Int32 => True ∧ True) := by
  unfold d_24
  have L0 := zl_0
  refine S1.ix (by omega) ?_
  intro k1 hk1 bk1
  exact (s_24_14 r0 x1 x2 x3 h0 g hI 300 (g (r0 + 4 + k1) 1) (0 : Int32) (by omega))
/-- EveningFirst.has -/
theorem s_67 (x1 : Int32) (x2 : Int32) (x3 : Int32) (g : G) (hI : Inv g) (hp : True) : S1 (d_67 x1 x2 x3 g) (fun q : Int32 => True ∧ True) := by
  unfold d_67
  have Lm1 := zl_m1
  refine S1.lc (s_18 1 x1 rfl g hI trivial) ?_
  intro v1 hvv1 hRv1
  have hRv1 : True ∧ True ∧ (v1 = true → 0 ≤ x1.toInt ∧ x1.toInt < (g 1 1).toInt) ∧ (v1 = false → True) := hRv1
  have y1 : 0 ≤ (g 1 1).toInt ∧ (g 1 1).toInt ≤ 4 := Inv.rd (r := 1) (c := 2) hI 1 rfl
  refine S1.ite (fun hc2 => ?_) (fun hc2 => ?_)
  · skip
    have chc2 := hRv1.2.2.1 hc2
    refine S1.lc (s_19 1 x2 rfl g hI trivial) ?_
    intro v3 hvv3 hRv3
    have hRv3 : True ∧ True ∧ (v3 = true → 0 ≤ x2.toInt ∧ x2.toInt < (g 1 0).toInt) ∧ (v3 = false → True) := hRv3
    have y2 : 0 ≤ (g 1 0).toInt ∧ (g 1 0).toInt ≤ 8 := Inv.rd (r := 1) (c := 2) hI 0 rfl
    refine S1.ite (fun hc4 => ?_) (fun hc4 => ?_)
    · skip
      have chc4 := hRv3.2.2.1 hc4
      refine S1.lt ?_
      intro v5 hvv5
      refine S1.ite (fun hc6 => ?_) (fun hc6 => ?_)
      · skip
        refine S1.bd (s_24 1 x1 x2 x3 rfl g hI (by omega)) ?_
        intro v7 hvv7 hRv7
        have hRv7 : True ∧ True := hRv7
        exact S1.ret (show True ∧ True from ⟨trivial, trivial⟩)
      · skip
        exact S1.ret (show True ∧ True from ⟨trivial, trivial⟩)
    · skip
      have chc4 := hRv3.2.2.2 hc4
      exact S1.ret (show True ∧ True from ⟨trivial, trivial⟩)
  · skip
    have chc2 := hRv1.2.2.2 hc2
    exact S1.ret (show True ∧ True from ⟨trivial, trivial⟩)
theorem s_150_28 (x1 : Int32) (x3 : Int32) (x5 : Int32) (g : G) (hI : Inv g) : ∀ (f : Nat) (x4 : Int32) (x6 : Int32), 0 ≤ x6.toInt ∧ x6.toInt ≤ 8 ∧ 8 - x6.toInt < (f : Int) ∧ 0 ≤ x1.toInt ∧ x1.toInt ≤ 3 → S1 (d_150_28 x1 x3 x5 g f x4 x6) (fun q : Int32 => True ∧ True) := by
  intro f
  induction f with
  | zero =>
    intro x4 x6 hp
    exfalso
    omega
  | succ f ih =>
    intro x4 x6 hp
    rw [d_150_28.eq_2]
    have L0 := zl_0
    have L1 := zl_1
    have L2 := zl_2
    have L3 := zl_3
    have L31 := zl_31
    have yp13 := hI.m8
    have y1 := hI.m8
    refine S1.ite (fun hc4 => ?_) (fun hc4 => ?_)
    · skip
      have chc4 := zc_geT hc4
      exact S1.ret (show True ∧ True from ⟨trivial, trivial⟩)
    · skip
      have chc4 := zc_geF hc4
      try have y2 := zi_and (x := x6) (y := (31 : Int32)) (by omega)
      try have y3 := zi_and (x := (x3 >>> (x6 &&& 31))) (y := (1 : Int32)) (by omega)
      refine S1.ite (fun hc5 => ?_) (fun hc5 => ?_)
      · skip
        have chc5 := zc_neT hc5
        refine S1.lt ?_
        intro v6 hvv6
        refine S1.bd (s_136 x6 (3 : Int32) g hI (by omega)) ?_
        intro v7 hvv7 hRv7
        have hRv7 : True ∧ (((3 : Int32).toInt = 0 → 0 ≤ v7.toInt ∧ v7.toInt ≤ 7) ∧ ((3 : Int32).toInt = 1 → 0 ≤ v7.toInt ∧ v7.toInt ≤ 3)) := hRv7
        try have y4 := zi_and (x := v7) (y := (31 : Int32)) (by omega)
        try have y5 := zi_add (x := x6) (y := (1 : Int32)) (by omega) (by omega)
        exact (ih (x4 ||| (v6 <<< (v7 &&& 31))) (x6 + 1) (by omega))
      · skip
        have chc5 := zc_neF hc5
        refine S1.bd (s_136 x6 (2 : Int32) g hI (by omega)) ?_
        intro v8 hvv8 hRv8
        have hRv8 : True ∧ (((2 : Int32).toInt = 0 → 0 ≤ v8.toInt ∧ v8.toInt ≤ 7) ∧ ((2 : Int32).toInt = 1 → 0 ≤ v8.toInt ∧ v8.toInt ≤ 3)) := hRv8
        refine S1.ite (fun hc9 => ?_) (fun hc9 => ?_)
        · skip
          have chc9 := zc_neT hc9
          refine S1.lt ?_
          intro v10 hvv10
          refine S1.bd (s_136 x6 (3 : Int32) g hI (by omega)) ?_
          intro v11 hvv11 hRv11
          have hRv11 : True ∧ (((3 : Int32).toInt = 0 → 0 ≤ v11.toInt ∧ v11.toInt ≤ 7) ∧ ((3 : Int32).toInt = 1 → 0 ≤ v11.toInt ∧ v11.toInt ≤ 3)) := hRv11
          try have y6 := zi_and (x := v11) (y := (31 : Int32)) (by omega)
          try have y7 := zi_add (x := x6) (y := (1 : Int32)) (by omega) (by omega)
          exact (ih (x4 ||| (v10 <<< (v11 &&& 31))) (x6 + 1) (by omega))
        · skip
          have chc9 := zc_neF hc9
          try have y8 := zi_add (x := (0 : Int32)) (y := x1) (by omega) (by omega)
          refine S1.ix (by omega) ?_
          intro k12 hk12 bk12
          refine S1.bd (s_136 x6 (0 : Int32) g hI (by omega)) ?_
          intro v13 hvv13 hRv13
          have hRv13 : True ∧ (((0 : Int32).toInt = 0 → 0 ≤ v13.toInt ∧ v13.toInt ≤ 7) ∧ ((0 : Int32).toInt = 1 → 0 ≤ v13.toInt ∧ v13.toInt ≤ 3)) := hRv13
          refine S1.bd (s_137 (g 114 k12) v13 g hI (by omega)) ?_
          intro v14 hvv14 hRv14
          have hRv14 : True ∧ True := hRv14
          refine S1.ite (fun hc15 => ?_) (fun hc15 => ?_)
          · skip
            have chc15 := zc_geT hc15
            refine S1.lt ?_
            intro v16 hvv16
            refine S1.bd (s_136 x6 (3 : Int32) g hI (by omega)) ?_
            intro v17 hvv17 hRv17
            have hRv17 : True ∧ (((3 : Int32).toInt = 0 → 0 ≤ v17.toInt ∧ v17.toInt ≤ 7) ∧ ((3 : Int32).toInt = 1 → 0 ≤ v17.toInt ∧ v17.toInt ≤ 3)) := hRv17
            try have y9 := zi_and (x := v17) (y := (31 : Int32)) (by omega)
            try have y10 := zi_add (x := x6) (y := (1 : Int32)) (by omega) (by omega)
            exact (ih (x4 ||| (v16 <<< (v17 &&& 31))) (x6 + 1) (by omega))
          · skip
            have chc15 := zc_geF hc15
            refine S1.lt ?_
            intro v18 hvv18
            refine S1.bd (s_136 x6 (3 : Int32) g hI (by omega)) ?_
            intro v19 hvv19 hRv19
            have hRv19 : True ∧ (((3 : Int32).toInt = 0 → 0 ≤ v19.toInt ∧ v19.toInt ≤ 7) ∧ ((3 : Int32).toInt = 1 → 0 ≤ v19.toInt ∧ v19.toInt ≤ 3)) := hRv19
            try have y11 := zi_and (x := v19) (y := (31 : Int32)) (by omega)
            try have y12 := zi_add (x := x6) (y := (1 : Int32)) (by omega) (by omega)
            exact (ih (x4 ||| (v18 <<< (v19 &&& 31))) (x6 + 1) (by omega))
/-- EveningFirstModel.hasBy -/
theorem s_150 (x1 : Int32) (x2 : Int32) (x3 : Int32) (g : G) (hI : Inv g) (hp : 0 ≤ x1.toInt ∧ x1.toInt ≤ 3 ∧ 0 ≤ x2.toInt ∧ x2.toInt ≤ 7) : S1 (d_150 x1 x2 x3 g) (fun q : Int32 => True ∧ True) := by
  unfold d_150
  have L0 := zl_0
  have L4 := zl_4
  try have y14 := zi_add (x := (4 : Int32)) (y := x1) (by omega) (by omega)
  refine S1.ix (by omega) ?_
  intro k1 hk1 bk1
  try have y15 := zi_add (x := (0 : Int32)) (y := x1) (by omega) (by omega)
  refine S1.ix (by omega) ?_
  intro k2 hk2 bk2
  refine S1.bd (s_137 (g 114 k2) x2 g hI (by omega)) ?_
  intro v3 hvv3 hRv3
  have hRv3 : True ∧ True := hRv3
  exact (s_150_28 x1 x3 v3 g hI 300 (g 114 k1) (0 : Int32) (by omega))
/-- EveningFirstModel.has -/
theorem s_153 (x1 : Int32) (x2 : Int32) (x3 : Int32) (g : G) (hI : Inv g) (hp : True) : S1 (d_153 x1 x2 x3 g) (fun q : Int32 => True ∧ True) := by
  unfold d_153
  have Lm1 := zl_m1
  have yp3 : 0 ≤ (g 113 2).toInt ∧ (g 113 2).toInt ≤ 8 := Inv.rd (r := 113) (c := 8) hI 2 rfl
  have yp4 : 0 ≤ (g 113 3).toInt ∧ (g 113 3).toInt ≤ 4 := Inv.rd (r := 113) (c := 8) hI 3 rfl
  refine S1.lc (s_131 x1 g hI trivial) ?_
  intro v1 hvv1 hRv1
  have hRv1 : True ∧ True ∧ (v1 = true → 0 ≤ x1.toInt ∧ x1.toInt < (g 113 3).toInt) ∧ (v1 = false → True) := hRv1
  have y1 : 0 ≤ (g 113 3).toInt ∧ (g 113 3).toInt ≤ 4 := Inv.rd (r := 113) (c := 8) hI 3 rfl
  refine S1.ite (fun hc2 => ?_) (fun hc2 => ?_)
  · skip
    have chc2 := hRv1.2.2.1 hc2
    refine S1.lc (s_133 x2 g hI trivial) ?_
    intro v3 hvv3 hRv3
    have hRv3 : True ∧ True ∧ (v3 = true → 0 ≤ x2.toInt ∧ x2.toInt < (g 113 2).toInt) ∧ (v3 = false → True) := hRv3
    have y2 : 0 ≤ (g 113 2).toInt ∧ (g 113 2).toInt ≤ 8 := Inv.rd (r := 113) (c := 8) hI 2 rfl
    refine S1.ite (fun hc4 => ?_) (fun hc4 => ?_)
    · skip
      have chc4 := hRv3.2.2.1 hc4
      refine S1.lt ?_
      intro v5 hvv5
      refine S1.ite (fun hc6 => ?_) (fun hc6 => ?_)
      · skip
        refine S1.bd (s_150 x1 x2 x3 g hI (by omega)) ?_
        intro v7 hvv7 hRv7
        have hRv7 : True ∧ True := hRv7
        exact S1.ret (show True ∧ True from ⟨trivial, trivial⟩)
      · skip
        exact S1.ret (show True ∧ True from ⟨trivial, trivial⟩)
    · skip
      have chc4 := hRv3.2.2.2 hc4
      exact S1.ret (show True ∧ True from ⟨trivial, trivial⟩)
  · skip
    have chc2 := hRv1.2.2.2 hc2
    exact S1.ret (show True ∧ True from ⟨trivial, trivial⟩)
theorem s_3_42 (r1 : Nat) (x3 : Int32) (r4 : Nat) (h1 : zg_cl r1 = 2) (h4 : zg_cl r4 = 1) : ∀ (f : Nat) (x5 : Int32) (g : G), Inv g → 0 ≤ x5.toInt ∧ x5.toInt ≤ 8 ∧ 8 - x5.toInt < (f : Int) ∧ 0 ≤ x3.toInt ∧ x3.toInt ≤ 42 → S1 (d_3_42 r1 x3 r4 f x5 g) (fun q : G => Inv q ∧ True) := by
  intro f
  induction f with
  | zero =>
    intro x5 g hI hp
    exfalso
    omega
  | succ f ih =>
    intro x5 g hI hp
    rw [d_3_42.eq_2]
    have L1 := zl_1
    have L31 := zl_31
    have yp11 : 0 ≤ (g 25 3).toInt ∧ (g 25 3).toInt ≤ 8 := Inv.rd (r := 25) (c := 0) hI 3 rfl
    have y1 : 0 ≤ (g 25 3).toInt ∧ (g 25 3).toInt ≤ 8 := Inv.rd (r := 25) (c := 0) hI 3 rfl
    refine S1.ite (fun hc3 => ?_) (fun hc3 => ?_)
    · skip
      have chc3 := zc_geT hc3
      exact S1.ret (show Inv g ∧ True from ⟨hI, trivial⟩)
    · skip
      have chc3 := zc_geF hc3
      refine S1.ix (by omega) ?_
      intro k4 hk4 bk4
      have y2 : 0 ≤ (g r4 1).toInt ∧ (g r4 1).toInt ≤ 3 := Inv.rd (r := r4) (c := 1) hI 1 h4
      refine S1.ite (fun hc5 => ?_) (fun hc5 => ?_)
      · skip
        have chc5 := zc_neT hc5
        try have y3 := zi_add (x := x5) (y := (1 : Int32)) (by omega) (by omega)
        exact (ih (x5 + 1) g hI (by omega))
      · skip
        have chc5 := zc_neF hc5
        refine S1.bd (s_23 r1 (g r4 1) (g (r1 + 8 + k4) 0) (g r4 0) h1 g hI (by omega)) ?_
        intro v6 hvv6 hRv6
        have hRv6 : True ∧ True ∧ (v6 = true → True) ∧ (v6 = false → True) := hRv6
        refine S1.ite (fun hc7 => ?_) (fun hc7 => ?_)
        · skip
          have chc7 := hRv6.2.2.1 hc7
          have y4 : 0 ≤ (g (r1 + 8 + k4) 3).toInt ∧ (g (r1 + 8 + k4) 3).toInt ≤ 5 := Inv.rd (r := (r1 + 8 + k4)) (c := 1) hI 3 (zg_deed (b := r1) h1 hk4)
          try have y5 := zi_add (x := x3) (y := (g (r1 + 8 + k4) 3)) (by omega) (by omega)
          refine S1.ix (by omega) ?_
          intro k8 hk8 bk8
          refine S1.ix (by omega) ?_
          intro k10 hk10 bk10
          try have y6 := zi_and (x := x5) (y := (31 : Int32)) (by omega)
          try have y7 := zi_shl1 (x := x5) (by omega)
          refine S1.lt ?_
          intro g9 hg9
          have Ig9 : Inv g9 := Inv.up hI hg9 rfl trivial
          have u8 : (g9 25 3).toInt = (g 25 3).toInt := by rw [← hg9]; rfl
          try have y9 := zi_add (x := x5) (y := (1 : Int32)) (by omega) (by omega)
          exact (ih (x5 + 1) g9 Ig9 (by omega))
        · skip
          have chc7 := hRv6.2.2.2 hc7
          try have y10 := zi_add (x := x5) (y := (1 : Int32)) (by omega) (by omega)
          exact (ih (x5 + 1) g hI (by omega))
theorem s_3_8 (r1 : Nat) (x2 : Int32) (x3 : Int32) (h1 : zg_cl r1 = 2) : ∀ (f : Nat) (x4 : Int32) (g : G), Inv g → 0 ≤ x4.toInt ∧ x4.toInt ≤ 6 ∧ 6 - x4.toInt < (f : Int) ∧ 0 ≤ x2.toInt ∧ x2.toInt ≤ 7 ∧ x3.toInt = 6 * x2.toInt → S1 (d_3_8 r1 x2 x3 f x4 g) (fun q : G => Inv q ∧ True) := by
  intro f
  induction f with
  | zero =>
    intro x4 g hI hp
    exfalso
    omega
  | succ f ih =>
    intro x4 g hI hp
    rw [d_3_8.eq_2]
    have L0 := zl_0
    have L1 := zl_1
    have L6 := zl_6
    refine S1.ite (fun hc1 => ?_) (fun hc1 => ?_)
    · skip
      have chc1 := zc_geT hc1
      refine S1.ix (by omega) ?_
      intro k2 hk2 bk2
      exact (s_3_42 r1 x3 (r1 + 8 + k2) h1 (zg_deed (b := r1) h1 hk2) 300 (0 : Int32) g hI (by omega))
    · skip
      have chc1 := zc_geF hc1
      try have y12 := zi_add (x := x3) (y := x4) (by omega) (by omega)
      refine S1.ix (by omega) ?_
      intro k12 hk12 bk12
      refine S1.lt ?_
      intro g11 hg11
      have Ig11 : Inv g11 := Inv.up hI hg11 rfl trivial
      try have y13 := zi_add (x := x4) (y := (1 : Int32)) (by omega) (by omega)
      exact (ih (x4 + 1) g11 Ig11 (by omega))
/-- EveningFirst$Bonds.findBringers -/
theorem s_3 (r1 : Nat) (x2 : Int32) (h1 : zg_cl r1 = 2) (g : G) (hI : Inv g) (hp : 0 ≤ x2.toInt ∧ x2.toInt ≤ 7) : S1 (d_3 r1 x2 g) (fun q : G => Inv q ∧ True) := by
  unfold d_3
  have L0 := zl_0
  have L6 := zl_6
  try have y14 := zi_mulr (x := x2) (y := (6 : Int32)) (n := 6) (by decide) (by omega) (by omega)
  exact (s_3_8 r1 x2 (x2 * 6) h1 300 (0 : Int32) g hI (by omega))
theorem s_2_32 (r1 : Nat) (h1 : zg_cl r1 = 2) : ∀ (f : Nat) (x2 : Int32) (g : G), Inv g → 0 ≤ x2.toInt ∧ x2.toInt ≤ 8 ∧ 8 - x2.toInt < (f : Int) → S1 (d_2_32 r1 f x2 g) (fun q : G => Inv q ∧ True) := by
  intro f
  induction f with
  | zero =>
    intro x2 g hI hp
    exfalso
    omega
  | succ f ih =>
    intro x2 g hI hp
    rw [d_2_32.eq_2]
    have Lm1 := zl_m1
    have L0 := zl_0
    have L1 := zl_1
    have L2 := zl_2
    have L31 := zl_31
    have yp37 : 0 ≤ (g 25 3).toInt ∧ (g 25 3).toInt ≤ 8 := Inv.rd (r := 25) (c := 0) hI 3 rfl
    have y1 : 0 ≤ (g 25 3).toInt ∧ (g 25 3).toInt ≤ 8 := Inv.rd (r := 25) (c := 0) hI 3 rfl
    refine S1.ite (fun hc5 => ?_) (fun hc5 => ?_)
    · skip
      have chc5 := zc_geT hc5
      exact S1.ret (show Inv g ∧ True from ⟨hI, trivial⟩)
    · skip
      have chc5 := zc_geF hc5
      refine S1.ix (by omega) ?_
      intro k6 hk6 bk6
      have y2 : 0 ≤ (g (r1 + 8 + k6) 1).toInt ∧ (g (r1 + 8 + k6) 1).toInt ≤ 3 := Inv.rd (r := (r1 + 8 + k6)) (c := 1) hI 1 (zg_deed (b := r1) h1 hk6)
      refine S1.ix (by omega) ?_
      intro k7 hk7 bk7
      refine S1.ix (by omega) ?_
      intro k9 hk9 bk9
      try have y3 := zi_and (x := (g (r1 + 8 + k6) 4)) (y := ((g (r1 + 4 + k7) 1) ^^^ (-1))) (by omega)
      refine S1.lt ?_
      intro g8 hg8
      have Ig8 : Inv g8 := Inv.up hI hg8 rfl trivial
      have u4 : (g8 25 1).toInt = (g 25 1).toInt := by rw [← hg8]; rfl
      have u5 : (g8 25 2).toInt = (g 25 2).toInt := by rw [← hg8]; rfl
      have u6 : (g8 25 3).toInt = (g 25 3).toInt := by rw [← hg8]; rfl
      refine S1.ite (fun hc10 => ?_) (fun hc10 => ?_)
      · skip
        have chc10 := zc_neT hc10
        refine S1.lt ?_
        intro g11 hg11
        have Ig11 : Inv g11 := Inv.up Ig8 hg11 rfl trivial
        have u7 : (g11 25 1).toInt = ((g8 25 1) ||| 0).toInt := by rw [← hg11]; rfl
        have u8 : (g11 25 2).toInt = (g8 25 2).toInt := by rw [← hg11]; rfl
        have u9 : (g11 25 3).toInt = (g8 25 3).toInt := by rw [← hg11]; rfl
        refine S1.ite (fun hc12 => ?_) (fun hc12 => ?_)
        · skip
          have chc12 := zc_neT hc12
          refine S1.lt ?_
          intro g13 hg13
          have Ig13 : Inv g13 := Inv.up Ig11 hg13 rfl trivial
          have u10 : (g13 25 1).toInt = (g11 25 1).toInt := by rw [← hg13]; rfl
          have u11 : (g13 25 2).toInt = ((g11 25 2) ||| 0).toInt := by rw [← hg13]; rfl
          have u12 : (g13 25 3).toInt = (g11 25 3).toInt := by rw [← hg13]; rfl
          refine S1.bd (s_3 r1 x2 h1 g13 Ig13 (by omega)) ?_
          intro g14 hvg14 hRg14
          have hRg14 : Inv g14 ∧ True := hRg14
          have y13 : 0 ≤ (g14 25 3).toInt ∧ (g14 25 3).toInt ≤ 8 := Inv.rd (r := 25) (c := 0) hRg14.1 3 rfl
          try have y14 := zi_add (x := x2) (y := (1 : Int32)) (by omega) (by omega)
          exact (ih (x2 + 1) g14 hRg14.1 (by omega))
        · skip
          have chc12 := zc_neF hc12
          try have y15 := zi_and (x := x2) (y := (31 : Int32)) (by omega)
          try have y16 := zi_shl1 (x := x2) (by omega)
          refine S1.lt ?_
          intro g15 hg15
          have Ig15 : Inv g15 := Inv.up Ig11 hg15 rfl trivial
          have u17 : (g15 25 1).toInt = (g11 25 1).toInt := by rw [← hg15]; rfl
          have u18 : (g15 25 2).toInt = ((g11 25 2) ||| ((1 : Int32) <<< (x2 &&& 31))).toInt := by rw [← hg15]; rfl
          have u19 : (g15 25 3).toInt = (g11 25 3).toInt := by rw [← hg15]; rfl
          refine S1.bd (s_3 r1 x2 h1 g15 Ig15 (by omega)) ?_
          intro g16 hvg16 hRg16
          have hRg16 : Inv g16 ∧ True := hRg16
          have y20 : 0 ≤ (g16 25 3).toInt ∧ (g16 25 3).toInt ≤ 8 := Inv.rd (r := 25) (c := 0) hRg16.1 3 rfl
          try have y21 := zi_add (x := x2) (y := (1 : Int32)) (by omega) (by omega)
          exact (ih (x2 + 1) g16 hRg16.1 (by omega))
      · skip
        have chc10 := zc_neF hc10
        try have y22 := zi_and (x := x2) (y := (31 : Int32)) (by omega)
        try have y23 := zi_shl1 (x := x2) (by omega)
        refine S1.lt ?_
        intro g17 hg17
        have Ig17 : Inv g17 := Inv.up Ig8 hg17 rfl trivial
        have u24 : (g17 25 1).toInt = ((g8 25 1) ||| ((1 : Int32) <<< (x2 &&& 31))).toInt := by rw [← hg17]; rfl
        have u25 : (g17 25 2).toInt = (g8 25 2).toInt := by rw [← hg17]; rfl
        have u26 : (g17 25 3).toInt = (g8 25 3).toInt := by rw [← hg17]; rfl
        refine S1.ite (fun hc18 => ?_) (fun hc18 => ?_)
        · skip
          have chc18 := zc_neT hc18
          refine S1.lt ?_
          intro g19 hg19
          have Ig19 : Inv g19 := Inv.up Ig17 hg19 rfl trivial
          have u27 : (g19 25 1).toInt = (g17 25 1).toInt := by rw [← hg19]; rfl
          have u28 : (g19 25 2).toInt = ((g17 25 2) ||| 0).toInt := by rw [← hg19]; rfl
          have u29 : (g19 25 3).toInt = (g17 25 3).toInt := by rw [← hg19]; rfl
          refine S1.bd (s_3 r1 x2 h1 g19 Ig19 (by omega)) ?_
          intro g20 hvg20 hRg20
          have hRg20 : Inv g20 ∧ True := hRg20
          have y30 : 0 ≤ (g20 25 3).toInt ∧ (g20 25 3).toInt ≤ 8 := Inv.rd (r := 25) (c := 0) hRg20.1 3 rfl
          try have y31 := zi_add (x := x2) (y := (1 : Int32)) (by omega) (by omega)
          exact (ih (x2 + 1) g20 hRg20.1 (by omega))
        · skip
          have chc18 := zc_neF hc18
          refine S1.lt ?_
          intro g21 hg21
          have Ig21 : Inv g21 := Inv.up Ig17 hg21 rfl trivial
          have u32 : (g21 25 1).toInt = (g17 25 1).toInt := by rw [← hg21]; rfl
          have u33 : (g21 25 2).toInt = ((g17 25 2) ||| ((1 : Int32) <<< (x2 &&& 31))).toInt := by rw [← hg21]; rfl
          have u34 : (g21 25 3).toInt = (g17 25 3).toInt := by rw [← hg21]; rfl
          refine S1.bd (s_3 r1 x2 h1 g21 Ig21 (by omega)) ?_
          intro g22 hvg22 hRg22
          have hRg22 : Inv g22 ∧ True := hRg22
          have y35 : 0 ≤ (g22 25 3).toInt ∧ (g22 25 3).toInt ≤ 8 := Inv.rd (r := 25) (c := 0) hRg22.1 3 rfl
          try have y36 := zi_add (x := x2) (y := (1 : Int32)) (by omega) (by omega)
          exact (ih (x2 + 1) g22 hRg22.1 (by omega))
/-- EveningFirst$Bonds.look -/
theorem s_2 (r1 : Nat) (h1 : zg_cl r1 = 2) (g : G) (hI : Inv g) (hp : True) : S1 (d_2 r1 g) (fun q : G => Inv q ∧ True) := by
  unfold d_2
  have L0 := zl_0
  have L1 := zl_1
  have L31 := zl_31
  have yp47 : 0 ≤ (g 25 3).toInt ∧ (g 25 3).toInt ≤ 8 := Inv.rd (r := 25) (c := 0) hI 3 rfl
  have y38 : 0 ≤ (g r1 2).toInt ∧ (g r1 2).toInt ≤ 8 := Inv.rd (r := r1) (c := 2) hI 2 h1
  refine S1.lt ?_
  intro g1 hg1
  have Ig1 : Inv g1 := Inv.up hI hg1 rfl (show 0 ≤ (g r1 2).toInt ∧ (g r1 2).toInt ≤ 8 by omega)
  have u39 : (g1 25 3).toInt = (g r1 2).toInt := by rw [← hg1]; rfl
  have y40 : 0 ≤ (g1 25 3).toInt ∧ (g1 25 3).toInt ≤ 8 := Inv.rd (r := 25) (c := 0) Ig1 3 rfl
  try have y41 := zi_and (x := (g1 25 3)) (y := (31 : Int32)) (by omega)
  try have y42 := zi_shl1 (x := (g1 25 3)) (by omega)
  try have y43 := zi_sub (x := ((1 : Int32) <<< ((g1 25 3) &&& 31))) (y := (1 : Int32)) (by omega) (by omega)
  refine S1.lt ?_
  intro g2 hg2
  have Ig2 : Inv g2 := Inv.up Ig1 hg2 rfl (show 0 ≤ (((1 : Int32) <<< ((g1 25 3) &&& 31)) - 1).toInt ∧ (((1 : Int32) <<< ((g1 25 3) &&& 31)) - 1).toInt ≤ 255 by omega)
  have u44 : (g2 25 3).toInt = (g1 25 3).toInt := by rw [← hg2]; rfl
  refine S1.lt ?_
  intro g3 hg3
  have Ig3 : Inv g3 := Inv.up Ig2 hg3 rfl trivial
  have u45 : (g3 25 3).toInt = (g2 25 3).toInt := by rw [← hg3]; rfl
  refine S1.lt ?_
  intro g4 hg4
  have Ig4 : Inv g4 := Inv.up Ig3 hg4 rfl trivial
  have u46 : (g4 25 3).toInt = (g3 25 3).toInt := by rw [← hg4]; rfl
  exact (s_2_32 r1 h1 300 (0 : Int32) g4 Ig4 (by omega))
theorem s_4_22 (x2 : Int32) (x4 : Int32) (g : G) (hI : Inv g) : ∀ (f : Nat) (x3 : Int32) (x5 : Int32), 0 ≤ x5.toInt ∧ x5.toInt ≤ 6 ∧ 6 - x5.toInt < (f : Int) ∧ 0 ≤ x4.toInt ∧ x4.toInt ≤ 42 → S1 (d_4_22 x2 x4 g f x3 x5) (fun q : Int32 => True ∧ True) := by
  intro f
  induction f with
  | zero =>
    intro x3 x5 hp
    exfalso
    omega
  | succ f ih =>
    intro x3 x5 hp
    rw [d_4_22.eq_2]
    have Lm1 := zl_m1
    have L0 := zl_0
    have L1 := zl_1
    have L6 := zl_6
    have L31 := zl_31
    refine S1.ite (fun hc3 => ?_) (fun hc3 => ?_)
    · skip
      have chc3 := zc_geT hc3
      exact S1.ret (show True ∧ True from ⟨trivial, trivial⟩)
    · skip
      have chc3 := zc_geF hc3
      try have y1 := zi_add (x := x4) (y := x5) (by omega) (by omega)
      refine S1.ix (by omega) ?_
      intro k4 hk4 bk4
      try have y2 := zi_and (x := (g 27 k4)) (y := x2) (by omega)
      refine S1.ite (fun hc5 => ?_) (fun hc5 => ?_)
      · skip
        have chc5 := zc_eqT hc5
        try have y3 := zi_add (x := x5) (y := (1 : Int32)) (by omega) (by omega)
        exact (ih x3 (x5 + 1) (by omega))
      · skip
        have chc5 := zc_eqF hc5
        try have y4 := zi_and (x := x5) (y := (31 : Int32)) (by omega)
        try have y5 := zi_shl1 (x := x5) (by omega)
        try have y6 := zi_and (x := x3) (y := (((1 : Int32) <<< (x5 &&& 31)) ^^^ (-1))) (by omega)
        try have y7 := zi_add (x := x5) (y := (1 : Int32)) (by omega) (by omega)
        exact (ih (x3 &&& (((1 : Int32) <<< (x5 &&& 31)) ^^^ (-1))) (x5 + 1) (by omega))
/-- EveningFirst$Bonds.lackingFor -/
theorem s_4 (x1 : Int32) (x2 : Int32) (g : G) (hI : Inv g) (hp : 0 ≤ x1.toInt ∧ x1.toInt ≤ 7) : S1 (d_4 x1 x2 g) (fun q : Int32 => True ∧ True) := by
  unfold d_4
  have L0 := zl_0
  have L6 := zl_6
  refine S1.ix (by omega) ?_
  intro k1 hk1 bk1
  refine S1.ite (fun hc2 => ?_) (fun hc2 => ?_)
  · skip
    have chc2 := zc_neT hc2
    try have y8 := zi_mulr (x := x1) (y := (6 : Int32)) (n := 6) (by decide) (by omega) (by omega)
    exact (s_4_22 x2 (x1 * 6) g hI 300 (g 26 k1) (0 : Int32) (by omega))
  · skip
    have chc2 := zc_neF hc2
    exact S1.ret (show True ∧ True from ⟨trivial, trivial⟩)
